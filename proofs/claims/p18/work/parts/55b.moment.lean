/-! one row, both balls; a moment -/
theorem LX0_along_s (n : Nat) (n0 i0 : Int32) (b : Ba) : LX0_goAlong (n + 1) n0 i0 b = if n0 ≤ i0 then some b else if en b = 0 then LX0_goAlong n n0 (i0 + 1) (fX0_goOneRow b) else some b := by
  rw [LX0_goAlong]

theorem LX3_along_s (n : Nat) (n0 i0 co ro hei ac al ri fr bo to m : Int32) (c : ¬ n0 ≤ i0) (nx : Int32) (hnx : nx = if al ≤ 0 then ro - 1 else ro + 1) :
    LX3_go (n + 1) 1 n0 i0 (co, ro, hei, ac, al, ri, fr, bo, to, m) =
      if nx ≤ 29 then (if 0 ≤ nx then (if fX3_isFree co nx = 0 then LX3_go n 1 n0 (i0 + 1) (co, ro, hei, ac, -al, ri, fr, bo, to + 1, m) else LX3_go n 1 n0 (i0 + 1) (co, nx, hei, ac, al, ri, fr, bo, to, m))
        else (if 3 < hei then LX3_go n 1 n0 (i0 + 1) (co, ro, hei, ac, -al, ri, fr + 1, bo, to, m) else some (1, (co, ro, hei, ac, -al, ri, fr + 1, bo, to, m))))
      else (if bo = 0 then some (2, (co, ro, hei, ac, al, ri, fr, bo, to, m)) else some (3, (co, ro, hei, ac, al, ri, fr, bo, to, m))) := by
  refine (if_neg c).trans ?_
  by_cases h : al ≤ 0
  · rw [if_pos h] at hnx
    subst hnx
    exact if_pos h
  · rw [if_neg h] at hnx
    subst hnx
    exact if_neg h
theorem row_br {co ro hei ac al ri fr bo to mo : Int32} (g1 : 0 ≤ co.toInt) (g2 : co.toInt ≤ 11) (g3 : 0 ≤ ro.toInt) (g4 : ro.toInt ≤ 29) (hN : fX0_isButtress co ro = 0) (h0 : ¬ al.toInt = 0) (g7 : -2 ≤ al.toInt) (g8 : al.toInt ≤ 2) :
    ∃ ro' al' fr' to' e' : Int32, fX0_goOneRow (co, ro, hei, ac, al, ri, fr, bo, to, mo, 0) = (co, ro', hei, ac, al', ri, fr', bo, to', mo, e') ∧
      (∀ (n : Nat) (n0 i0 : Int32), ¬ n0 ≤ i0 → LX3_go (n + 1) 1 n0 i0 (co, ro, hei, ac, al, ri, fr, bo, to, mo) = if e' = 0 then LX3_go n 1 n0 (i0 + 1) (co, ro', hei, ac, al', ri, fr', bo, to', mo) else some (e', (co, ro', hei, ac, al', ri, fr', bo, to', mo))) ∧
      0 ≤ ro'.toInt ∧ ro'.toInt ≤ 29 ∧ fX0_isButtress co ro' = 0 ∧ (al' = al ∨ al' = -al) ∧ (e' = 0 ∨ e' = 1 ∨ (e' = 2 ∧ bo = 0) ∨ (e' = 3 ∧ ¬ bo = 0)) ∧ ro'.toInt - ro.toInt ≤ 1 ∧ ro.toInt - ro'.toInt ≤ 1 ∧ (∃ d : Nat, d ≤ 1 ∧ fr' = fr + nI d) ∧ (∃ d : Nat, d ≤ 1 ∧ to' = to + nI d) := by
  have e0 : ∀ x : Int32, x = x + nI 0 := fun x => (Int32.add_zero x).symm
  have H : fX0_goOneRow (co, ro, hei, ac, al, ri, fr, bo, to, mo, 0) =
      if 0 ≤ ro + fJ6_signum al then (if ro + fJ6_signum al < 30 then (if fX0_isButtress co (ro + fJ6_signum al) = 0 then (co, ro + fJ6_signum al, hei, ac, al, ri, fr, bo, to, mo, 0)
          else (co, ro, hei, ac, -al, ri, fr, bo, to + 1, mo, 0))
        else (if bo = 0 then (co, ro, hei, ac, al, ri, fr, bo, to, mo, 2) else (co, ro, hei, ac, al, ri, fr, bo, to, mo, 3)))
      else (if 4 ≤ hei then (co, ro, hei, ac, -al, ri, fr + 1, bo, to, mo, 0) else (co, ro, hei, ac, -al, ri, fr + 1, bo, to, mo, 1)) := rfl
  have hs : (ro + fJ6_signum al).toInt - ro.toInt ≤ 1 ∧ ro.toInt - (ro + fJ6_signum al).toInt ≤ 1 ∧ ro + fJ6_signum al = if al ≤ 0 then ro - 1 else ro + 1 := by
    rcases sg h0 g7 g8 with ⟨e1, e2⟩ | ⟨e1, e2⟩
    · rw [e2, if_neg (by rw [kleI, n0]; omega), kadd (by rw [n1]; omega) (by rw [n1]; omega), n1]
      exact ⟨by omega, by omega, rfl⟩
    · rw [e2, if_pos (by rw [kleI, n0]; omega), kadd (by rw [nm1]; omega) (by rw [nm1]; omega), nm1, add_m1]
      exact ⟨by omega, by omega, rfl⟩
  have S := fun (n : Nat) (n0 i0 : Int32) (hj : ¬ n0 ≤ i0) => LX3_along_s n n0 i0 co ro hei ac al ri fr bo to mo hj (ro + fJ6_signum al) hs.2.2
  rw [H]
  obtain ⟨hs1, hs2, -⟩ := hs
  generalize hnx : ro + fJ6_signum al = nx at hs1 hs2 S ⊢
  have d0 : ((0 : Int32) = 0) := rfl
  have d1 : ¬ ((1 : Int32) = 0) := by decide
  have d2 : ¬ ((2 : Int32) = 0) := by decide
  have d3 : ¬ ((3 : Int32) = 0) := by decide
  by_cases c1 : (0 : Int32) ≤ nx
  · have c1' : 0 ≤ nx.toInt := by rw [kleI, n0] at c1; omega
    by_cases c2 : nx < 30
    · have c2' : nx.toInt < 30 := by rw [kltI, n30] at c2; omega
      have c3 : nx ≤ 29 := by rw [kleI, n29]; omega
      rcases free_br co nx with ⟨e, h⟩ | ⟨e, f1, f2, f3⟩
      · have c4 : ¬ fX0_isButtress co nx = 0 := by
          rcases h with h | h | h
          · rw [kltI, n0] at h; omega
          · rw [kleI, n12] at h; omega
          · exact h
        refine ⟨ro, -al, fr, to + 1, 0, ?_, fun n n0 i0 hj => ?_, g3, g4, hN, Or.inr rfl, Or.inl rfl, by omega, by omega, ⟨0, by omega, e0 _⟩, ⟨1, by omega, rfl⟩⟩
        · rw [if_pos c1, if_pos c2, if_neg c4]
        · rw [S n n0 i0 hj, if_pos c3, if_pos c1, if_pos e, if_pos d0]
      · refine ⟨nx, al, fr, to, 0, ?_, fun n n0 i0 hj => ?_, c1', by omega, f3, Or.inl rfl, Or.inl rfl, hs1, hs2, ⟨0, by omega, e0 _⟩, ⟨0, by omega, e0 _⟩⟩
        · rw [if_pos c1, if_pos c2, if_pos f3]
        · rw [S n n0 i0 hj, if_pos c3, if_pos c1, if_neg (by rw [e]; exact d1), if_pos d0]
    · have c3 : ¬ nx ≤ 29 := by
        rw [kltI, n30] at c2
        rw [kleI, n29]
        omega
      by_cases c4 : bo = 0
      · refine ⟨ro, al, fr, to, 2, ?_, fun n n0 i0 hj => ?_, g3, g4, hN, Or.inl rfl, Or.inr (Or.inr (Or.inl ⟨rfl, c4⟩)), by omega, by omega, ⟨0, by omega, e0 _⟩, ⟨0, by omega, e0 _⟩⟩
        · rw [if_pos c1, if_neg c2, if_pos c4]
        · rw [S n n0 i0 hj, if_neg c3, if_pos c4, if_neg d2]
      · refine ⟨ro, al, fr, to, 3, ?_, fun n n0 i0 hj => ?_, g3, g4, hN, Or.inl rfl, Or.inr (Or.inr (Or.inr ⟨rfl, c4⟩)), by omega, by omega, ⟨0, by omega, e0 _⟩, ⟨0, by omega, e0 _⟩⟩
        · rw [if_pos c1, if_neg c2, if_neg c4]
        · rw [S n n0 i0 hj, if_neg c3, if_neg c4, if_neg d3]
  · have c3 : nx ≤ 29 := by
      rw [kleI, n0] at c1
      rw [kleI, n29]
      omega
    by_cases c4 : (4 : Int32) ≤ hei
    · have c5 : 3 < hei := by rw [kltI, n3]; rw [kleI, n4] at c4; omega
      refine ⟨ro, -al, fr + 1, to, 0, ?_, fun n n0 i0 hj => ?_, g3, g4, hN, Or.inr rfl, Or.inl rfl, by omega, by omega, ⟨1, by omega, rfl⟩, ⟨0, by omega, e0 _⟩⟩
      · rw [if_neg c1, if_pos c4]
      · rw [S n n0 i0 hj, if_pos c3, if_neg c1, if_pos c5, if_pos d0]
    · have c5 : ¬ 3 < hei := by rw [kltI, n3]; rw [kleI, n4] at c4; omega
      refine ⟨ro, -al, fr + 1, to, 1, ?_, fun n n0 i0 hj => ?_, g3, g4, hN, Or.inr rfl, Or.inr (Or.inl rfl), by omega, by omega, ⟨1, by omega, rfl⟩, ⟨0, by omega, e0 _⟩⟩
      · rw [if_neg c1, if_neg c4]
      · rw [S n n0 i0 hj, if_pos c3, if_neg c1, if_neg c5, if_neg d1]
theorem nI_tr {x y z : Int32} {p q a b : Nat} (ha : a ≤ p) (hb : b ≤ q) (h1 : y = x + nI a) (h2 : z = y + nI b) : ∃ d : Nat, d ≤ p + q ∧ z = x + nI d :=
  ⟨a + b, by omega, by rw [h2, h1, Int32.add_assoc, nI_add]⟩
/-- behind so many rows: still flying, at the second loop's end; or ended -/
theorem along_br {co hei ac ri bo mo : Int32} (q1 : 0 ≤ co.toInt) (q2 : co.toInt ≤ 11) (k : Nat) : ∀ (n n' : Nat) (n0 i0 j0 k0 ro al fr to : Int32), n0.toInt - i0.toInt = k → k0.toInt - j0.toInt = k → k < n → k < n' →
    0 ≤ ro.toInt → ro.toInt ≤ 29 → fX0_isButtress co ro = 0 → (k = 0 ∨ ¬ al.toInt = 0) → -2 ≤ al.toInt → al.toInt ≤ 2 →
    ∃ ro' al' fr' to' e' : Int32, LX0_goAlong n n0 i0 (co, ro, hei, ac, al, ri, fr, bo, to, mo, 0) = some (co, ro', hei, ac, al', ri, fr', bo, to', mo, e') ∧
      ((e' = 0 ∧ ∃ (n2 : Nat) (j1 : Int32), LX3_go n' 1 k0 j0 (co, ro, hei, ac, al, ri, fr, bo, to, mo) = LX3_go (n2 + 1) 1 k0 j1 (co, ro', hei, ac, al', ri, fr', bo, to', mo) ∧ k0 ≤ j1) ∨
       (¬ e' = 0 ∧ LX3_go n' 1 k0 j0 (co, ro, hei, ac, al, ri, fr, bo, to, mo) = some (e', (co, ro', hei, ac, al', ri, fr', bo, to', mo)))) ∧
      0 ≤ ro'.toInt ∧ ro'.toInt ≤ 29 ∧ fX0_isButtress co ro' = 0 ∧ (al' = al ∨ al' = -al) ∧ (e' = 0 ∨ e' = 1 ∨ (e' = 2 ∧ bo = 0) ∨ (e' = 3 ∧ ¬ bo = 0)) ∧ ro'.toInt - ro.toInt ≤ k ∧ ro.toInt - ro'.toInt ≤ k ∧ (∃ d : Nat, d ≤ k ∧ fr' = fr + nI d) ∧ (∃ d : Nat, d ≤ k ∧ to' = to + nI d) := by
  have e0 : ∀ x : Int32, x = x + nI 0 := fun x => (Int32.add_zero x).symm
  induction k with
  | zero =>
    intro n n' n0' i0 j0 k0 ro al fr to h1 h2 h3 h4 g1 g2 gN g3 g4 g5
    obtain ⟨n, rfl⟩ : ∃ m, n = m + 1 := ⟨n - 1, by omega⟩
    obtain ⟨n', rfl⟩ : ∃ m, n' = m + 1 := ⟨n' - 1, by omega⟩
    refine ⟨ro, al, fr, to, 0, ?_, Or.inl ⟨rfl, n', j0, rfl, by rw [kleI]; omega⟩, g1, g2, gN, Or.inl rfl, Or.inl rfl, by omega, by omega, ⟨0, by omega, e0 _⟩, ⟨0, by omega, e0 _⟩⟩
    rw [LX0_along_s, if_pos (by rw [kleI]; omega)]
  | succ k ih =>
    intro n n' n0' i0 j0 k0 ro al fr to h1 h2 h3 h4 g1 g2 gN g3 g4 g5
    obtain ⟨n, rfl⟩ : ∃ m, n = m + 1 := ⟨n - 1, by omega⟩
    obtain ⟨n', rfl⟩ : ∃ m, n' = m + 1 := ⟨n' - 1, by omega⟩
    have hl := Int32.toInt_lt n0'
    have hl2 := Int32.toInt_lt k0
    obtain ⟨ro1, al1, fr1, to1, e1, f1, f2, f3, f4, fN, f5, f6, f7, f8, ⟨da, da1, da2⟩, ⟨db, db1, db2⟩⟩ := row_br (co := co) (hei := hei) (ac := ac) (ri := ri) (fr := fr) (to := to) (bo := bo) (mo := mo) q1 q2 g1 g2 gN (by rcases g3 with h | h; omega; exact h) g4 g5
    have e := kincI (a := i0) (m := n0'.toInt) (by omega) (by omega)
    have e' := kincI (a := j0) (m := k0.toInt) (by omega) (by omega)
    have gb := pm_b g4 g5 f5
    rw [LX0_along_s, if_neg (by rw [kleI]; omega), if_pos (show en (co, ro, hei, ac, al, ri, fr, bo, to, mo, 0) = 0 from rfl), f1, f2 n' k0 j0 (by rw [kleI]; omega)]
    by_cases he : e1 = 0
    · subst he
      rw [if_pos rfl]
      obtain ⟨ro', al', fr', to', e9, r1, r2, r3, r4, rN, r5, r6, r7, r8, ⟨dc, dc1, dc2⟩, ⟨dd, dd1, dd2⟩⟩ := ih n n' n0' (i0 + 1) (j0 + 1) k0 ro1 al1 fr1 to1 (by rw [e]; omega) (by rw [e']; omega) (by omega) (by omega) f3 f4 fN (Or.inr (by rcases g3 with h | h <;> omega)) (by omega) (by omega)
      refine ⟨ro', al', fr', to', e9, r1, r2, r3, r4, rN, pm_trans f5 r5, r6, by omega, by omega, ?_, ?_⟩
      · have := nI_tr da1 dc1 da2 dc2
        rwa [Nat.add_comm 1 k] at this
      · have := nI_tr db1 dd1 db2 dd2
        rwa [Nat.add_comm 1 k] at this
    · obtain ⟨n, rfl⟩ : ∃ m, n = m + 1 := ⟨n - 1, by omega⟩
      refine ⟨ro1, al1, fr1, to1, e1, ?_, Or.inr ⟨he, ?_⟩, f3, f4, fN, f5, f6, by omega, by omega, ⟨da, by omega, da2⟩, ⟨db, by omega, db2⟩⟩
      · rw [LX0_along_s, if_neg (show ¬ en (co, ro1, hei, ac, al1, ri, fr1, bo, to1, mo, e1) = 0 from he), ite_self]
      · rw [if_neg he]

/-- up and down, both balls -/
theorem fall (n : Nat) (k0 j1 co ro hei ac al ri fr bo to mo : Int32) (hk : k0 ≤ j1) (hb : bo.toInt = 0 ∨ bo.toInt = 1) :
    ∃ hei' ri' bo' e' : Int32, fX0_goUpOrDown (co, ro, hei, ac, al, ri, fr, bo, to, mo, 0) = (co, ro, hei', ac, al, ri', fr, bo', to, mo, e') ∧
      LX3_go (n + 1) 1 k0 j1 (co, ro, hei, ac, al, ri, fr, bo, to, mo) = some (e', (co, ro, hei', ac, al, ri', fr, bo', to, mo)) ∧
      ((e' = 0 ∧ hei' = hei + ri ∧ ri' = ri - 1 ∧ bo' = bo ∧ (0 < hei' ∨ 0 ≤ ri')) ∨
        (hei' = 0 ∧ ri' = (-(ri - 1)) / 2 ∧ bo' = bo + 1 ∧ ¬ 0 < hei + ri ∧ ¬ 0 ≤ ri - 1 ∧ ((e' = 1 ∧ fr = 0) ∨ (e' = 3 ∧ ¬ fr = 0) ∨ (e' = 0 ∧ ¬ bo' = 2 ∧ ¬ fr = 0)))) := by
  have H : fX0_goUpOrDown (co, ro, hei, ac, al, ri, fr, bo, to, mo, 0) =
      if 0 < hei + ri then (co, ro, hei + ri, ac, al, ri - 1, fr, bo, to, mo, 0)
      else if 0 ≤ ri - 1 then (co, ro, hei + ri, ac, al, ri - 1, fr, bo, to, mo, 0)
      else if fr = 0 then (co, ro, 0, ac, al, (-(ri - 1)) / 2, fr, bo + 1, to, mo, 1)
      else if bo + 1 = 2 then (co, ro, 0, ac, al, (-(ri - 1)) / 2, fr, bo + 1, to, mo, 3)
      else (co, ro, 0, ac, al, (-(ri - 1)) / 2, fr, bo + 1, to, mo, 0) := rfl
  have eN : 0 - (ri - 1) = -(ri - 1) := by simp
  have K : LX3_go (n + 1) 1 k0 j1 (co, ro, hei, ac, al, ri, fr, bo, to, mo) =
      if 1 ≤ hei + ri then some (0, (co, ro, hei + ri, ac, al, ri - 1, fr, bo, to, mo))
      else if 0 ≤ ri - 1 then some (0, (co, ro, hei + ri, ac, al, ri - 1, fr, bo, to, mo))
      else if fr = 0 then some (1, (co, ro, 0, ac, al, (-(ri - 1)) / 2, fr, bo + 1, to, mo))
      else if bo + 1 ≤ 1 then some (0, (co, ro, 0, ac, al, (-(ri - 1)) / 2, fr, bo + 1, to, mo))
      else some (3, (co, ro, 0, ac, al, (-(ri - 1)) / 2, fr, bo + 1, to, mo)) := by
    rw [← eN]
    exact if_pos hk
  rw [H, K]
  by_cases c1 : 0 < hei + ri
  · have c1' : 1 ≤ hei + ri := by rw [kleI, n1]; rw [kltI, n0] at c1; omega
    refine ⟨hei + ri, ri - 1, bo, 0, ?_, ?_, Or.inl ⟨rfl, rfl, rfl, rfl, Or.inl c1⟩⟩
    · rw [if_pos c1]
    · rw [if_pos c1']
  · have c1' : ¬ 1 ≤ hei + ri := by rw [kleI, n1]; rw [kltI, n0] at c1; omega
    rw [if_neg c1, if_neg c1']
    by_cases c2 : 0 ≤ ri - 1
    · refine ⟨hei + ri, ri - 1, bo, 0, ?_, ?_, Or.inl ⟨rfl, rfl, rfl, rfl, Or.inr c2⟩⟩
      · rw [if_pos c2]
      · rw [if_pos c2]
    · rw [if_neg c2, if_neg c2]
      by_cases c4 : fr = 0
      · refine ⟨0, (-(ri - 1)) / 2, bo + 1, 1, ?_, ?_, Or.inr ⟨rfl, rfl, rfl, c1, c2, Or.inl ⟨rfl, c4⟩⟩⟩
        · rw [if_pos c4]
        · rw [if_pos c4]
      · rw [if_neg c4, if_neg c4]
        rcases hb with hb | hb
        · have hb' : bo = 0 := by rw [keqI, n0]; exact hb
          subst hb'
          refine ⟨0, (-(ri - 1)) / 2, 0 + 1, 0, ?_, ?_, Or.inr ⟨rfl, rfl, rfl, c1, c2, Or.inr (Or.inr ⟨rfl, by decide, c4⟩)⟩⟩
          · rw [if_neg (by decide)]
          · rw [if_pos (by decide)]
        · have hb' : bo = 1 := by rw [keqI, n1]; exact hb
          subst hb'
          refine ⟨0, (-(ri - 1)) / 2, 1 + 1, 3, ?_, ?_, Or.inr ⟨rfl, rfl, rfl, c1, c2, Or.inr (Or.inl ⟨rfl, c4⟩)⟩⟩
          · rw [if_pos (by decide)]
          · rw [if_neg (by decide)]

/-- what one moment makes of height, rise and bounces -/
def Mom (b B : Ba) : Prop :=
  (¬ en B = 0) ∨
  (en B = 0 ∧ B.2.2.1 = b.2.2.1 + b.2.2.2.2.2.1 ∧ B.2.2.2.2.2.1 = b.2.2.2.2.2.1 - 1 ∧ B.2.2.2.2.2.2.2.1 = b.2.2.2.2.2.2.2.1 ∧ (0 < B.2.2.1 ∨ 0 ≤ B.2.2.2.2.2.1)) ∨
  (en B = 0 ∧ B.2.2.1 = 0 ∧ B.2.2.2.2.2.1 = (-(b.2.2.2.2.2.1 - 1)) / 2 ∧ B.2.2.2.2.2.2.2.1 = b.2.2.2.2.2.2.2.1 + 1 ∧ ¬ 0 < b.2.2.1 + b.2.2.2.2.2.1 ∧ ¬ 0 ≤ b.2.2.2.2.2.1 - 1 ∧ ¬ B.2.2.2.2.2.2.2.1 = 2)

/-- what else one moment keeps -/
def Ext (b B : Ba) : Prop :=
  B.2.1.toInt - b.2.1.toInt ≤ 2 ∧ b.2.1.toInt - B.2.1.toInt ≤ 2 ∧ (B.2.2.2.1 = b.2.2.2.1 ∨ B.2.2.2.1 = -b.2.2.2.1) ∧ (B.2.2.2.2.1 = b.2.2.2.2.1 ∨ B.2.2.2.2.1 = -b.2.2.2.2.1) ∧
  (∃ d : Nat, d ≤ 2 ∧ B.2.2.2.2.2.2.1 = b.2.2.2.2.2.2.1 + nI d) ∧ (∃ d : Nat, d ≤ 4 ∧ B.2.2.2.2.2.2.2.2.1 = b.2.2.2.2.2.2.2.2.1 + nI d) ∧
  (B.2.2.2.2.2.2.2.1 = b.2.2.2.2.2.2.2.1 ∨ B.2.2.2.2.2.2.2.1 = b.2.2.2.2.2.2.2.1 + 1) ∧
  (en B = 0 → B.2.2.2.2.2.2.2.1 = b.2.2.2.2.2.2.2.1 ∨ (B.2.2.2.2.2.2.2.1 = b.2.2.2.2.2.2.2.1 + 1 ∧ ¬ B.2.2.2.2.2.2.1 = 0 ∧ ¬ B.2.2.2.2.2.2.2.1 = 2)) ∧
  (en B = 3 → (¬ b.2.2.2.2.2.2.2.1 = 0 ∧ B.2.2.2.2.2.2.2.1 = b.2.2.2.2.2.2.2.1) ∨ (¬ B.2.2.2.2.2.2.1 = 0 ∧ B.2.2.2.2.2.2.2.1 = b.2.2.2.2.2.2.2.1 + 1)) ∧
  (en B = 2 → b.2.2.2.2.2.2.2.1 = 0 ∧ B.2.2.2.2.2.2.2.1 = b.2.2.2.2.2.2.2.1)
theorem go_F {b : Lb} {r : Int32 × Lb} (h : LX3_go 4294967300 0 (if 0 ≤ b.2.2.2.1 then b.2.2.2.1 else -b.2.2.2.1) 0 (b.1, b.2.1, b.2.2.1, b.2.2.2.1, b.2.2.2.2.1, b.2.2.2.2.2.1, b.2.2.2.2.2.2.1, b.2.2.2.2.2.2.2.1, b.2.2.2.2.2.2.2.2.1, (b.2.2.2.2.2.2.2.2.2 + 1)) = some r) : fX3_go b = r := by
  refine keps (d := (0, b)) ?_
  rw [← h]
  unfold FX3_go
  by_cases c : 0 ≤ b.2.2.2.1
  · rw [if_pos c, if_pos c]
  · rw [if_neg c, if_neg c]
theorem mom_br {b : Ba} (hG : Geo b) (hN : NB b) (he : en b = 0) (hb : b.2.2.2.2.2.2.2.1.toInt = 0 ∨ b.2.2.2.2.2.2.2.1.toInt = 1) :
    ∃ B : Ba, fX0_passMoment b = B ∧ fX3_go (c10 b) = (en B, c10 B) ∧ Geo B ∧ NB B ∧ B.2.2.2.2.2.2.2.2.2.1 = b.2.2.2.2.2.2.2.2.2.1 + 1 ∧ (en B = 0 ∨ en B = 1 ∨ en B = 2 ∨ en B = 3) ∧ Mom b B ∧ Ext b B := by
  obtain ⟨co, ro, hei, ac, al, ri, fr, bo, to, mo, e⟩ := b
  obtain ⟨g1, g2, g3, g4, g5, g6, g7, g8⟩ := hG
  have he' : e = 0 := he
  subst he'
  obtain ⟨⟨co', ro1, hei1, ac', al1, ri1, fr1, bo1, to', mo1, ee⟩, e1, ⟨nn, en1, e2⟩, e3, e4, eN, e5, e7, e8, e9, e10, e11, e12, e13, dt, dt1, dt2⟩ := across_br (b := (co, ro, hei, ac, al, ri, fr, bo, to, mo + 1, 0)) g5 g6 g1 g2 hN
  have e7' : ro1 = ro := e7
  have e8' : hei1 = hei := e8
  have e9' : al1 = al := e9
  have e10' : ri1 = ri := e10
  have e11' : fr1 = fr := e11
  have e12' : bo1 = bo := e12
  have e13' : mo1 = mo + 1 := congrArg Prod.fst e13
  have e14' : ee = 0 := congrArg Prod.snd e13
  have dt2' : to' = to + nI dt := dt2
  subst e7' e8' e9' e10' e11' e12' e13' e14'
  have gN : fX0_isButtress co' ro1 = 0 := eN
  have q5 := pm_b g5 g6 e5
  have q5' : ac'.toInt = ac.toInt ∨ ac'.toInt = -ac.toInt := q5
  have g5' : -2 ≤ ac.toInt := g5
  have g6' : ac.toInt ≤ 2 := g6
  obtain ⟨k, hk, ek, ek', kz⟩ := kabs (x := al1) g7 g8
  obtain ⟨ro', al', fr', to2, e', f1, f2, f3, f4, fN, f5, f6, f7, f8, ⟨da, da1, da2⟩, ⟨db, db1, db2⟩⟩ := along_br (hei := hei1) (ac := ac') (ri := ri1) (bo := bo1) (mo := mo + 1) e3 e4 k 2147483649 nn (if 0 ≤ al1 then al1 else 0 - al1) 0 0 (if 0 ≤ al1 then al1 else -al1) ro1 al1 fr1 to' (by rw [ek, n0]; omega) (by rw [ek', ek, n0]; omega) (by omega) (by omega) g3 g4 gN (by by_cases h : al1.toInt = 0; exact Or.inl (kz.mpr h); exact Or.inr h) g7 g8
  have hA : fX0_goAlong (co', ro1, hei1, ac', al1, ri1, fr1, bo1, to', mo + 1, 0) = (co', ro', hei1, ac', al', ri1, fr', bo1, to2, mo + 1, e') := keps (d := (co', ro1, hei1, ac', al1, ri1, fr1, bo1, to', mo + 1, 0)) f1
  have P : fX0_passMoment (co, ro1, hei1, ac, al1, ri1, fr1, bo1, to, mo, 0) = if e' = 0 then fX0_goUpOrDown (co', ro', hei1, ac', al', ri1, fr', bo1, to2, mo + 1, e') else (co', ro', hei1, ac', al', ri1, fr', bo1, to2, mo + 1, e') := by
    unfold fX0_passMoment
    show (if en (fX0_goAlong (fX0_goAcross (co, ro1, hei1, ac, al1, ri1, fr1, bo1, to, mo + 1, 0))) = 0 then fX0_goUpOrDown (fX0_goAlong (fX0_goAcross (co, ro1, hei1, ac, al1, ri1, fr1, bo1, to, mo + 1, 0))) else fX0_goAlong (fX0_goAcross (co, ro1, hei1, ac, al1, ri1, fr1, bo1, to, mo + 1, 0))) = _
    rw [e1, hA]
  have hL1 : L1 nn (c10 (co', ro1, hei1, ac', al1, ri1, fr1, bo1, to', mo + 1, 0)) = LX3_go nn 1 (if 0 ≤ al1 then al1 else -al1) 0 (co', ro1, hei1, ac', al1, ri1, fr1, bo1, to', mo + 1) := by
    unfold L1
    show (if 0 ≤ al1 then LX3_go nn 1 al1 0 _ else LX3_go nn 1 (-al1) 0 _) = _
    by_cases c : 0 ≤ al1
    · rw [if_pos c, if_pos c]
    · rw [if_neg c, if_neg c]
  have G : ∀ r, LX3_go nn 1 (if 0 ≤ al1 then al1 else -al1) 0 (co', ro1, hei1, ac', al1, ri1, fr1, bo1, to', mo + 1) = some r → fX3_go (c10 (co, ro1, hei1, ac, al1, ri1, fr1, bo1, to, mo, 0)) = r := fun r hr => go_F (e2.trans (hL1.trans hr))
  have hto : ∃ d : Nat, d ≤ 4 ∧ to2 = to + nI d := by
    obtain ⟨d, h1, h2⟩ := nI_tr dt1 db1 dt2' db2
    exact ⟨d, by omega, h2⟩
  have hfr : ∃ d : Nat, d ≤ 2 ∧ fr' = fr1 + nI d := ⟨da, by omega, da2⟩
  have f5b := pm_b g7 g8 f5
  have g7' : -2 ≤ al1.toInt := g7
  have g8' : al1.toInt ≤ 2 := g8
  rw [P]
  rcases f2 with ⟨c, n2, j1, fe, fj⟩ | ⟨c, fe⟩
  · subst c
    rw [if_pos rfl]
    obtain ⟨hei', ri', bo', e'', q1, q2, q3⟩ := fall n2 (if 0 ≤ al1 then al1 else -al1) j1 co' ro' hei1 ac' al' ri1 fr' bo1 to2 (mo + 1) fj hb
    refine ⟨_, q1, G _ (fe.trans q2), ⟨e3, e4, f3, f4, by show -2 ≤ ac'.toInt; omega, by show ac'.toInt ≤ 2; omega, by show -2 ≤ al'.toInt; omega, by show al'.toInt ≤ 2; omega⟩, fN, rfl, ?_, ?_, by show ro'.toInt - ro1.toInt ≤ 2; omega, by show ro1.toInt - ro'.toInt ≤ 2; omega, e5, f5, hfr, hto, ?_, ?_, ?_, ?_⟩
    · show e'' = 0 ∨ e'' = 1 ∨ e'' = 2 ∨ e'' = 3
      rcases q3 with ⟨h, _⟩ | ⟨_, _, _, _, _, ⟨h, _⟩ | ⟨h, _⟩ | ⟨h, _⟩⟩
      · exact Or.inl h
      · exact Or.inr (Or.inl h)
      · exact Or.inr (Or.inr (Or.inr h))
      · exact Or.inl h
    · rcases q3 with h | ⟨h1, h2, h3, h4, h5, ⟨h, _⟩ | ⟨h, _⟩ | ⟨h, h6, _⟩⟩
      · exact Or.inr (Or.inl h)
      · exact Or.inl (by show ¬ e'' = 0; rw [h]; decide)
      · exact Or.inl (by show ¬ e'' = 0; rw [h]; decide)
      · exact Or.inr (Or.inr ⟨h, h1, h2, h3, h4, h5, h6⟩)
    · show bo' = bo1 ∨ bo' = bo1 + 1
      rcases q3 with ⟨_, _, _, h, _⟩ | ⟨_, _, h, _⟩
      · exact Or.inl h
      · exact Or.inr h
    · show e'' = 0 → bo' = bo1 ∨ (bo' = bo1 + 1 ∧ ¬ fr' = 0 ∧ ¬ bo' = 2)
      intro hz
      rcases q3 with ⟨_, _, _, h, _⟩ | ⟨_, _, h, _, _, ⟨h9, _⟩ | ⟨h9, _⟩ | ⟨_, h8, h9⟩⟩
      · exact Or.inl h
      · rw [h9] at hz; exact absurd hz (by decide)
      · rw [h9] at hz; exact absurd hz (by decide)
      · exact Or.inr ⟨h, h9, h8⟩
    · show e'' = 3 → (¬ bo1 = 0 ∧ bo' = bo1) ∨ (¬ fr' = 0 ∧ bo' = bo1 + 1)
      intro hz
      rcases q3 with ⟨h9, _⟩ | ⟨_, _, h, _, _, ⟨h9, _⟩ | ⟨_, h9⟩ | ⟨h9, _⟩⟩
      · rw [h9] at hz; exact absurd hz (by decide)
      · rw [h9] at hz; exact absurd hz (by decide)
      · exact Or.inr ⟨h9, h⟩
      · rw [h9] at hz; exact absurd hz (by decide)
    · show e'' = 2 → bo1 = 0 ∧ bo' = bo1
      intro hz
      rcases q3 with ⟨h9, _⟩ | ⟨_, _, h, _, _, ⟨h9, _⟩ | ⟨h9, _⟩ | ⟨h9, _⟩⟩ <;> (rw [h9] at hz; exact absurd hz (by decide))
  · rw [if_neg c]
    refine ⟨_, rfl, G _ fe, ⟨e3, e4, f3, f4, by show -2 ≤ ac'.toInt; omega, by show ac'.toInt ≤ 2; omega, by show -2 ≤ al'.toInt; omega, by show al'.toInt ≤ 2; omega⟩, fN, rfl, ?_, Or.inl c, by show ro'.toInt - ro1.toInt ≤ 2; omega, by show ro1.toInt - ro'.toInt ≤ 2; omega, e5, f5, hfr, hto, Or.inl rfl, fun _ => Or.inl rfl, ?_, ?_⟩
    · show e' = 0 ∨ e' = 1 ∨ e' = 2 ∨ e' = 3
      rcases f6 with h | h | ⟨h, _⟩ | ⟨h, _⟩
      · exact Or.inl h
      · exact Or.inr (Or.inl h)
      · exact Or.inr (Or.inr (Or.inl h))
      · exact Or.inr (Or.inr (Or.inr h))
    · show e' = 3 → (¬ bo1 = 0 ∧ bo1 = bo1) ∨ (¬ fr' = 0 ∧ bo1 = bo1 + 1)
      intro hz
      rcases f6 with h | h | ⟨h, _⟩ | ⟨_, h⟩
      · rw [h] at hz; exact absurd hz (by decide)
      · rw [h] at hz; exact absurd hz (by decide)
      · rw [h] at hz; exact absurd hz (by decide)
      · exact Or.inl ⟨h, rfl⟩
    · show e' = 2 → bo1 = 0 ∧ bo1 = bo1
      intro hz
      rcases f6 with h | h | ⟨_, h⟩ | ⟨h, _⟩
      · rw [h] at hz; exact absurd hz (by decide)
      · rw [h] at hz; exact absurd hz (by decide)
      · exact ⟨h, rfl⟩
      · rw [h] at hz; exact absurd hz (by decide)
