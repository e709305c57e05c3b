/-! one row -/
theorem LX0_along_s (n : Nat) (n0 i0 : Int32) (b : Ba) : LX0_goAlong (n + 1) n0 i0 b = if n0 ≤ i0 then some b else if en b = 0 then LX0_goAlong n n0 (i0 + 1) (fX0_goOneRow b) else some b := by
  rw [LX0_goAlong]
theorem LX3_along_s (n : Nat) (j : Int32) (X : Mo) (co ro hei ac al ri fr bo to m : Int32) :
    LX3_goAlong (n + 1) j (sB X (co, ro, hei, ac, al, ri, fr, bo, to) m) =
      if j ≤ 0 then some (0, sB X (co, ro, hei, ac, al, ri, fr, bo, to) m)
      else if ro + fX3_sign al = 30 then (if bo ≤ 0 then some (2, sB X (co, ro, hei, ac, al, ri, fr, bo, to) m) else some (3, sB X (co, ro, hei, ac, al, ri, fr, bo, to) m))
      else if 0 ≤ ro + fX3_sign al then (if fX3_isButtress co (ro + fX3_sign al) = 0 then LX3_goAlong n (j + (-1)) (sB X (co, ro + fX3_sign al, hei, ac, al, ri, fr, bo, to) m)
        else LX3_goAlong n (j + (-1)) (sB X (co, ro, hei, ac, -al, ri, fr, bo, to + 1) m))
      else if 4 ≤ hei then LX3_goAlong n (j + (-1)) (sB X (co, ro, hei, ac, -al, ri, fr + 1, bo, to) m)
      else some (1, sB X (co, ro, hei, ac, -al, ri, fr + 1, bo, to) m) := by
  rw [LX3_goAlong]
  rfl
theorem row_br (X : Mo) (m : Int32) {co ro hei ac al ri fr bo to mo : Int32} (g3 : 0 ≤ ro.toInt) (g4 : ro.toInt ≤ 29) (h0 : ¬ al.toInt = 0) (g7 : -2 ≤ al.toInt) (g8 : al.toInt ≤ 2) (hb : 0 ≤ bo.toInt) :
    ∃ ro' al' fr' to' e' : Int32, fX0_goOneRow (co, ro, hei, ac, al, ri, fr, bo, to, mo, 0) = (co, ro', hei, ac, al', ri, fr', bo, to', mo, e') ∧
      (∀ (n : Nat) (j : Int32), ¬ j ≤ 0 → LX3_goAlong (n + 1) j (sB X (co, ro, hei, ac, al, ri, fr, bo, to) m) = if e' = 0 then LX3_goAlong n (j + (-1)) (sB X (co, ro', hei, ac, al', ri, fr', bo, to') m) else some (e', sB X (co, ro', hei, ac, al', ri, fr', bo, to') m)) ∧
      0 ≤ ro'.toInt ∧ ro'.toInt ≤ 29 ∧ ¬ al'.toInt = 0 ∧ -2 ≤ al'.toInt ∧ al'.toInt ≤ 2 ∧ (e' = 0 ∨ e' = 1 ∨ e' = 2 ∨ e' = 3) := by
  obtain ⟨e1, e2⟩ := sg h0 g7 g8
  have hn : (-al).toInt = -al.toInt := kneg (by omega)
  have hs : (ro + fX3_sign al).toInt = ro.toInt + (fX3_sign al).toInt := kadd (by omega) (by omega)
  have H : fX0_goOneRow (co, ro, hei, ac, al, ri, fr, bo, to, mo, 0) =
      if 0 ≤ ro + fX3_sign al then (if ro + fX3_sign al < 30 then (if fX3_isButtress co (ro + fX3_sign al) = 0 then (co, ro + fX3_sign al, hei, ac, al, ri, fr, bo, to, mo, 0)
          else (co, ro, hei, ac, -al, ri, fr, bo, to + 1, mo, 0))
        else (if bo = 0 then (co, ro, hei, ac, al, ri, fr, bo, to, mo, 2) else (co, ro, hei, ac, al, ri, fr, bo, to, mo, 3)))
      else (if 4 ≤ hei then (co, ro, hei, ac, -al, ri, fr + 1, bo, to, mo, 0) else (co, ro, hei, ac, -al, ri, fr + 1, bo, to, mo, 1)) := by
    unfold fX0_goOneRow fX0_touchFront
    rw [show (co, ro, hei, ac, al, ri, fr, bo, to, mo, (0 : Int32)).2.2.2.2.1 = al from rfl, e1, isB_eq]
  have S := fun (n : Nat) (j : Int32) (hj : ¬ j ≤ 0) => (LX3_along_s n j X co ro hei ac al ri fr bo to m).trans (if_neg hj)
  rw [H]
  generalize hnx : ro + fX3_sign al = nx at hs S ⊢
  have d0 : ((0 : Int32) = 0) := rfl
  have d1 : ¬ ((1 : Int32) = 0) := by decide
  have d2 : ¬ ((2 : Int32) = 0) := by decide
  have d3 : ¬ ((3 : Int32) = 0) := by decide
  by_cases c1 : (0 : Int32) ≤ nx
  · have c1' : 0 ≤ nx.toInt := by rw [kleI, n0] at c1; omega
    by_cases c2 : nx < 30
    · have c2' : nx.toInt < 30 := by rw [kltI, n30] at c2; omega
      have c3 : ¬ nx = 30 := by rw [keqI, n30]; omega
      by_cases c4 : fX3_isButtress co nx = 0
      · refine ⟨nx, al, fr, to, 0, ?_, fun n j hj => ?_, c1', by omega, h0, g7, g8, Or.inl rfl⟩
        · rw [if_pos c1, if_pos c2, if_pos c4]
        · rw [S n j hj, if_neg c3, if_pos c1, if_pos c4, if_pos d0]
      · refine ⟨ro, -al, fr, to + 1, 0, ?_, fun n j hj => ?_, g3, g4, by omega, by omega, by omega, Or.inl rfl⟩
        · rw [if_pos c1, if_pos c2, if_neg c4]
        · rw [S n j hj, if_neg c3, if_pos c1, if_neg c4, if_pos d0]
    · have c3 : nx = 30 := by
        rw [kltI, n30] at c2
        rw [keqI, n30]
        omega
      by_cases c4 : bo = 0
      · have c5 : bo ≤ 0 := by rw [c4]; decide
        refine ⟨ro, al, fr, to, 2, ?_, fun n j hj => ?_, g3, g4, h0, g7, g8, Or.inr (Or.inr (Or.inl rfl))⟩
        · rw [if_pos c1, if_neg c2, if_pos c4]
        · rw [S n j hj, if_pos c3, if_pos c5, if_neg d2]
      · have c5 : ¬ bo ≤ 0 := by
          rw [keqI, n0] at c4
          rw [kleI, n0]
          omega
        refine ⟨ro, al, fr, to, 3, ?_, fun n j hj => ?_, g3, g4, h0, g7, g8, Or.inr (Or.inr (Or.inr rfl))⟩
        · rw [if_pos c1, if_neg c2, if_neg c4]
        · rw [S n j hj, if_pos c3, if_neg c5, if_neg d3]
  · have c3 : ¬ nx = 30 := by
      intro h
      rw [h] at c1
      exact c1 (by decide)
    by_cases c4 : (4 : Int32) ≤ hei
    · refine ⟨ro, -al, fr + 1, to, 0, ?_, fun n j hj => ?_, g3, g4, by omega, by omega, by omega, Or.inl rfl⟩
      · rw [if_neg c1, if_pos c4]
      · rw [S n j hj, if_neg c3, if_neg c1, if_pos c4, if_pos d0]
    · refine ⟨ro, -al, fr + 1, to, 1, ?_, fun n j hj => ?_, g3, g4, by omega, by omega, by omega, Or.inr (Or.inl rfl)⟩
      · rw [if_neg c1, if_neg c4]
      · rw [S n j hj, if_neg c3, if_neg c1, if_neg c4, if_neg d1]
theorem along_br (X : Mo) (m : Int32) {co hei ac ri bo mo : Int32} (hb : 0 ≤ bo.toInt) (k : Nat) : ∀ (n n' : Nat) (n0 i0 j0 ro al fr to : Int32), n0.toInt - i0.toInt = k → j0.toInt = k → k < n → k < n' →
    0 ≤ ro.toInt → ro.toInt ≤ 29 → (k = 0 ∨ ¬ al.toInt = 0) → -2 ≤ al.toInt → al.toInt ≤ 2 →
    ∃ ro' al' fr' to' e' : Int32, LX0_goAlong n n0 i0 (co, ro, hei, ac, al, ri, fr, bo, to, mo, 0) = some (co, ro', hei, ac, al', ri, fr', bo, to', mo, e') ∧
      LX3_goAlong n' j0 (sB X (co, ro, hei, ac, al, ri, fr, bo, to) m) = some (e', sB X (co, ro', hei, ac, al', ri, fr', bo, to') m) ∧
      0 ≤ ro'.toInt ∧ ro'.toInt ≤ 29 ∧ -2 ≤ al'.toInt ∧ al'.toInt ≤ 2 ∧ (e' = 0 ∨ e' = 1 ∨ e' = 2 ∨ e' = 3) := by
  induction k with
  | zero =>
    intro n n' n0' i0 j0 ro al fr to h1 h2 h3 h4 g1 g2 g3 g4 g5
    obtain ⟨n, rfl⟩ : ∃ m, n = m + 1 := ⟨n - 1, by omega⟩
    obtain ⟨n', rfl⟩ : ∃ m, n' = m + 1 := ⟨n' - 1, by omega⟩
    refine ⟨ro, al, fr, to, 0, ?_, ?_, g1, g2, g4, g5, Or.inl rfl⟩
    · rw [LX0_along_s, if_pos (by rw [kleI]; omega)]
    · rw [LX3_along_s, if_pos (by rw [kleI, n0]; omega)]
  | succ k ih =>
    intro n n' n0' i0 j0 ro al fr to h1 h2 h3 h4 g1 g2 g3 g4 g5
    obtain ⟨n, rfl⟩ : ∃ m, n = m + 1 := ⟨n - 1, by omega⟩
    obtain ⟨n', rfl⟩ : ∃ m, n' = m + 1 := ⟨n' - 1, by omega⟩
    have hl := Int32.toInt_lt n0'
    obtain ⟨ro', al', fr', to', e', f1, f2, f3, f4, f5, f6, f7, f8⟩ := row_br X m (co := co) (hei := hei) (ac := ac) (ri := ri) (fr := fr) (to := to) (mo := mo) g1 g2 (by rcases g3 with h | h; omega; exact h) g4 g5 hb
    have e := kincI (a := i0) (m := n0'.toInt) (by omega) (by omega)
    rw [LX0_along_s, if_neg (by rw [kleI]; omega), if_pos (show en (co, ro, hei, ac, al, ri, fr, bo, to, mo, 0) = 0 from rfl), f1, f2 n' j0 (by rw [kleI, n0]; omega)]
    by_cases he : e' = 0
    · subst he
      rw [if_pos rfl]
      exact ih n n' n0' (i0 + 1) (j0 + (-1)) ro' al' fr' to' (by rw [e]; omega) (by rw [kdecI (by omega)]; omega) (by omega) (by omega) f3 f4 (Or.inr f5) f6 f7
    · obtain ⟨n, rfl⟩ : ∃ m, n = m + 1 := ⟨n - 1, by omega⟩
      refine ⟨ro', al', fr', to', e', ?_, ?_, f3, f4, f6, f7, f8⟩
      · rw [LX0_along_s, if_neg (show ¬ en (co, ro', hei, ac, al', ri, fr', bo, to', mo, e') = 0 from he), ite_self]
      · rw [if_neg he]
theorem along (X : Mo) (m : Int32) {co ro hei ac al ri fr bo to mo : Int32} (hb : 0 ≤ bo.toInt) (g1 : 0 ≤ ro.toInt) (g2 : ro.toInt ≤ 29) (g3 : -2 ≤ al.toInt) (g4 : al.toInt ≤ 2) :
    ∃ ro' al' fr' to' e' : Int32, fX0_goAlong (co, ro, hei, ac, al, ri, fr, bo, to, mo, 0) = (co, ro', hei, ac, al', ri, fr', bo, to', mo, e') ∧
      fX3_goAlong (sB X (co, ro, hei, ac, al, ri, fr, bo, to) m) = (e', sB X (co, ro', hei, ac, al', ri, fr', bo, to') m) ∧
      0 ≤ ro'.toInt ∧ ro'.toInt ≤ 29 ∧ -2 ≤ al'.toInt ∧ al'.toInt ≤ 2 ∧ (e' = 0 ∨ e' = 1 ∨ e' = 2 ∨ e' = 3) := by
  obtain ⟨k, hk, e, hz⟩ := kabs g3 g4
  obtain ⟨ro', al', fr', to', e', f1, f2, f3⟩ := along_br X m (co := co) (hei := hei) (ac := ac) (ri := ri) (mo := mo) hb k 2147483649 2147483649 (if 0 ≤ al then al else 0 - al) 0 (if 0 ≤ al then al else 0 - al) ro al fr to (by rw [e, n0]; omega) e (by omega) (by omega) g1 g2 (by by_cases h : al.toInt = 0; exact Or.inl (hz.mpr h); exact Or.inr h) g3 g4
  exact ⟨ro', al', fr', to', e', keps (d := (co, ro, hei, ac, al, ri, fr, bo, to, mo, 0)) f1, keps (d := (0, sB X (co, ro, hei, ac, al, ri, fr, bo, to) m)) f2, f3⟩
/-! up and down -/
theorem fall (X : Mo) (m : Int32) (co ro hei ac al ri fr bo to mo : Int32) :
    ∃ hei' ri' bo' e' : Int32, fX0_goUpOrDown (co, ro, hei, ac, al, ri, fr, bo, to, mo, 0) = (co, ro, hei', ac, al, ri', fr, bo', to, mo, e') ∧
      fX3_fall (sB X (co, ro, hei, ac, al, ri, fr, bo, to) m) = (e', sB X (co, ro, hei', ac, al, ri', fr, bo', to) m) ∧
      ((e' = 0 ∧ hei' = hei + ri ∧ ri' = ri - 1 ∧ bo' = bo ∧ (0 < hei' ∨ 0 ≤ ri')) ∨
        (hei' = 0 ∧ ri' = (-(ri - 1)) / 2 ∧ bo' = bo + 1 ∧ ¬ 0 < hei + ri ∧ ¬ 0 ≤ ri - 1 ∧ (e' = 1 ∨ e' = 3 ∨ (e' = 0 ∧ ¬ bo' = 2)))) := by
  have H : fX0_goUpOrDown (co, ro, hei, ac, al, ri, fr, bo, to, mo, 0) =
      if 0 < hei + ri then (co, ro, hei + ri, ac, al, ri - 1, fr, bo, to, mo, 0)
      else if 0 ≤ ri - 1 then (co, ro, hei + ri, ac, al, ri - 1, fr, bo, to, mo, 0)
      else if fr = 0 then (co, ro, 0, ac, al, (-(ri - 1)) / 2, fr, bo + 1, to, mo, 1)
      else if bo + 1 = 2 then (co, ro, 0, ac, al, (-(ri - 1)) / 2, fr, bo + 1, to, mo, 3)
      else (co, ro, 0, ac, al, (-(ri - 1)) / 2, fr, bo + 1, to, mo, 0) := rfl
  have K : fX3_fall (sB X (co, ro, hei, ac, al, ri, fr, bo, to) m) =
      if 0 < hei + ri then (0, sB X (co, ro, hei + ri, ac, al, ri - 1, fr, bo, to) m)
      else if ri - 1 < 0 then (if fr = 0 then (1, sB X (co, ro, 0, ac, al, (-(ri - 1)) / 2, fr, bo + 1, to) m)
        else if bo + 1 = 2 then (3, sB X (co, ro, 0, ac, al, (-(ri - 1)) / 2, fr, bo + 1, to) m)
        else (0, sB X (co, ro, 0, ac, al, (-(ri - 1)) / 2, fr, bo + 1, to) m))
      else (0, sB X (co, ro, hei + ri, ac, al, ri - 1, fr, bo, to) m) := rfl
  rw [H, K]
  by_cases c1 : 0 < hei + ri
  · refine ⟨hei + ri, ri - 1, bo, 0, ?_, ?_, Or.inl ⟨rfl, rfl, rfl, rfl, Or.inl c1⟩⟩
    · rw [if_pos c1]
    · rw [if_pos c1]
  · by_cases c2 : 0 ≤ ri - 1
    · have c3 : ¬ ri - 1 < 0 := by
        rw [kleI, n0] at c2
        rw [kltI, n0]
        omega
      refine ⟨hei + ri, ri - 1, bo, 0, ?_, ?_, Or.inl ⟨rfl, rfl, rfl, rfl, Or.inr c2⟩⟩
      · rw [if_neg c1, if_pos c2]
      · rw [if_neg c1, if_neg c3]
    · have c3 : ri - 1 < 0 := by
        rw [kleI, n0] at c2
        rw [kltI, n0]
        omega
      by_cases c4 : fr = 0
      · refine ⟨0, (-(ri - 1)) / 2, bo + 1, 1, ?_, ?_, Or.inr ⟨rfl, rfl, rfl, c1, c2, Or.inl rfl⟩⟩
        · rw [if_neg c1, if_neg c2, if_pos c4]
        · rw [if_neg c1, if_pos c3, if_pos c4]
      · by_cases c5 : bo + 1 = 2
        · refine ⟨0, (-(ri - 1)) / 2, bo + 1, 3, ?_, ?_, Or.inr ⟨rfl, rfl, rfl, c1, c2, Or.inr (Or.inl rfl)⟩⟩
          · rw [if_neg c1, if_neg c2, if_neg c4, if_pos c5]
          · rw [if_neg c1, if_pos c3, if_neg c4, if_pos c5]
        · refine ⟨0, (-(ri - 1)) / 2, bo + 1, 0, ?_, ?_, Or.inr ⟨rfl, rfl, rfl, c1, c2, Or.inr (Or.inr ⟨rfl, c5⟩)⟩⟩
          · rw [if_neg c1, if_neg c2, if_neg c4, if_neg c5]
          · rw [if_neg c1, if_pos c3, if_neg c4, if_neg c5]
/-- what one moment makes of height, rise and bounces -/
def Mom (b B : Ba) : Prop :=
  (¬ en B = 0) ∨
  (en B = 0 ∧ B.2.2.1 = b.2.2.1 + b.2.2.2.2.2.1 ∧ B.2.2.2.2.2.1 = b.2.2.2.2.2.1 - 1 ∧ B.2.2.2.2.2.2.2.1 = b.2.2.2.2.2.2.2.1 ∧ (0 < B.2.2.1 ∨ 0 ≤ B.2.2.2.2.2.1)) ∨
  (en B = 0 ∧ B.2.2.1 = 0 ∧ B.2.2.2.2.2.1 = (-(b.2.2.2.2.2.1 - 1)) / 2 ∧ B.2.2.2.2.2.2.2.1 = b.2.2.2.2.2.2.2.1 + 1 ∧ ¬ 0 < b.2.2.1 + b.2.2.2.2.2.1 ∧ ¬ 0 ≤ b.2.2.2.2.2.1 - 1 ∧ ¬ B.2.2.2.2.2.2.2.1 = 2)
theorem moment_s (X : Mo) (q : M9) (m : Int32) : fX3_moment (sB X q m) = if (fX3_goAlong (fX3_goAcross (sB X q (m + 1)))).1 ≤ 0 then fX3_fall (fX3_goAlong (fX3_goAcross (sB X q (m + 1)))).2 else fX3_goAlong (fX3_goAcross (sB X q (m + 1))) := rfl
theorem mom_br (X : Mo) (m : Int32) {b : Ba} (hG : Geo b) (he : en b = 0) (hb : 0 ≤ b.2.2.2.2.2.2.2.1.toInt) :
    ∃ B : Ba, fX0_passMoment b = B ∧ fX3_moment (sB X (c9 b) m) = (en B, sB X (c9 B) (m + 1)) ∧ Geo B ∧ B.2.2.2.2.2.2.2.2.2.1 = b.2.2.2.2.2.2.2.2.2.1 + 1 ∧ (en B = 0 ∨ en B = 1 ∨ en B = 2 ∨ en B = 3) ∧ Mom b B := by
  obtain ⟨co, ro, hei, ac, al, ri, fr, bo, to, mo, e⟩ := b
  obtain ⟨g1, g2, g3, g4, g5, g6, g7, g8⟩ := hG
  have he' : e = 0 := he
  subst he'
  obtain ⟨⟨co', ro1, hei1, ac', al1, ri1, fr1, bo1, to', mo1, ee⟩, e1, e2, e3, e4, e5, e6, e7, e8, e9, e10, e11, e12, e13⟩ := across_br X (m + 1) (b := (co, ro, hei, ac, al, ri, fr, bo, to, mo + 1, 0)) g5 g6 g1 g2
  have e7' : ro1 = ro := e7
  have e8' : hei1 = hei := e8
  have e9' : al1 = al := e9
  have e10' : ri1 = ri := e10
  have e11' : fr1 = fr := e11
  have e12' : bo1 = bo := e12
  have e13' : mo1 = mo + 1 := congrArg Prod.fst e13
  have e14' : ee = 0 := congrArg Prod.snd e13
  subst e7' e8' e9' e10' e11' e12' e13' e14'
  obtain ⟨ro', al', fr', to2, e', f1, f2, f3, f4, f5, f6, f7⟩ := along X (m + 1) (co := co') (ro := ro1) (hei := hei1) (ac := ac') (al := al1) (ri := ri1) (fr := fr1) (bo := bo1) (to := to') (mo := mo + 1) hb g3 g4 g7 g8
  have P : fX0_passMoment (co, ro1, hei1, ac, al1, ri1, fr1, bo1, to, mo, 0) = if e' = 0 then fX0_goUpOrDown (co', ro', hei1, ac', al', ri1, fr', bo1, to2, mo + 1, e') else (co', ro', hei1, ac', al', ri1, fr', bo1, to2, mo + 1, e') := by
    unfold fX0_passMoment
    show (if en (fX0_goAlong (fX0_goAcross (co, ro1, hei1, ac, al1, ri1, fr1, bo1, to, mo + 1, 0))) = 0 then fX0_goUpOrDown (fX0_goAlong (fX0_goAcross (co, ro1, hei1, ac, al1, ri1, fr1, bo1, to, mo + 1, 0))) else fX0_goAlong (fX0_goAcross (co, ro1, hei1, ac, al1, ri1, fr1, bo1, to, mo + 1, 0))) = _
    rw [e1, f1]
  have Q : fX3_moment (sB X (c9 (co, ro1, hei1, ac, al1, ri1, fr1, bo1, to, mo, 0)) m) = if e' ≤ 0 then fX3_fall (sB X (co', ro', hei1, ac', al', ri1, fr', bo1, to2) (m + 1)) else (e', sB X (co', ro', hei1, ac', al', ri1, fr', bo1, to2) (m + 1)) := by
    have e2' : fX3_goAcross (sB X (c9 (co, ro1, hei1, ac, al1, ri1, fr1, bo1, to, mo, 0)) (m + 1)) = sB X (co', ro1, hei1, ac', al1, ri1, fr1, bo1, to') (m + 1) := e2
    rw [moment_s, e2', f2]
  rw [P, Q]
  by_cases c : e' = 0
  · subst c
    rw [if_pos rfl, if_pos (by decide : (0 : Int32) ≤ 0)]
    obtain ⟨hei', ri', bo', e'', q1, q2, q3⟩ := fall X (m + 1) co' ro' hei1 ac' al' ri1 fr' bo1 to2 (mo + 1)
    refine ⟨_, q1, q2, ⟨e3, e4, f3, f4, e5, e6, f5, f6⟩, rfl, ?_, ?_⟩
    · show e'' = 0 ∨ e'' = 1 ∨ e'' = 2 ∨ e'' = 3
      rcases q3 with ⟨h, _⟩ | ⟨_, _, _, _, _, h | h | ⟨h, _⟩⟩
      · exact Or.inl h
      · exact Or.inr (Or.inl h)
      · exact Or.inr (Or.inr (Or.inr h))
      · exact Or.inl h
    · rcases q3 with h | ⟨h1, h2, h3, h4, h5, h | h | ⟨h, h6⟩⟩
      · exact Or.inr (Or.inl h)
      · exact Or.inl (by show ¬ e'' = 0; rw [h]; decide)
      · exact Or.inl (by show ¬ e'' = 0; rw [h]; decide)
      · exact Or.inr (Or.inr ⟨h, h1, h2, h3, h4, h5, h6⟩)
  · have c' : ¬ e' ≤ 0 := by
      rcases f7 with h | h | h | h
      · exact absurd h c
      · rw [h]; decide
      · rw [h]; decide
      · rw [h]; decide
    rw [if_neg c, if_neg c']
    exact ⟨_, rfl, rfl, ⟨e3, e4, f3, f4, e5, e6, f5, f6⟩, rfl, f7, Or.inl c⟩
