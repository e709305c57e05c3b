/-! a stroke's flight: its moments, its end; the ball by hand flies alike -/
theorem Good.cn {i : Nat} {bs : Ba} (h : Good i bs) : Cn i 0 bs bs := by
  obtain ⟨h1, h2, h3, h4, h5, h6⟩ := h
  obtain ⟨co, ro, he, ac, al, ri, fr, bo, to, mo, e⟩ := bs
  have e1 : fr = 0 := congrArg Prod.fst h6
  have e2 : bo = 0 := congrArg (fun z => z.2.1) h6
  have e4 : to = 0 := congrArg (fun z => z.2.2.1) h6
  have e3 : e = 0 := congrArg (fun z => z.2.2.2.2) h6
  subst e1 e2 e3 e4
  have z1 : 0 ≤ ((0 : Int32)).toInt := by decide
  have z2 : ((0 : Int32)).toInt ≤ 2 := by decide
  have z3 : ¬ (0 : Int32) = 3 := by decide
  have z4 : ¬ (0 : Int32) = 2 := by decide
  exact ⟨⟨z1, by show ((0 : Int32)).toInt ≤ _; rw [n0]; omega⟩, ⟨z1, by show ((0 : Int32)).toInt ≤ _; rw [n0]; omega⟩, ⟨z1, z2⟩, Or.inl rfl, Or.inl rfl, fun _ => Or.inl rfl, fun h => absurd h z3, fun h => absurd h z4⟩
theorem Cn.mono {i k : Nat} {bs b : Ba} (h : Cn i k bs b) : Cn i (k + 1) bs b :=
  ⟨⟨h.1.1, by have := h.1.2; omega⟩, ⟨h.2.1.1, by have := h.2.1.2; omega⟩, h.2.2⟩
theorem iter_cn {i : Nat} (hi : i ≤ 512) {bs : Ba} (hg : Good i bs) (hN : NB bs) (k : Nat) : k ≤ 600 → Cn i k bs (iterE k bs) ∧ Up (iterE k bs) (iterE (k + 1) bs) := by
  have hF : FN i bs := ⟨hg.fl, hN⟩
  induction k with
  | zero =>
    intro _
    refine ⟨hg.cn, ?_⟩
    obtain ⟨B, e1, e2, e3, eN, e4, e5, e6, e7⟩ := mom_fl hi hF
    rw [iterE_1, iterE_0, if_pos hF.1.2.1, e1]
    exact (cn_step (by omega) hg.cn hF.1.2.1 hF.1 e6 e5).2
  | succ k ih =>
    intro hk
    obtain ⟨c1, c2⟩ := ih (by omega)
    have c3 : Cn i (k + 1) bs (iterE (k + 1) bs) := by
      rw [iterE_1]
      by_cases he : en (iterE k bs) = 0
      · rw [if_pos he]
        have hF2 := ((iter_fl hi k bs hF).2.2.2.1 he).1
        obtain ⟨B, e1, e2, e3, eN, e4, e5, e6, e7⟩ := mom_fl hi hF2
        rw [e1]
        exact (cn_step (by omega) c1 he hF2.1 e6 e5).1
      · rw [if_neg he]
        exact c1.mono
    refine ⟨c3, ?_⟩
    rw [iterE_1 (k + 1)]
    by_cases he : en (iterE (k + 1) bs) = 0
    · rw [if_pos he]
      have hF2 := ((iter_fl hi (k + 1) bs hF).2.2.2.1 he).1
      obtain ⟨B, e1, e2, e3, eN, e4, e5, e6, e7⟩ := mom_fl hi hF2
      rw [e1]
      exact (cn_step (by omega) c3 he hF2.1 e6 e5).2
    · rw [if_neg he]
      exact Up.refl _
/-- front touches, bounces, touches only get more -/
theorem iter_up {i : Nat} (hi : i ≤ 512) {bs : Ba} (hg : Good i bs) (hN : NB bs) (k m : Nat) : k + m ≤ 600 → (iterE k bs).2.2.2.2.2.2.1.toInt ≤ (iterE (k + m) bs).2.2.2.2.2.2.1.toInt ∧ (bou (iterE k bs)).toInt ≤ (bou (iterE (k + m) bs)).toInt ∧ (iterE k bs).2.2.2.2.2.2.2.2.1.toInt ≤ (iterE (k + m) bs).2.2.2.2.2.2.2.2.1.toInt := by
  induction m with
  | zero => intro _; exact ⟨Int.le_refl _, Int.le_refl _, Int.le_refl _⟩
  | succ m ih =>
    intro h
    obtain ⟨a, b, c⟩ := ih (by omega)
    obtain ⟨u1, u2, u3, -⟩ := (iter_cn hi hg hN (k + m) (by omega)).2
    exact ⟨Int.le_trans a u1, Int.le_trans b u2, Int.le_trans c u3⟩
theorem Good.mom0 {i : Nat} {b : Ba} (h : Good i b) : mom b = 0 := congrArg (fun z => z.2.2.2.1) h.2.2.2.2.2
theorem iterE_far {T : Nat} {b : Ba} (h : ¬ en (iterE T b) = 0) {k : Nat} (hk : T ≤ k) : iterE k b = iterE T b := by
  obtain ⟨m, rfl⟩ : ∃ m, k = T + m := ⟨k - T, by omega⟩
  rw [iterE_add, iterE_end h]
theorem first_end (b : Ba) (t : Nat) : ¬ en (iterE t b) = 0 → ∃ T : Nat, T ≤ t ∧ ¬ en (iterE T b) = 0 ∧ ∀ k, k < T → en (iterE k b) = 0 := by
  induction t with
  | zero => intro h; exact ⟨0, Nat.le_refl _, h, fun k hk => absurd hk (Nat.not_lt_zero _)⟩
  | succ t ih =>
    intro h
    by_cases h2 : en (iterE t b) = 0
    · refine ⟨t + 1, Nat.le_refl _, h, fun k hk => ?_⟩
      by_cases h3 : en (iterE k b) = 0
      · exact h3
      · have := iterE_far h3 (k := t) (by omega)
        rw [this] at h2
        exact absurd h2 h3
    · obtain ⟨T, t1, t2, t3⟩ := ih h2
      exact ⟨T, by omega, t2, t3⟩
/-- when it ends -/
theorem end_at {i : Nat} (hi : i ≤ 512) {b : Ba} (hF : FN i b) : ∃ T : Nat, 1 ≤ T ∧ T ≤ 512 ∧ ¬ en (iterE T b) = 0 ∧ (∀ k, k < T → en (iterE k b) = 0) ∧ mom (iterE T b) = mom b + nI T := by
  obtain ⟨T, t1, t2, t3⟩ := first_end b 512 ((iter_fl hi 512 b hF).2.2.2.2 (Nat.le_refl _))
  have t0 : 1 ≤ T := by
    rcases Nat.eq_zero_or_pos T with h | h
    · subst h; exact absurd hF.1.2.1 t2
    · exact h
  refine ⟨T, t0, t1, t2, t3, ?_⟩
  obtain ⟨S, rfl⟩ : ∃ S, T = S + 1 := ⟨T - 1, by omega⟩
  have he := t3 S (by omega)
  obtain ⟨f1, f2, f3⟩ := (iter_fl hi S b hF).2.2.2.1 he
  obtain ⟨B, e1, e2, e3, eN, e4, e5, e6, e7⟩ := mom_fl hi f1
  rw [iterE_1, if_pos he, e1, e4, f3, Int32.add_assoc, nIs]

theorem LX0_fly_k (k : Nat) : ∀ (n : Nat) (p0 i0 : Int32) (b : Ba), (p0.toInt - i0.toInt).toNat = k → k < n → LX0_fly n p0 i0 b = some (iterE k b) := by
  induction k with
  | zero =>
    intro n p0 i0 b h1 h2
    obtain ⟨n, rfl⟩ : ∃ m, n = m + 1 := ⟨n - 1, by omega⟩
    rw [LX0_fly, if_pos (by rw [kleI]; omega)]
    rfl
  | succ k ih =>
    intro n p0 i0 b h1 h2
    obtain ⟨n, rfl⟩ : ∃ m, n = m + 1 := ⟨n - 1, by omega⟩
    have h3 := Int32.toInt_lt p0
    have e := kincI (a := i0) (m := p0.toInt) (by omega) (by omega)
    rw [LX0_fly, if_neg (by rw [kleI]; omega)]
    show (if en b = 0 then LX0_fly n p0 (i0 + 1) (fX0_passMoment b) else some b) = some (if en b = 0 then iterE k (fX0_passMoment b) else b)
    by_cases he : en b = 0
    · rw [if_pos he, if_pos he]
      exact ih n p0 (i0 + 1) _ (by rw [e]; omega) (by omega)
    · rw [if_neg he, if_neg he]
theorem fly_eq (p0 : Int32) (b : Ba) : fX0_fly p0 b = iterE p0.toInt.toNat b :=
  keps (d := b) (LX0_fly_k p0.toInt.toNat _ p0 0 b (by rw [n0, Int.sub_zero]) (by have := Int32.toInt_lt p0; omega))

theorem nmill : ((1000000 : Int32)).toInt = 1000000 := by decide
theorem fly_all {i : Nat} (hi : i ≤ 512) {b : Ba} (h : FN i b) : fX0_fly 1000000 b = iterE 1000 b ∧ ¬ en (iterE 1000 b) = 0 := by
  obtain ⟨T, t1, t2, t3, t4, t5⟩ := end_at hi h
  have h1 : iterE 1000 b = iterE T b := iterE_far t3 (by omega)
  have h2 : iterE ((1000000 : Int32)).toInt.toNat b = iterE T b := iterE_far t3 (by rw [nmill]; omega)
  rw [fly_eq, h2, h1]
  exact ⟨rfl, t3⟩
/-- by some moment: still flying, or ended -/
theorem ended {i : Nat} (hi : i ≤ 512) {bs : Ba} (hg : Good i bs) (hN : NB bs) {m : Int32} (hm : 0 ≤ m.toInt) :
    (m < mom (iterE 1000 bs) ∧ en (iterE m.toInt.toNat bs) = 0 ∧ FN i (iterE m.toInt.toNat bs)) ∨ (¬ m < mom (iterE 1000 bs) ∧ ¬ en (iterE m.toInt.toNat bs) = 0 ∧ iterE m.toInt.toNat bs = iterE 1000 bs) := by
  have hF : FN i bs := ⟨hg.fl, hN⟩
  obtain ⟨T, t1, t2, t3, t4, t5⟩ := end_at hi hF
  have h1 : iterE 1000 bs = iterE T bs := iterE_far t3 (by omega)
  have h2 : (mom (iterE T bs)).toInt = (T : Int) := by
    rw [t5, hg.mom0, Int32.zero_add]
    exact nIi (by omega)
  by_cases hc : m.toInt < (T : Int)
  · have h3 := t4 m.toInt.toNat (by omega)
    exact Or.inl ⟨by rw [h1, kltI, h2]; exact hc, h3, ((iter_fl hi m.toInt.toNat bs hF).2.2.2.1 h3).1⟩
  · have h3 : iterE m.toInt.toNat bs = iterE T bs := iterE_far t3 (by omega)
    exact Or.inr ⟨by rw [h1, kltI, h2]; exact hc, by rw [h3]; exact t3, by rw [h3, h1]⟩
theorem en_le {b : Ba} (h : en b = 0 ∨ en b = 1 ∨ en b = 2 ∨ en b = 3) (hn : ¬ en b = 0) : ¬ en b ≤ 0 := by
  rcases h with h | h | h | h
  · exact absurd h hn
  · rw [h]; decide
  · rw [h]; decide
  · rw [h]; decide
/-- the ball by hand: so many moments at most -/
theorem LX3_go_k {i : Nat} (hi : i ≤ 512) (k : Nat) : ∀ (n : Nat) (p0 i0 : Int32) (b : Ba), FN i b → (p0.toInt - i0.toInt).toNat = k → k < n →
    LX3_go_ n p0 i0 (c10 b) = some (en (iterE k b), c10 (iterE k b)) := by
  induction k with
  | zero =>
    intro n p0 i0 b h h1 h2
    obtain ⟨n, rfl⟩ : ∃ m, n = m + 1 := ⟨n - 1, by omega⟩
    rw [LX3_go_, if_pos (by rw [kleI]; omega), iterE_0, h.1.2.1]
  | succ k ih =>
    intro n p0 i0 b h h1 h2
    obtain ⟨n, rfl⟩ : ∃ m, n = m + 1 := ⟨n - 1, by omega⟩
    have h3 := Int32.toInt_lt p0
    have e := kincI (a := i0) (m := p0.toInt) (by omega) (by omega)
    obtain ⟨B, e1, e2, e3, eN, e4, e5, e6, e7⟩ := mom_fl hi h
    rw [LX3_go_, if_neg (by rw [kleI]; omega), e2, iterE_s, if_pos h.1.2.1, e1]
    show (if en B ≤ 0 then LX3_go_ n p0 (i0 + 1) (c10 B) else some (en B, c10 B)) = _
    by_cases he : en B = 0
    · rw [if_pos (by rw [he]; decide)]
      exact ih n p0 (i0 + 1) B (e7 he).1 (by rw [e]; omega) (by omega)
    · rw [if_neg (en_le e5 he), iterE_end he]
theorem goN_eq {i : Nat} (hi : i ≤ 512) {b : Ba} (h : FN i b) (p0 : Int32) : fX3_go_ p0 (c10 b) = (en (iterE p0.toInt.toNat b), c10 (iterE p0.toInt.toNat b)) :=
  keps (d := (0, c10 b)) (LX3_go_k hi p0.toInt.toNat 2147483649 p0 0 b h (by rw [n0, Int.sub_zero]) (by have := Int32.toInt_lt p0; omega))
theorem goN_all {i : Nat} (hi : i ≤ 512) {b : Ba} (h : FN i b) : fX3_go_ 9999 (c10 b) = (en (iterE 1000 b), c10 (iterE 1000 b)) := by
  obtain ⟨T, t1, t2, t3, t4, t5⟩ := end_at hi h
  have h1 : iterE 1000 b = iterE T b := iterE_far t3 (by omega)
  have h2 : iterE ((9999 : Int32)).toInt.toNat b = iterE T b := iterE_far t3 (by rw [show ((9999 : Int32)).toInt = 9999 from by decide]; omega)
  rw [goN_eq hi h, h2, h1]
