/-! the law: what isSame asks -/
theorem ft_mean {i : Nat} (hi : i ≤ 16) {X : Co} {Z : Zs} {β : Option Lb} (h : Rel i X Z β) : Z.2.2.2.2.2.1 = X.2.2.2.2.2.2.2.2.2.2.2.1 ∧ Z.2.2.2.2.2.2.2.2.2.2 = X.2.2.2.2.2.2.2.2.2.2.2.2.1 ∧ (¬ Z.2.2.2.2.2.1 = 0 → vf_n64 (FP.ddiv (FP.i2d Z.2.2.2.2.2.2.2.2.2.2) (FP.i2d Z.2.2.2.2.2.1)) ∧ Op.cmpValue (FP.dcmp (FP.ddiv (FP.i2d Z.2.2.2.2.2.2.2.2.2.2) (FP.i2d Z.2.2.2.2.2.1)) (FP.ddiv (FP.i2d Z.2.2.2.2.2.2.2.2.2.2) (FP.i2d Z.2.2.2.2.2.1))) .l = 0) := by
  obtain ⟨p1, g1, r1, k1, p2, g2, r2, k2, bs, be, ba, bt, sv, ra, sk, go, mw, wr, ws, le, wg, tu, sk', is, h1, h2, h3, h4, h5, h6⟩ := h
  subst h1 h2
  obtain ⟨c1, c2, c3, c4, c5, c6, c7, c8, c9⟩ := h6
  refine ⟨rfl, rfl, fun hne => ?_⟩
  obtain ⟨j, hj, rfl⟩ := nI_of (x := wr) (by rw [kltI, n0]; omega)
  obtain ⟨j2, hj2, rfl⟩ := nI_of (x := ws) (by rw [kltI, n0]; omega)
  rw [nI_toInt hj] at c3 c4
  rw [nI_toInt hj2] at c7 c9
  have hne : ¬ nI j = 0 := hne
  exact mean_fin ⟨j2, by omega⟩ ⟨j, by omega⟩ (fun h => hne (by have h : j = 0 := h; rw [h]; decide))
theorem same_if {α : Type} {c : Prop} [Decidable c] (x : α) : (if c then x else x) = x := by split <;> rfl
theorem ft_told {i : Nat} {X : Co} {Z : Zs} {β : Option Lb} (h : Rel i X Z β) : (fX2_told_00 X) = Z.1.1 ∧ (fX2_told_01 X) = Z.1.2.1 ∧ (fX2_told_02 X) = Z.1.2.2.1 ∧ (fX2_told_03 X) = Z.1.2.2.2 ∧ (fX2_told_10 X) = Z.2.1.1 ∧ (fX2_told_11 X) = Z.2.1.2.1 ∧ (fX2_told_12 X) = Z.2.1.2.2.1 ∧ (fX2_told_13 X) = Z.2.1.2.2.2 := by
  obtain ⟨p1, g1, r1, k1, p2, g2, r2, k2, bs, be, ba, bt, sv, ra, sk, go, mw, wr, ws, le, wg, tu, sk', is, h1, h2, h3, h4, h5, h6⟩ := h
  subst h1 h2
  exact ⟨rfl, rfl, rfl, rfl, rfl, rfl, rfl, rfl⟩
theorem ft_same_n {i : Nat} {X : Co} {Z : Zs} (h : Rel i X Z none) : ((fX2_count_0 X) = (fX4_counted_n0 Z) ∧ (fX2_count_1 X) = (fX4_counted_n1 Z) ∧ (fX2_count_2 X) = (fX4_counted_n2 Z) ∧ (fX2_count_3 X) = (fX4_counted_n3 Z) ∧ (fX2_count_4 X) = (fX4_counted_n4 Z) ∧ (fX2_count_5 X) = (fX4_counted_n5 Z) ∧ (fX2_count_6 X) = (fX4_counted_n6 Z) ∧ (fX2_count_7 X) = (fX4_counted_n7 Z) ∧ (fX2_count_8 X) = (fX4_counted_n8 Z)) ∧ (fX2_ball_0 X) = 0 ∧ (fX2_ball_1 X) = 0 ∧ (fX2_ball_2 X) = 0 ∧ (fX2_ball_3 X) = 0 ∧ (fX2_ball_4 X) = 0 ∧ (fX2_ball_5 X) = 0 := by
  have hr := h.off
  have hw := win_mw h
  have hc := (canset_br h).1
  have ho := ft_off h
  have ht : Z.2.2.2.1 = -1 := by
    obtain ⟨p1, g1, r1, k1, p2, g2, r2, k2, bs, be, ba, bt, sv, ra, sk, go, mw, wr, ws, le, wg, tu, sk', is, h1, h2, h3, h4, h5, h6⟩ := h
    subst h1 h2
    rcases h5 with ⟨_, _, ha, _⟩ | ⟨_, _, _, _, _, _, hb⟩
    · exact ha
    · exact absurd hb (fun h => nomatch h)
  have hv : X.2.2.2.2.2.2.1 = Z.2.2.1 ∧ X.2.2.2.2.2.2.2.2.2.2.2.1 = Z.2.2.2.2.2.1 ∧ X.2.2.2.2.2.2.2.2.2.2.2.2.2.1 = Z.2.2.2.2.2.2.1 ∧ X.2.2.2.2.2.2.2.2.2.1 = Z.2.2.2.2.2.2.2.2.1 ∧ X.2.2.2.2.2.2.2.2.2.2.2.2.2.2 = Z.2.2.2.2.2.2.2.1 := by
    obtain ⟨p1, g1, r1, k1, p2, g2, r2, k2, bs, be, ba, bt, sv, ra, sk, go, mw, wr, ws, le, wg, tu, sk', is, h1, h2, h3, h4, h5, h6⟩ := h
    subst h1 h2
    exact ⟨rfl, rfl, rfl, rfl, rfl⟩
  refine ⟨⟨hv.1.trans (same_if _).symm, ?_, ho.2.2.trans (same_if _).symm, hv.2.1.trans (same_if _).symm, hv.2.2.1.trans (same_if _).symm, hv.2.2.2.1.trans (same_if _).symm, ?_, hw.symm.trans (same_if _).symm, hv.2.2.2.2.trans (same_if _).symm⟩, if_pos hr, if_pos hr, if_pos hr, if_pos hr, if_pos hr, if_pos hr⟩
  · rw [show fX2_count_1 X = -1 from if_pos hr, ← ht]
    exact (same_if _).symm
  · unfold fX2_count_6 fX4_counted_n6
    rw [hc]
theorem ft_same_r {i : Nat} (hi : i ≤ 512) {X : Co} {Z : Zs} {b : Lb} (h : Rel i X Z (some b)) : ((fX2_count_0 X) = (fX4_counted_r0 Z b) ∧ (fX2_count_1 X) = (fX4_counted_r1 Z b) ∧ (fX2_count_2 X) = (fX4_counted_r2 Z b) ∧ (fX2_count_3 X) = (fX4_counted_r3 Z b) ∧ (fX2_count_4 X) = (fX4_counted_r4 Z b) ∧ (fX2_count_5 X) = (fX4_counted_r5 Z b) ∧ (fX2_count_6 X) = (fX4_counted_r6 Z b) ∧ (fX2_count_7 X) = (fX4_counted_r7 Z b) ∧ (fX2_count_8 X) = (fX4_counted_r8 Z b)) ∧ (fX2_ball_0 X) = (fX3_told_0 b) ∧ (fX2_ball_1 X) = (fX3_told_1 b) ∧ (fX2_ball_2 X) = (fX3_told_2 b) ∧ (fX2_ball_3 X) = (fX3_told_3 b) ∧ (fX2_ball_4 X) = (fX3_told_4 b) ∧ (fX2_ball_5 X) = (fX3_told_5 b) := by
  have hr := h.ron
  have hw := win_mw h
  have ht := (h.turn hi hr).1
  have hb : b = c10 X.2.2.1 := Option.some.inj (h.on hr).2.2.2.2
  have hv : X.2.2.2.2.2.2.1 = Z.2.2.1 ∧ X.2.2.2.2.2.2.2.2.2.2.2.1 = Z.2.2.2.2.2.1 ∧ X.2.2.2.2.2.2.2.2.2.2.2.2.2.1 = Z.2.2.2.2.2.2.1 ∧ X.2.2.2.2.2.2.2.2.2.1 = Z.2.2.2.2.2.2.2.2.1 ∧ X.2.2.2.2.2.2.2.2.2.2.2.2.2.2 = Z.2.2.2.2.2.2.2.1 ∧ X.2.2.2.2.2.2.2.2.1 = Z.2.2.2.2.1 := by
    obtain ⟨p1, g1, r1, k1, p2, g2, r2, k2, bs, be, ba, bt, sv, ra, sk, go, mw, wr, ws, le, wg, tu, sk', is, h1, h2, h3, h4, h5, h6⟩ := h
    subst h1 h2
    rcases h5 with ⟨ha, _⟩ | ⟨_, hk, _⟩
    · exact absurd ha hr
    · exact ⟨rfl, rfl, rfl, rfl, rfl, hk.symm⟩
  subst hb
  refine ⟨⟨hv.1.trans (same_if _).symm, ?_, hv.2.2.2.2.2.trans (same_if _).symm, hv.2.1.trans (same_if _).symm, hv.2.2.1.trans (same_if _).symm, hv.2.2.2.1.trans (same_if _).symm, ?_, hw.symm.trans (same_if _).symm, hv.2.2.2.2.1.trans (same_if _).symm⟩, if_neg hr, if_neg hr, if_neg hr, if_neg hr, if_neg hr, if_neg hr⟩
  · rw [show fX2_count_1 X = fX2_sideToStrike X from if_neg hr, ht]
    exact (same_if _).symm
  · rw [show fX2_count_6 X = 0 from if_pos (if_neg hr)]
    exact (if_pos rfl).symm