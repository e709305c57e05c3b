/-! a rally won -/
theorem win0 {i : Nat} {p1 g1 r1 k1 p2 g2 r2 k2 sv sk go mw wr ws le wg tu is mo : Int32} {bs be ba bt : Ba} {st bl : M9} {X0 : Co} {kA kS kO : Int32} (h3 : sv = 0 ∨ sv = 1) (h4 : RelS p1 g1 p2 g2 1 go mw is) :
    kStep i X0 (0, (fX2_winRally 0 ((p1, g1, r1, k1), (p2, g2, r2, k2), bs, be, ba, bt, sv, 1, sk, go, mw, wr, ws, le, wg)).1, (fX2_winRally 0 ((p1, g1, r1, k1), (p2, g2, r2, k2), bs, be, ba, bt, sv, 1, sk, go, mw, wr, ws, le, wg)).2) kA kS kO (fX3_win_0 (st, (p1, p2), (g1, g2), (r1, r2), (k1, k2), bl, 0, sv, 1, tu, sk, wr, le, wg, go, is, ws, mo)) := by
  obtain ⟨s1, s2, s3, s4, s5, s6⟩ := h4
  obtain ⟨rfl, m1, m2, m3, m4⟩ : mw = -1 ∧ 0 ≤ g1.toInt ∧ g1.toInt ≤ 2 ∧ 0 ≤ g2.toInt ∧ g2.toInt ≤ 2 := by
    rcases s6 with s6 | ⟨_, _, _, _, _, _, hz, _⟩ | ⟨_, _, _, _, _, _, hz, _⟩
    · exact s6
    · exact absurd hz d10
    · exact absurd hz d10
  have hgo : go.toInt ≤ 16 := by
    rcases s1 with ⟨_, b⟩ | ⟨_, b | b | b | b⟩ <;> rw [b] <;> decide
  have ep : (p1 + 1).toInt = p1.toInt + 1 := kincI (m := 100) (by omega) (by omega)
  have eg : (g1 + 1).toInt = g1.toInt + 1 := kincI (m := 100) (by omega) (by omega)
  have hs : sv = 0 ∨ sv = 1 := h3
  rcases hs with rfl | rfl
  · have a : fX2_winRally 0 ((p1, g1, r1, k1), (p2, g2, r2, k2), bs, be, ba, bt, 0, 1, sk, go, -1, wr, ws, le, wg) = (2 + 0, fX2_winPoint ((p1, g1, r1 + 1, k1), (p2, g2, r2, k2), bs, be, ba, bt, 0, 0, 0, go, -1, wr + 1, ws + sk, le, wg)) := (if_pos rfl).trans (if_pos rfl)
    by_cases c : p1 + 1 < go
    · have b : fX2_winPoint ((p1, g1, r1 + 1, k1), (p2, g2, r2, k2), bs, be, ba, bt, 0, 0, 0, go, -1, wr + 1, ws + sk, le, wg) = ((p1 + 1, g1, r1 + 1, k1), (p2, g2, r2, k2), bs, be, ba, bt, 0, 0, 0, go, -1, wr + 1, ws + sk, le, wg) := (if_pos rfl).trans (if_pos c)
      have y : fX3_win_0 (st, (p1, p2), (g1, g2), (r1, r2), (k1, k2), bl, 0, 0, 1, tu, sk, wr, le, wg, go, is, ws, mo) = (2 + 0, (st, (p1 + 1, p2), (g1, g2), (r1 + 1, r2), (k1, k2), bl, 0, 0, 0, tu, sk, wr + 1, le, wg, go, is, ws + sk, mo)) := (if_pos rfl).trans (if_pos c)
      rw [a, b, y]
      exact step_ok rfl rfl ⟨p1 + 1, g1, r1 + 1, k1, p2, g2, r2, k2, bs, be, ba, bt, 0, 0, 0, go, -1, wr + 1, ws + sk, le, wg, st, bl, 0, tu, sk, is, mo, rfl, rfl, Or.inl rfl, ⟨s1, by rw [ep]; omega, kltI.mp c, s4, s5, Or.inl ⟨rfl, m1, m2, m3, m4⟩⟩, Or.inl ⟨rfl, rfl⟩⟩
    · have b : fX2_winPoint ((p1, g1, r1 + 1, k1), (p2, g2, r2, k2), bs, be, ba, bt, 0, 0, 0, go, -1, wr + 1, ws + sk, le, wg) = fX2_winGame_1 ((p1 + 1, g1, r1 + 1, k1), (p2, g2, r2, k2), bs, be, ba, bt, 0, 0, 0, go, -1, wr + 1, ws + sk, le, wg) := (if_pos rfl).trans (if_neg c)
      have y : fX3_win_0 (st, (p1, p2), (g1, g2), (r1, r2), (k1, k2), bl, 0, 0, 1, tu, sk, wr, le, wg, go, is, ws, mo) = (2 + 0, fX3_winGame_0 (st, (p1 + 1, p2), (g1, g2), (r1 + 1, r2), (k1, k2), bl, 0, 0, 0, tu, sk, wr + 1, le, wg, go, is, ws + sk, mo)) := (if_pos rfl).trans (if_neg c)
      by_cases c2 : g1 + 1 < 3
      · have d : fX2_winGame_1 ((p1 + 1, g1, r1 + 1, k1), (p2, g2, r2, k2), bs, be, ba, bt, 0, 0, 0, go, -1, wr + 1, ws + sk, le, wg) = ((0, g1 + 1, r1 + 1, k1), (0, g2, r2, k2), bs, be, ba, bt, 0, 0, 0, 12, -1, wr + 1, ws + sk, le, wg + 1) := if_pos c2
        rw [a, b, d, y]
        exact step_ok rfl rfl ⟨0, g1 + 1, r1 + 1, k1, 0, g2, r2, k2, bs, be, ba, bt, 0, 0, 0, 12, -1, wr + 1, ws + sk, le, wg + 1, st, bl, 0, tu, sk, 0, mo, rfl, rfl, Or.inl rfl, ⟨Or.inl ⟨rfl, rfl⟩, by decide, by decide, by decide, by decide, Or.inl ⟨rfl, by rw [eg]; omega, by rw [eg]; rw [kltI, n3, eg] at c2; omega, m3, m4⟩⟩, Or.inl ⟨rfl, rfl⟩⟩
      · have d : fX2_winGame_1 ((p1 + 1, g1, r1 + 1, k1), (p2, g2, r2, k2), bs, be, ba, bt, 0, 0, 0, go, -1, wr + 1, ws + sk, le, wg) = ((0, g1 + 1, r1 + 1, k1), (0, g2, r2, k2), bs, be, ba, bt, 0, 0, 0, 12, 0, wr + 1, ws + sk, le, wg + 1) := if_neg c2
        have e3 : g1 + 1 = 3 := by
          rw [kltI, n3] at c2
          rw [keqI, n3]
          omega
        rw [a, b, d, y]
        exact step_ok rfl rfl ⟨0, g1 + 1, r1 + 1, k1, 0, g2, r2, k2, bs, be, ba, bt, 0, 0, 0, 12, 0, wr + 1, ws + sk, le, wg + 1, st, bl, 0, tu, sk, 0, mo, rfl, rfl, Or.inl rfl, ⟨Or.inl ⟨rfl, rfl⟩, by decide, by decide, by decide, by decide, Or.inr (Or.inl ⟨rfl, e3, m3, m4, rfl, rfl, rfl, rfl⟩)⟩, Or.inl ⟨rfl, rfl⟩⟩
  · have a : fX2_winRally 0 ((p1, g1, r1, k1), (p2, g2, r2, k2), bs, be, ba, bt, 1, 1, sk, go, -1, wr, ws, le, wg) = (2 + 0, ((p1, g1, r1 + 1, k1), (p2, g2, r2, k2), bs, be, ba, bt, 0, 0, 0, go, -1, wr + 1, ws + sk, le, wg)) := (if_pos rfl).trans (if_neg (by decide : ¬ (0 : Int32) = 1))
    have y : fX3_win_0 (st, (p1, p2), (g1, g2), (r1, r2), (k1, k2), bl, 0, 1, 1, tu, sk, wr, le, wg, go, is, ws, mo) = (2 + 0, (st, (p1, p2), (g1, g2), (r1 + 1, r2), (k1, k2), bl, 0, 0, 0, tu, sk, wr + 1, le, wg, go, is, ws + sk, mo)) := (if_neg (by decide : ¬ (0 : Int32) = 1)).trans (if_pos (kltI.mpr s3))
    rw [a, y]
    exact step_ok rfl rfl ⟨p1, g1, r1 + 1, k1, p2, g2, r2, k2, bs, be, ba, bt, 0, 0, 0, go, -1, wr + 1, ws + sk, le, wg, st, bl, 0, tu, sk, is, mo, rfl, rfl, Or.inl rfl, ⟨s1, s2, s3, s4, s5, Or.inl ⟨rfl, m1, m2, m3, m4⟩⟩, Or.inl ⟨rfl, rfl⟩⟩
theorem win1 {i : Nat} {p1 g1 r1 k1 p2 g2 r2 k2 sv sk go mw wr ws le wg tu is mo : Int32} {bs be ba bt : Ba} {st bl : M9} {X0 : Co} {kA kS kO : Int32} (h3 : sv = 0 ∨ sv = 1) (h4 : RelS p1 g1 p2 g2 1 go mw is) :
    kStep i X0 (0, (fX2_winRally 1 ((p1, g1, r1, k1), (p2, g2, r2, k2), bs, be, ba, bt, sv, 1, sk, go, mw, wr, ws, le, wg)).1, (fX2_winRally 1 ((p1, g1, r1, k1), (p2, g2, r2, k2), bs, be, ba, bt, sv, 1, sk, go, mw, wr, ws, le, wg)).2) kA kS kO (fX3_win_1 (st, (p1, p2), (g1, g2), (r1, r2), (k1, k2), bl, 0, sv, 1, tu, sk, wr, le, wg, go, is, ws, mo)) := by
  obtain ⟨s1, s2, s3, s4, s5, s6⟩ := h4
  obtain ⟨rfl, m1, m2, m3, m4⟩ : mw = -1 ∧ 0 ≤ g1.toInt ∧ g1.toInt ≤ 2 ∧ 0 ≤ g2.toInt ∧ g2.toInt ≤ 2 := by
    rcases s6 with s6 | ⟨_, _, _, _, _, _, hz, _⟩ | ⟨_, _, _, _, _, _, hz, _⟩
    · exact s6
    · exact absurd hz d10
    · exact absurd hz d10
  have hgo : go.toInt ≤ 16 := by
    rcases s1 with ⟨_, b⟩ | ⟨_, b | b | b | b⟩ <;> rw [b] <;> decide
  have ep : (p2 + 1).toInt = p2.toInt + 1 := kincI (m := 100) (by omega) (by omega)
  have eg : (g2 + 1).toInt = g2.toInt + 1 := kincI (m := 100) (by omega) (by omega)
  have hs : sv = 1 ∨ sv = 0 := h3.symm
  rcases hs with rfl | rfl
  · have a : fX2_winRally 1 ((p1, g1, r1, k1), (p2, g2, r2, k2), bs, be, ba, bt, 1, 1, sk, go, -1, wr, ws, le, wg) = (2 + 1, fX2_winPoint ((p1, g1, r1, k1), (p2, g2, r2 + 1, k2), bs, be, ba, bt, 1, 0, 0, go, -1, wr + 1, ws + sk, le, wg)) := (if_neg d10).trans (if_pos rfl)
    by_cases c : p2 + 1 < go
    · have b : fX2_winPoint ((p1, g1, r1, k1), (p2, g2, r2 + 1, k2), bs, be, ba, bt, 1, 0, 0, go, -1, wr + 1, ws + sk, le, wg) = ((p1, g1, r1, k1), (p2 + 1, g2, r2 + 1, k2), bs, be, ba, bt, 1, 0, 0, go, -1, wr + 1, ws + sk, le, wg) := (if_neg d10).trans (if_pos c)
      have y : fX3_win_1 (st, (p1, p2), (g1, g2), (r1, r2), (k1, k2), bl, 0, 1, 1, tu, sk, wr, le, wg, go, is, ws, mo) = (2 + 1, (st, (p1, p2 + 1), (g1, g2), (r1, r2 + 1), (k1, k2), bl, 0, 1, 0, tu, sk, wr + 1, le, wg, go, is, ws + sk, mo)) := (if_pos rfl).trans (if_pos c)
      rw [a, b, y]
      exact step_ok rfl rfl ⟨p1, g1, r1, k1, p2 + 1, g2, r2 + 1, k2, bs, be, ba, bt, 1, 0, 0, go, -1, wr + 1, ws + sk, le, wg, st, bl, 0, tu, sk, is, mo, rfl, rfl, Or.inr rfl, ⟨s1, s2, s3, by rw [ep]; omega, kltI.mp c, Or.inl ⟨rfl, m1, m2, m3, m4⟩⟩, Or.inl ⟨rfl, rfl⟩⟩
    · have b : fX2_winPoint ((p1, g1, r1, k1), (p2, g2, r2 + 1, k2), bs, be, ba, bt, 1, 0, 0, go, -1, wr + 1, ws + sk, le, wg) = fX2_winGame_2 ((p1, g1, r1, k1), (p2 + 1, g2, r2 + 1, k2), bs, be, ba, bt, 1, 0, 0, go, -1, wr + 1, ws + sk, le, wg) := (if_neg d10).trans (if_neg c)
      have y : fX3_win_1 (st, (p1, p2), (g1, g2), (r1, r2), (k1, k2), bl, 0, 1, 1, tu, sk, wr, le, wg, go, is, ws, mo) = (2 + 1, fX3_winGame_1 (st, (p1, p2 + 1), (g1, g2), (r1, r2 + 1), (k1, k2), bl, 0, 1, 0, tu, sk, wr + 1, le, wg, go, is, ws + sk, mo)) := (if_pos rfl).trans (if_neg c)
      by_cases c2 : g2 + 1 < 3
      · have d : fX2_winGame_2 ((p1, g1, r1, k1), (p2 + 1, g2, r2 + 1, k2), bs, be, ba, bt, 1, 0, 0, go, -1, wr + 1, ws + sk, le, wg) = ((0, g1, r1, k1), (0, g2 + 1, r2 + 1, k2), bs, be, ba, bt, 1, 0, 0, 12, -1, wr + 1, ws + sk, le, wg + 1) := if_pos c2
        rw [a, b, d, y]
        exact step_ok rfl rfl ⟨0, g1, r1, k1, 0, g2 + 1, r2 + 1, k2, bs, be, ba, bt, 1, 0, 0, 12, -1, wr + 1, ws + sk, le, wg + 1, st, bl, 0, tu, sk, 0, mo, rfl, rfl, Or.inr rfl, ⟨Or.inl ⟨rfl, rfl⟩, by decide, by decide, by decide, by decide, Or.inl ⟨rfl, m1, m2, by rw [eg]; omega, by rw [eg]; rw [kltI, n3, eg] at c2; omega⟩⟩, Or.inl ⟨rfl, rfl⟩⟩
      · have d : fX2_winGame_2 ((p1, g1, r1, k1), (p2 + 1, g2, r2 + 1, k2), bs, be, ba, bt, 1, 0, 0, go, -1, wr + 1, ws + sk, le, wg) = ((0, g1, r1, k1), (0, g2 + 1, r2 + 1, k2), bs, be, ba, bt, 1, 0, 0, 12, 1, wr + 1, ws + sk, le, wg + 1) := if_neg c2
        have e3 : g2 + 1 = 3 := by
          rw [kltI, n3] at c2
          rw [keqI, n3]
          omega
        rw [a, b, d, y]
        exact step_ok rfl rfl ⟨0, g1, r1, k1, 0, g2 + 1, r2 + 1, k2, bs, be, ba, bt, 1, 0, 0, 12, 1, wr + 1, ws + sk, le, wg + 1, st, bl, 0, tu, sk, 0, mo, rfl, rfl, Or.inr rfl, ⟨Or.inl ⟨rfl, rfl⟩, by decide, by decide, by decide, by decide, Or.inr (Or.inr ⟨rfl, e3, m1, m2, rfl, rfl, rfl, rfl⟩)⟩, Or.inl ⟨rfl, rfl⟩⟩
  · have a : fX2_winRally 1 ((p1, g1, r1, k1), (p2, g2, r2, k2), bs, be, ba, bt, 0, 1, sk, go, -1, wr, ws, le, wg) = (2 + 1, ((p1, g1, r1, k1), (p2, g2, r2 + 1, k2), bs, be, ba, bt, 1, 0, 0, go, -1, wr + 1, ws + sk, le, wg)) := (if_neg d10).trans (if_neg (by decide : ¬ (1 : Int32) = 0))
    have y : fX3_win_1 (st, (p1, p2), (g1, g2), (r1, r2), (k1, k2), bl, 0, 0, 1, tu, sk, wr, le, wg, go, is, ws, mo) = (2 + 1, (st, (p1, p2), (g1, g2), (r1, r2 + 1), (k1, k2), bl, 0, 1, 0, tu, sk, wr + 1, le, wg, go, is, ws + sk, mo)) := (if_neg (by decide : ¬ (1 : Int32) = 0)).trans (if_pos (kltI.mpr s5))
    rw [a, y]
    exact step_ok rfl rfl ⟨p1, g1, r1, k1, p2, g2, r2 + 1, k2, bs, be, ba, bt, 1, 0, 0, go, -1, wr + 1, ws + sk, le, wg, st, bl, 0, tu, sk, is, mo, rfl, rfl, Or.inr rfl, ⟨s1, s2, s3, s4, s5, Or.inl ⟨rfl, m1, m2, m3, m4⟩⟩, Or.inl ⟨rfl, rfl⟩⟩
