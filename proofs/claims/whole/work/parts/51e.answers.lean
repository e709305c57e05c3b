/-! refused and granted calls -/
def thr (Y : Mo) (e : Int32) : Mo := (Y.1, Y.2.1, Y.2.2.1, Y.2.2.2.1, Y.2.2.2.2.1, Y.2.2.2.2.2.1, e, Y.2.2.2.2.2.2.2)
theorem step_no {i : Nat} {X : Co} {Y : Mo} (h : Rel i X Y) {c e kA kS kO v w : Int32} (hc : ¬ c = 0) (hk : e = kK c kA kS kO) : kStep i X (c, w, X) kA kS kO (v, thr Y e) :=
  ⟨hk, fun h => absurd h hc, by
    show Rel (i + 1) (if c = 0 then X else X) (thr Y e)
    rw [if_neg hc]
    exact h.mono.touch Y.2.2.2.2.2.1 e Y.2.2.2.2.2.2.2.2.2.2.2.2.2.2.2.2.2⟩
theorem step_ok {i : Nat} {X X' : Co} {Y' : Mo} {kA kS kO v v' : Int32} (hv : v = v') (ht : Y'.2.2.2.2.2.2.1 = 0) (h : Rel (i + 1) X' Y') : kStep i X (0, v, X') kA kS kO (v', Y') :=
  ⟨ht, fun _ => hv, h⟩
/-- a call that only tells -/
theorem step_tell {i : Nat} {X : Co} {Y : Mo} (h : Rel i X Y) {kA kS kO v v' : Int32} (hv : v = v') : kStep i X (0, v, X) kA kS kO (v', thr Y 0) :=
  step_ok hv rfl (h.mono.touch Y.2.2.2.2.2.1 0 Y.2.2.2.2.2.2.2.2.2.2.2.2.2.2.2.2.2)
theorem isIn_br (p a b : Int32) : (fX3_isIn p a b = 0 ∧ (p.toInt < a.toInt ∨ b.toInt < p.toInt)) ∨ (fX3_isIn p a b = 1 ∧ a.toInt ≤ p.toInt ∧ p.toInt ≤ b.toInt) := by
  unfold fX3_isIn
  by_cases h : p < a
  · rw [if_pos h]
    exact Or.inl ⟨rfl, Or.inl (kltI.mp h)⟩
  · rw [if_neg h]
    rw [kltI] at h
    by_cases h2 : b < p
    · rw [if_pos h2]
      exact Or.inl ⟨rfl, Or.inr (kltI.mp h2)⟩
    · rw [if_neg h2]
      rw [kltI] at h2
      exact Or.inr ⟨rfl, by omega, by omega⟩
theorem d10 : ¬ (1 : Int32) = 0 := by decide
theorem d20 : ¬ (2 : Int32) = 0 := by decide
theorem d30 : ¬ (3 : Int32) = 0 := by decide
theorem stroke_eq (p0 p1 p2 : Int32) : fX2_isStroke p0 p1 p2 = fX3_isStroke p0 p1 p2 := by
  have e0 : fX2_isWay p0 = fX3_isIn p0 (-2) 2 := rfl
  have e1 : fX2_isWay p1 = fX3_isIn p1 (-2) 2 := rfl
  unfold fX2_isStroke fX3_isStroke
  rw [e0, e1]
  by_cases h0 : fX3_isIn p0 (-2) 2 = 0
  · rw [if_pos h0, if_pos h0]
  · rw [if_neg h0, if_neg h0]
    by_cases h1 : fX3_isIn p1 (-2) 2 = 0
    · rw [if_pos h1, if_pos h1]
    · rw [if_neg h1, if_neg h1]
      have e2 : (if p2 < 0 then (0 : Int32) else if 9 < p2 then 0 else 1) = fX3_isIn p2 0 9 := rfl
      rw [e2]
      rcases isIn_br p2 0 9 with ⟨h, _⟩ | ⟨h, _⟩
      · rw [h]; rfl
      · rw [h]; rfl
theorem stroke_b {p0 p1 p2 : Int32} (h : ¬ fX3_isStroke p0 p1 p2 = 0) : -2 ≤ p0.toInt ∧ p0.toInt ≤ 2 ∧ -2 ≤ p1.toInt ∧ p1.toInt ≤ 2 ∧ 0 ≤ p2.toInt ∧ p2.toInt ≤ 9 := by
  unfold fX3_isStroke at h
  rcases isIn_br p0 (-2) 2 with ⟨h0, _⟩ | ⟨h0, a1, a2⟩
  · rw [if_pos h0] at h; exact absurd rfl h
  · rw [if_neg (by rw [h0]; decide)] at h
    rcases isIn_br p1 (-2) 2 with ⟨h1, _⟩ | ⟨h1, b1, b2⟩
    · rw [if_pos h1] at h; exact absurd rfl h
    · rw [if_neg (by rw [h1]; decide)] at h
      rcases isIn_br p2 0 9 with ⟨h2, _⟩ | ⟨h2, c1, c2⟩
      · rw [if_pos h2] at h; exact absurd rfl h
      · rw [nm2] at a1 b1
        rw [n2] at a2 b2
        rw [n0] at c1
        rw [n9] at c2
        exact ⟨a1, a2, b1, b2, c1, c2⟩
theorem par {j : Nat} (h : j < 600) : nI j - nI j / 2 * 2 = 0 ↔ j % 2 = 0 := by
  have h2 : ∀ j : Fin 600, (nI j.val - nI j.val / 2 * 2 = 0 ↔ j.val % 2 = 0) := by decide +kernel
  exact h2 ⟨j, h⟩
/-- whose turn it is -/
theorem turn_br {X : Co} {sv tu : Int32} {j : Nat} (hj : j < 600) (h1 : X.2.2.2.2.2.2.1 = sv) (h2 : X.2.2.2.2.2.2.2.2.1 = nI j) (h3 : tu = if j % 2 = 0 then sv else 1 - sv) : fX2_sideToStrike X = tu := by
  unfold fX2_sideToStrike fX2_otherSide
  rw [h1, h2, h3]
  by_cases h : j % 2 = 0
  · rw [if_pos h, if_pos ((par hj).mpr h)]
  · rw [if_neg h, if_neg (fun h2 => h ((par hj).mp h2))]
theorem turn_01 {sv tu : Int32} {j : Nat} (h : sv = 0 ∨ sv = 1) (h3 : tu = if j % 2 = 0 then sv else 1 - sv) : tu = 0 ∨ tu = 1 := by
  rw [h3]
  rcases h with rfl | rfl <;> by_cases h : j % 2 = 0
  · rw [if_pos h]; decide
  · rw [if_neg h]; decide
  · rw [if_pos h]; decide
  · rw [if_neg h]; decide
theorem turn_next {sv tu : Int32} {j : Nat} (h : sv = 0 ∨ sv = 1) (h3 : tu = if j % 2 = 0 then sv else 1 - sv) : 1 - tu = if (j + 1) % 2 = 0 then sv else 1 - sv := by
  rw [h3]
  by_cases hj : j % 2 = 0
  · rw [if_pos hj, if_neg (by omega)]
  · rw [if_neg hj, if_pos (by omega)]
    rcases h with rfl | rfl <;> decide
/-! what the letters of a call hold -/
theorem pr_let {i : Nat} {X : Co} {Y : Mo} (hi : i < 512) (h : Rel i X Y) : kStep i X (xX2_let X) 9 1 9 (fX3_let Y) := by
  have h0 := h
  obtain ⟨p1, g1, r1, k1, p2, g2, r2, k2, bs, be, ba, bt, sv, ra, sk, go, mw, wr, ws, le, wg, st, bl, th, tu, sk', is, mo, h1, h2, h3, h4, h5⟩ := h
  subst h1 h2
  rcases h5 with ⟨ha, hb⟩ | ⟨ha, hk, ⟨j, j1, j2, j3, j4⟩, hg, hst, hbe⟩
  · subst ha
    unfold xX2_let fX3_let
    rw [if_pos rfl, if_pos rfl]
    exact step_no h0 d20 rfl
  · subst ha
    unfold xX2_let fX3_let
    rw [if_neg d10, if_neg d10]
    refine step_ok hk.symm rfl ⟨p1, g1, r1, k1, p2, g2, r2, k2, bs, be, ba, bt, sv, 0, 0, go, mw, wr, ws, le + 1, wg, st, bl, 0, tu, sk', is, mo, rfl, rfl, h3, ?_, Or.inl ⟨rfl, rfl⟩⟩
    obtain ⟨s1, s2, s3, s4, s5, s6⟩ := h4
    refine ⟨s1, s2, s3, s4, s5, ?_⟩
    rcases s6 with s6 | ⟨_, _, _, _, _, _, hz, _⟩ | ⟨_, _, _, _, _, _, hz, _⟩
    · exact Or.inl s6
    · exact absurd hz d10
    · exact absurd hz d10
theorem pr_match {i : Nat} {X : Co} {Y : Mo} (p0 : Int32) (hi : i < 512) (h : Rel i X Y) : kStep i X (xX2_match p0 X) 9 9 1 (fX3_match p0 Y) := by
  have h0 := h
  obtain ⟨p1, g1, r1, k1, p2, g2, r2, k2, bs, be, ba, bt, sv, ra, sk, go, mw, wr, ws, le, wg, st, bl, th, tu, sk', is, mo, h1, h2, h3, h4, h5⟩ := h
  subst h1 h2
  rcases isIn_br p0 0 1 with ⟨e, hp⟩ | ⟨e, hp1, hp2⟩
  · rw [n0, n1] at hp
    have e2 : fX2_isSide p0 = 0 := by
      unfold fX2_isSide
      rw [if_neg (by rw [keqI, n0]; omega), if_neg (by rw [keqI, n1]; omega)]
    rw [show xX2_match p0 _ = _ from if_pos e2, show fX3_match p0 _ = _ from if_pos e]
    exact step_no h0 d30 rfl
  · rw [n0] at hp1
    rw [n1] at hp2
    have hs : p0 = 0 ∨ p0 = 1 := by
      rw [keqI, keqI, n0, n1]
      omega
    have e2 : ¬ fX2_isSide p0 = 0 := by rcases hs with rfl | rfl <;> decide
    rw [show xX2_match p0 _ = _ from if_neg e2, show fX3_match p0 _ = _ from if_neg (by rw [e]; exact d10)]
    exact step_ok rfl rfl ⟨0, 0, 0, 0, 0, 0, 0, 0, bs, be, ba, bt, p0, 0, 0, 12, -1, wr, ws, le, wg, st, bl, 0, tu, sk', 0, mo, rfl, rfl, hs, ⟨Or.inl ⟨rfl, rfl⟩, by decide, by decide, by decide, by decide, Or.inl ⟨rfl, by decide, by decide, by decide, by decide⟩⟩, Or.inl ⟨rfl, rfl⟩⟩
theorem winner_br {p1 g1 p2 g2 ra go mw is : Int32} (h : RelS p1 g1 p2 g2 ra go mw is) : (if g1 = 3 then (0 : Int32) else if g2 = 3 then 1 else -1) = mw := by
  obtain ⟨s1, s2, s3, s4, s5, s6⟩ := h
  rcases s6 with ⟨hm, a1, a2, a3, a4⟩ | ⟨hm, ha, a3, a4, _⟩ | ⟨hm, ha, a1, a2, _⟩
  · rw [if_neg (by rw [keqI, n3]; omega), if_neg (by rw [keqI, n3]; omega), hm]
  · rw [if_pos ha, hm]
  · rw [if_neg (by rw [keqI, n3]; omega), if_pos ha, hm]
theorem dm10 : ¬ (-1 : Int32) = 0 := by decide
/-- may be set: both sides say alike -/
theorem canset_br {p1 g1 p2 g2 ra go mw is : Int32} (h : RelS p1 g1 p2 g2 ra go mw is) :
    (if ra = 0 then (if go = 12 then (if p1 = p2 then (if p1 = 10 then (1 : Int32) else if p1 = 11 then 1 else 0) else 0) else 0) else 0) =
    (if ra = 0 then (if is = 0 then (if p1 = p2 then (if fX3_isIn p1 10 11 = 0 then 0 else if (if g1 = 3 then (0 : Int32) else if g2 = 3 then 1 else -1) = -1 then 1 else 0) else 0) else 0) else 0) := by
  rw [winner_br h]
  obtain ⟨s1, s2, s3, s4, s5, s6⟩ := h
  by_cases h1 : ra = 0
  · rw [if_pos h1, if_pos h1]
    have h2 : go = 12 ↔ is = 0 := by
      rcases s1 with ⟨a, b⟩ | ⟨a, b⟩
      · rw [a, b]; decide
      · rw [a]
        rcases b with b | b | b | b <;> rw [b] <;> decide
    by_cases h3 : is = 0
    · rw [if_pos h3, if_pos (h2.mpr h3)]
      by_cases h4 : p1 = p2
      · rw [if_pos h4, if_pos h4]
        rcases isIn_br p1 10 11 with ⟨e, hp⟩ | ⟨e, hp1, hp2⟩
        · rw [n10, n11] at hp
          rw [if_pos e, if_neg (by rw [keqI, n10]; omega), if_neg (by rw [keqI, n11]; omega)]
        · rw [n10] at hp1
          rw [n11] at hp2
          rw [if_neg (show ¬ fX3_isIn p1 10 11 = 0 by rw [e]; exact d10)]
          have hm : mw = -1 := by
            rcases s6 with ⟨hm, _⟩ | ⟨hm, _, _, _, hz, _⟩ | ⟨hm, _, _, _, hz, _⟩
            · exact hm
            · rw [hz, n0] at hp1; omega
            · rw [hz, n0] at hp1; omega
          rw [if_pos hm]
          by_cases h5 : p1 = 10
          · rw [if_pos h5]
          · rw [if_neg h5, if_pos (by rw [keqI, n11]; rw [keqI, n10] at h5; omega)]
      · rw [if_neg h4, if_neg h4]
    · rw [if_neg h3, if_neg (fun h => h3 (h2.mp h))]
  · rw [if_neg h1, if_neg h1]
theorem set_go {p0 p1 : Int32} (h0 : p0 = 3 ∨ p0 = 5) (h1 : p1.toInt = 10 ∨ p1.toInt = 11) : (p1 + p0 = 13 ∨ p1 + p0 = 14 ∨ p1 + p0 = 15 ∨ p1 + p0 = 16) ∧ p1.toInt < (p1 + p0).toInt := by
  have h : p1 = 10 ∨ p1 = 11 := by
    rw [keqI, keqI, n10, n11]
    exact h1
  rcases h0 with rfl | rfl <;> rcases h with rfl | rfl <;> decide
theorem pr_set {i : Nat} {X : Co} {Y : Mo} (p0 : Int32) (hi : i < 512) (h : Rel i X Y) : kStep i X (xX2_set p0 X) 1 2 9 (fX3_set p0 Y) := by
  have h0 := h
  obtain ⟨p1, g1, r1, k1, p2, g2, r2, k2, bs, be, ba, bt, sv, ra, sk, go, mw, wr, ws, le, wg, st, bl, th, tu, sk', is, mo, h1, h2, h3, h4, h5⟩ := h
  subst h1 h2
  have hc := canset_br h4
  have hX : fX2_canBeSet ((p1, g1, r1, k1), (p2, g2, r2, k2), bs, be, ba, bt, sv, ra, sk, go, mw, wr, ws, le, wg) = (if ra = 0 then (if go = 12 then (if p1 = p2 then (if p1 = 10 then (1 : Int32) else if p1 = 11 then 1 else 0) else 0) else 0) else 0) := rfl
  have hY : fX3_canSet (st, (p1, p2), (g1, g2), (r1, r2), (k1, k2), bl, 0, sv, ra, tu, sk', wr, le, wg, go, is, ws, mo) = (if ra = 0 then (if is = 0 then (if p1 = p2 then (if fX3_isIn p1 10 11 = 0 then 0 else if (if g1 = 3 then (0 : Int32) else if g2 = 3 then 1 else -1) = -1 then 1 else 0) else 0) else 0) else 0) := rfl
  rw [← hX, ← hY] at hc
  have key : ¬ fX2_canBeSet ((p1, g1, r1, k1), (p2, g2, r2, k2), bs, be, ba, bt, sv, ra, sk, go, mw, wr, ws, le, wg) = 0 → ra = 0 ∧ is = 0 ∧ p1 = p2 ∧ (p1.toInt = 10 ∨ p1.toInt = 11) := by
    intro hn
    rw [hX] at hn
    by_cases c1 : ra = 0
    · rw [if_pos c1] at hn
      by_cases c2 : go = 12
      · rw [if_pos c2] at hn
        by_cases c3 : p1 = p2
        · rw [if_pos c3] at hn
          refine ⟨c1, ?_, c3, ?_⟩
          · rcases h4.1 with ⟨a, _⟩ | ⟨_, b⟩
            · exact a
            · rw [c2] at b
              exact absurd b (by decide)
          · by_cases c4 : p1 = 10
            · exact Or.inl (by rw [c4]; exact n10)
            · rw [if_neg c4] at hn
              by_cases c5 : p1 = 11
              · exact Or.inr (by rw [c5]; exact n11)
              · rw [if_neg c5] at hn
                exact absurd rfl hn
        · rw [if_neg c3] at hn; exact absurd rfl hn
      · rw [if_neg c2] at hn; exact absurd rfl hn
    · rw [if_neg c1] at hn; exact absurd rfl hn
  have fin : (p0 = 3 ∨ p0 = 5) → ¬ fX2_canBeSet ((p1, g1, r1, k1), (p2, g2, r2, k2), bs, be, ba, bt, sv, ra, sk, go, mw, wr, ws, le, wg) = 0 → Rel (i + 1) ((p1, g1, r1, k1), (p2, g2, r2, k2), bs, be, ba, bt, sv, ra, sk, p1 + p0, mw, wr, ws, le, wg) (st, (p1, p2), (g1, g2), (r1, r2), (k1, k2), bl, 0, sv, ra, tu, sk', wr, le, wg, p1 + p0, 1, ws, mo) := by
    intro hp hn
    obtain ⟨ha, hb, hq, hz⟩ := key hn
    obtain ⟨w1, w2⟩ := set_go hp hz
    obtain ⟨s1, s2, s3, s4, s5, s6⟩ := h4
    refine ⟨p1, g1, r1, k1, p2, g2, r2, k2, bs, be, ba, bt, sv, ra, sk, p1 + p0, mw, wr, ws, le, wg, st, bl, 0, tu, sk', 1, mo, rfl, rfl, h3, ⟨Or.inr ⟨rfl, w1⟩, s2, w2, s4, by rw [← hq]; exact w2, ?_⟩, h5.mono⟩
    rcases s6 with s6 | ⟨_, _, _, _, hz2, _⟩ | ⟨_, _, _, _, hz2, _⟩
    · exact Or.inl s6
    · rw [hz2, n0] at hz; omega
    · rw [hz2, n0] at hz; omega
  by_cases c3 : p0 = 3
  · rw [show xX2_set p0 _ = _ from if_pos c3, show fX3_set p0 _ = _ from if_pos c3]
    by_cases c : fX2_canBeSet ((p1, g1, r1, k1), (p2, g2, r2, k2), bs, be, ba, bt, sv, ra, sk, go, mw, wr, ws, le, wg) = 0
    · rw [if_pos c, if_pos (hc.symm.trans c)]
      exact step_no h0 d20 rfl
    · rw [if_neg c, if_neg (fun h => c (hc.trans h))]
      exact step_ok rfl rfl (fin (Or.inl c3) c)
  · rw [show xX2_set p0 _ = _ from if_neg c3, show fX3_set p0 _ = _ from if_neg c3]
    by_cases c5 : p0 = 5
    · rw [if_pos c5, if_pos c5]
      by_cases c : fX2_canBeSet ((p1, g1, r1, k1), (p2, g2, r2, k2), bs, be, ba, bt, sv, ra, sk, go, mw, wr, ws, le, wg) = 0
      · rw [if_pos c, if_pos (hc.symm.trans c)]
        exact step_no h0 d20 rfl
      · rw [if_neg c, if_neg (fun h => c (hc.trans h))]
        exact step_ok rfl rfl (fin (Or.inr c5) c)
    · rw [if_neg c5, if_neg c5]
      exact step_no h0 d10 rfl
