/-! both sides tell alike -/
theorem Rel.ra {i : Nat} {X : Co} {Y : Mo} (h : Rel i X Y) : Y.2.2.2.2.2.2.2.2.1 = X.2.2.2.2.2.2.2.1 := by
  obtain ⟨p1, g1, r1, k1, p2, g2, r2, k2, bs, be, ba, bt, sv, ra, sk, go, mw, wr, ws, le, wg, st, bl, th, tu, sk', is, mo, h1, h2, h3, h4, h5⟩ := h
  subst h1 h2
  rfl
theorem Rel.thr {i : Nat} {X : Co} {Y : Mo} (h : Rel i X Y) (e : Int32) : Rel i X (thr Y e) := h.touch Y.2.2.2.2.2.1 e Y.2.2.2.2.2.2.2.2.2.2.2.2.2.2.2.2.2
theorem Rel.sB {i : Nat} {X : Co} {Y : Mo} (h : Rel i X Y) (q : M9) (m : Int32) : Rel i X (sB Y q m) := h.touch q Y.2.2.2.2.2.2.1 m
/-- the balls that are looked ahead at are free -/
theorem Rel.look {i : Nat} {X : Co} {Y : Mo} (h : Rel i X Y) (a t : Ba) : Rel i (X.1, X.2.1, X.2.2.1, X.2.2.2.1, a, t, X.2.2.2.2.2.2) Y := by
  obtain ⟨p1, g1, r1, k1, p2, g2, r2, k2, bs, be, ba, bt, sv, ra, sk, go, mw, wr, ws, le, wg, st, bl, th, tu, sk', is, mo, h1, h2, h3, h4, h5⟩ := h
  subst h1
  exact ⟨p1, g1, r1, k1, p2, g2, r2, k2, bs, be, a, t, sv, ra, sk, go, mw, wr, ws, le, wg, st, bl, th, tu, sk', is, mo, rfl, h2, h3, h4, h5⟩
theorem Rel.on {i : Nat} {X : Co} {Y : Mo} (h : Rel i X Y) (hr : ¬ X.2.2.2.2.2.2.2.1 = 0) :
    X.2.2.2.2.2.2.2.1 = 1 ∧ Y.2.2.2.2.2.2.2.2.2.2.1 = X.2.2.2.2.2.2.2.2.1 ∧
    (∃ j : Nat, X.2.2.2.2.2.2.2.2.1 = nI j ∧ 1 ≤ j ∧ j ≤ i ∧ Y.2.2.2.2.2.2.2.2.2.1 = if j % 2 = 0 then X.2.2.2.2.2.2.1 else 1 - X.2.2.2.2.2.2.1) ∧ Good i X.2.2.1 ∧ Y.1 = c9 X.2.2.1 ∧ X.2.2.2.1 = iterE 1000 X.2.2.1 := by
  obtain ⟨p1, g1, r1, k1, p2, g2, r2, k2, bs, be, ba, bt, sv, ra, sk, go, mw, wr, ws, le, wg, st, bl, th, tu, sk', is, mo, h1, h2, h3, h4, h5⟩ := h
  subst h1 h2
  rcases h5 with ⟨ha, hb⟩ | h5
  · exact absurd ha hr
  · exact h5
theorem Rel.turn {i : Nat} {X : Co} {Y : Mo} (hi : i ≤ 512) (h : Rel i X Y) (hr : ¬ X.2.2.2.2.2.2.2.1 = 0) : fX2_sideToStrike X = Y.2.2.2.2.2.2.2.2.2.1 := by
  obtain ⟨h1, h2, ⟨j, j1, j2, j3, j4⟩, h5, h6, h7⟩ := h.on hr
  exact turn_br (by omega) rfl j1 j4
theorem count_all {i : Nat} {X : Co} {Y : Mo} (hi : i ≤ 512) (h : Rel i X Y) :
    fX2_count_0 X = fX3_counted_0 Y ∧ fX2_count_1 X = fX3_counted_1 Y ∧ fX2_count_2 X = fX3_counted_2 Y ∧ fX2_count_3 X = fX3_counted_3 Y ∧ fX2_count_4 X = fX3_counted_4 Y ∧ fX2_count_5 X = fX3_counted_5 Y ∧ fX2_count_6 X = fX3_counted_6 Y ∧ fX2_count_7 X = fX3_counted_7 Y ∧ fX2_count_8 X = fX3_counted_8 Y := by
  have ht := fun hr => h.turn hi hr
  obtain ⟨p1, g1, r1, k1, p2, g2, r2, k2, bs, be, ba, bt, sv, ra, sk, go, mw, wr, ws, le, wg, st, bl, th, tu, sk', is, mo, h1, h2, h3, h4, h5⟩ := h
  subst h1 h2
  have hc := canset_br h4
  have hw := winner_br h4
  refine ⟨rfl, ?_, ?_, rfl, rfl, rfl, ?_, hw.symm, rfl⟩
  · unfold fX2_count_1 fX3_counted_1
    by_cases hr : ra = 0
    · rw [if_pos hr, if_pos hr]
    · rw [if_neg hr, if_neg hr]
      exact ht hr
  · unfold fX2_count_2 fX3_counted_2
    rcases h5 with ⟨ha, hb⟩ | ⟨ha, hb, _⟩
    · rw [if_pos ha]
      exact hb
    · rw [if_neg (show ¬ ra = 0 by rw [ha]; decide)]
      exact hb.symm
  · unfold fX2_count_6 fX3_counted_6
    exact congrArg (fun z : Int32 => if z = 0 then (0 : Int32) else 1) hc
theorem told_all {i : Nat} {X : Co} {Y : Mo} (h : Rel i X Y) :
    fX2_told_00 X = fX3_sideTold_00 Y ∧ fX2_told_01 X = fX3_sideTold_01 Y ∧ fX2_told_02 X = fX3_sideTold_02 Y ∧ fX2_told_03 X = fX3_sideTold_03 Y ∧ fX2_told_10 X = fX3_sideTold_10 Y ∧ fX2_told_11 X = fX3_sideTold_11 Y ∧ fX2_told_12 X = fX3_sideTold_12 Y ∧ fX2_told_13 X = fX3_sideTold_13 Y := by
  obtain ⟨p1, g1, r1, k1, p2, g2, r2, k2, bs, be, ba, bt, sv, ra, sk, go, mw, wr, ws, le, wg, st, bl, th, tu, sk', is, mo, h1, h2, h3, h4, h5⟩ := h
  subst h1 h2
  exact ⟨rfl, rfl, rfl, rfl, rfl, rfl, rfl, rfl⟩
theorem tell_ite {r r' v v' : Int32} (hr : r' = r) (hv : ¬ r = 0 → v = v') : (if r = 0 then (0 : Int32) else v) = (if r' = 0 then 0 else v') := by
  rw [hr]
  by_cases h : r = 0
  · rw [if_pos h, if_pos h]
  · rw [if_neg h, if_neg h]
    exact hv h
theorem ball_all {i : Nat} {X : Co} {Y : Mo} (h : Rel i X Y) :
    fX2_ball_0 X = fX3_ballTold_0 Y ∧ fX2_ball_1 X = fX3_ballTold_1 Y ∧ fX2_ball_2 X = fX3_ballTold_2 Y ∧ fX2_ball_3 X = fX3_ballTold_3 Y ∧ fX2_ball_4 X = fX3_ballTold_4 Y ∧ fX2_ball_5 X = fX3_ballTold_5 Y := by
  have hq := fun hr => (h.on hr).2.2.2.2.1
  exact ⟨tell_ite h.ra (fun hr => by rw [hq hr]), tell_ite h.ra (fun hr => by rw [hq hr]), tell_ite h.ra (fun hr => by rw [hq hr]), tell_ite h.ra (fun hr => by rw [hq hr]), tell_ite h.ra (fun hr => by rw [hq hr]), tell_ite h.ra (fun hr => by rw [hq hr])⟩
theorem endt_0 {i : Nat} {X : Co} {Y : Mo} (hi : i ≤ 512) (h : Rel i X Y) : NX3_endTold_0 Y ∧ fX2_end_0 X = (fX3_endTold_0 Y).1 ∧ Rel i X (fX3_endTold_0 Y).2 ∧ (fX3_endTold_0 Y).2.2.2.2.2.2.2.1 = Y.2.2.2.2.2.2.1 := by
  unfold NX3_endTold_0 fX2_end_0 fX3_endTold_0
  by_cases hr : X.2.2.2.2.2.2.2.1 = 0
  · have hz : Y.2.2.2.2.2.2.2.2.1 = 0 := h.ra.trans hr
    rw [if_pos hr, if_pos hz]
    exact ⟨fun a => absurd hz a, rfl, h, rfl⟩
  · have hz : ¬ Y.2.2.2.2.2.2.2.2.1 = 0 := fun a => hr (h.ra.symm.trans a)
    obtain ⟨h1, h2, h3, h5, h6, h7⟩ := h.on hr
    obtain ⟨f1, f2⟩ := full_eq hi h5 Y h6
    rw [if_neg hr, if_neg hz, f2, h7]
    exact ⟨fun _ => f1, rfl, h.sB _ _, rfl⟩
theorem endt_1 {i : Nat} {X : Co} {Y : Mo} (hi : i ≤ 512) (h : Rel i X Y) : NX3_endTold_1 Y ∧ fX2_end_1 X = (fX3_endTold_1 Y).1 ∧ Rel i X (fX3_endTold_1 Y).2 ∧ (fX3_endTold_1 Y).2.2.2.2.2.2.2.1 = Y.2.2.2.2.2.2.1 := by
  unfold NX3_endTold_1 fX2_end_1 fX3_endTold_1
  by_cases hr : X.2.2.2.2.2.2.2.1 = 0
  · have hz : Y.2.2.2.2.2.2.2.2.1 = 0 := h.ra.trans hr
    rw [if_pos hr, if_pos hz]
    exact ⟨fun a => absurd hz a, rfl, h, rfl⟩
  · have hz : ¬ Y.2.2.2.2.2.2.2.2.1 = 0 := fun a => hr (h.ra.symm.trans a)
    obtain ⟨h1, h2, h3, h5, h6, h7⟩ := h.on hr
    obtain ⟨f1, f2⟩ := full_eq hi h5 Y h6
    rw [if_neg hr, if_neg hz, f2, h7]
    exact ⟨fun _ => f1, rfl, h.sB _ _, rfl⟩
theorem endt_2 {i : Nat} {X : Co} {Y : Mo} (hi : i ≤ 512) (h : Rel i X Y) : NX3_endTold_2 Y ∧ fX2_end_2 X = (fX3_endTold_2 Y).1 ∧ Rel i X (fX3_endTold_2 Y).2 ∧ (fX3_endTold_2 Y).2.2.2.2.2.2.2.1 = Y.2.2.2.2.2.2.1 := by
  unfold NX3_endTold_2 fX2_end_2 fX3_endTold_2
  by_cases hr : X.2.2.2.2.2.2.2.1 = 0
  · have hz : Y.2.2.2.2.2.2.2.2.1 = 0 := h.ra.trans hr
    rw [if_pos hr, if_pos hz]
    exact ⟨fun a => absurd hz a, rfl, h, rfl⟩
  · have hz : ¬ Y.2.2.2.2.2.2.2.2.1 = 0 := fun a => hr (h.ra.symm.trans a)
    obtain ⟨h1, h2, h3, h5, h6, h7⟩ := h.on hr
    obtain ⟨f1, f2⟩ := full_eq hi h5 Y h6
    rw [if_neg hr, if_neg hz, f2, h7]
    exact ⟨fun _ => f1, rfl, h.sB _ _, rfl⟩
theorem endt_3 {i : Nat} {X : Co} {Y : Mo} (hi : i ≤ 512) (h : Rel i X Y) : NX3_endTold_3 Y ∧ fX2_end_3 X = (fX3_endTold_3 Y).1 ∧ Rel i X (fX3_endTold_3 Y).2 ∧ (fX3_endTold_3 Y).2.2.2.2.2.2.2.1 = Y.2.2.2.2.2.2.1 := by
  unfold NX3_endTold_3 fX2_end_3 fX3_endTold_3
  by_cases hr : X.2.2.2.2.2.2.2.1 = 0
  · have hz : Y.2.2.2.2.2.2.2.2.1 = 0 := h.ra.trans hr
    rw [if_pos hr, if_pos hz]
    exact ⟨fun a => absurd hz a, rfl, h, rfl⟩
  · have hz : ¬ Y.2.2.2.2.2.2.2.2.1 = 0 := fun a => hr (h.ra.symm.trans a)
    obtain ⟨h1, h2, h3, h5, h6, h7⟩ := h.on hr
    obtain ⟨f1, f2⟩ := full_eq hi h5 Y h6
    rw [if_neg hr, if_neg hz, f2, h7]
    exact ⟨fun _ => f1, rfl, h.sB _ _, rfl⟩
theorem endt_4 {i : Nat} {X : Co} {Y : Mo} (hi : i ≤ 512) (h : Rel i X Y) : NX3_endTold_4 Y ∧ fX2_end_4 X = (fX3_endTold_4 Y).1 ∧ Rel i X (fX3_endTold_4 Y).2 ∧ (fX3_endTold_4 Y).2.2.2.2.2.2.2.1 = Y.2.2.2.2.2.2.1 := by
  unfold NX3_endTold_4 fX2_end_4 fX3_endTold_4
  by_cases hr : X.2.2.2.2.2.2.2.1 = 0
  · have hz : Y.2.2.2.2.2.2.2.2.1 = 0 := h.ra.trans hr
    rw [if_pos hr, if_pos hz]
    exact ⟨fun a => absurd hz a, rfl, h, rfl⟩
  · have hz : ¬ Y.2.2.2.2.2.2.2.2.1 = 0 := fun a => hr (h.ra.symm.trans a)
    obtain ⟨h1, h2, h3, h5, h6, h7⟩ := h.on hr
    obtain ⟨f1, f2⟩ := full_eq hi h5 Y h6
    rw [if_neg hr, if_neg hz, f2, h7]
    exact ⟨fun _ => f1, rfl, h.sB _ _, rfl⟩
theorem n5 : ((5 : Int32)).toInt = 5 := by decide
theorem n6 : ((6 : Int32)).toInt = 6 := by decide
theorem n7 : ((7 : Int32)).toInt = 7 := by decide
theorem n8 : ((8 : Int32)).toInt = 8 := by decide
theorem pr_ball {i : Nat} {X : Co} {Y : Mo} (p0 : Int32) (hi : i < 512) (h : Rel i X Y) : kStep i X (gX2_ball p0 X) 9 9 1 (gX3_ball p0 Y) := by
  obtain ⟨e0, e1, e2, e3, e4, e5⟩ := ball_all (h.thr 0)
  have q : ∀ u v : Int32, (if X.2.2.2.2.2.2.2.1 = 0 then ((0 : Int32), u, X) else (0, v, X)) = (0, (if X.2.2.2.2.2.2.2.1 = 0 then u else v), X) := by
    intro u v
    by_cases hr : X.2.2.2.2.2.2.2.1 = 0
    · rw [if_pos hr, if_pos hr]
    · rw [if_neg hr, if_neg hr]
  unfold gX2_ball gX3_ball
  by_cases c0 : p0 = 0
  · rw [if_pos c0, if_pos c0, show xX2_ball_0 X = (0, fX2_ball_0 X, X) from q _ _]
    exact step_tell h e0
  · rw [if_neg c0, if_neg c0]
    by_cases c1 : p0 = 1
    · rw [if_pos c1, if_pos c1, show xX2_ball_1 X = (0, fX2_ball_1 X, X) from q _ _]
      exact step_tell h e1
    · rw [if_neg c1, if_neg c1]
      by_cases c2 : p0 = 2
      · rw [if_pos c2, if_pos c2, show xX2_ball_2 X = (0, fX2_ball_2 X, X) from q _ _]
        exact step_tell h e2
      · rw [if_neg c2, if_neg c2]
        by_cases c3 : p0 = 3
        · rw [if_pos c3, if_pos c3, show xX2_ball_3 X = (0, fX2_ball_3 X, X) from q _ _]
          exact step_tell h e3
        · rw [if_neg c3, if_neg c3]
          by_cases c4 : p0 = 4
          · rw [if_pos c4, if_pos c4, show xX2_ball_4 X = (0, fX2_ball_4 X, X) from q _ _]
            exact step_tell h e4
          · rw [if_neg c4, if_neg c4]
            by_cases c5 : p0 = 5
            · rw [if_pos c5, if_pos c5, show xX2_ball_5 X = (0, fX2_ball_5 X, X) from q _ _]
              exact step_tell h e5
            · rw [if_neg c5, if_neg c5]
              rw [keqI] at c0 c1 c2 c3 c4 c5
              rw [n0] at c0
              rw [n1] at c1
              rw [n2] at c2
              rw [n3] at c3
              rw [n4] at c4
              rw [n5] at c5
              unfold xX2_ball_bad
              by_cases d0 : p0 < 0
              · rw [if_pos d0]
                exact step_no h d30 rfl
              · rw [if_neg d0, if_neg (show ¬ p0 < 6 by rw [kltI, n0] at d0; rw [kltI, n6]; omega)]
                exact step_no h d30 rfl
theorem pr_count {i : Nat} {X : Co} {Y : Mo} (p0 : Int32) (hi : i < 512) (h : Rel i X Y) : kStep i X (gX2_count p0 X) 9 9 1 (gX3_count p0 Y) := by
  obtain ⟨e0, e1, e2, e3, e4, e5, e6, e7, e8⟩ := count_all (by omega) (h.thr 0)
  have q : ∀ (c u v : Int32), (if c = 0 then ((0 : Int32), u, X) else (0, v, X)) = (0, (if c = 0 then u else v), X) := by
    intro c u v
    by_cases hr : c = 0
    · rw [if_pos hr, if_pos hr]
    · rw [if_neg hr, if_neg hr]
  unfold gX2_count gX3_count
  by_cases c0 : p0 = 0
  · rw [if_pos c0, if_pos c0, show xX2_count_0 X = (0, fX2_count_0 X, X) from rfl]
    exact step_tell h e0
  · rw [if_neg c0, if_neg c0]
    by_cases c1 : p0 = 1
    · rw [if_pos c1, if_pos c1, show xX2_count_1 X = (0, fX2_count_1 X, X) from q _ _ _]
      exact step_tell h e1
    · rw [if_neg c1, if_neg c1]
      by_cases c2 : p0 = 2
      · rw [if_pos c2, if_pos c2, show xX2_count_2 X = (0, fX2_count_2 X, X) from rfl]
        exact step_tell h e2
      · rw [if_neg c2, if_neg c2]
        by_cases c3 : p0 = 3
        · rw [if_pos c3, if_pos c3, show xX2_count_3 X = (0, fX2_count_3 X, X) from rfl]
          exact step_tell h e3
        · rw [if_neg c3, if_neg c3]
          by_cases c4 : p0 = 4
          · rw [if_pos c4, if_pos c4, show xX2_count_4 X = (0, fX2_count_4 X, X) from rfl]
            exact step_tell h e4
          · rw [if_neg c4, if_neg c4]
            by_cases c5 : p0 = 5
            · rw [if_pos c5, if_pos c5, show xX2_count_5 X = (0, fX2_count_5 X, X) from rfl]
              exact step_tell h e5
            · rw [if_neg c5, if_neg c5]
              by_cases c6 : p0 = 6
              · rw [if_pos c6, if_pos c6, show xX2_count_6 X = (0, fX2_count_6 X, X) from q _ _ _]
                exact step_tell h e6
              · rw [if_neg c6, if_neg c6]
                by_cases c7 : p0 = 7
                · rw [if_pos c7, if_pos c7, show xX2_count_7 X = (0, fX2_count_7 X, X) from rfl]
                  exact step_tell h e7
                · rw [if_neg c7, if_neg c7]
                  by_cases c8 : p0 = 8
                  · rw [if_pos c8, if_pos c8, show xX2_count_8 X = (0, fX2_count_8 X, X) from rfl]
                    exact step_tell h e8
                  · rw [if_neg c8, if_neg c8]
                    exact step_no h d30 rfl
theorem pr_end {i : Nat} {X : Co} {Y : Mo} (p0 : Int32) (hi : i < 512) (h : Rel i X Y) : NG3_end p0 Y ∧ kStep i X (gX2_end p0 X) 9 9 1 (gX3_end p0 Y) := by
  have h0 := h.thr 0
  obtain ⟨u0, e0, w0, z0⟩ := endt_0 (by omega) h0
  obtain ⟨u1, e1, w1, z1⟩ := endt_1 (by omega) h0
  obtain ⟨u2, e2, w2, z2⟩ := endt_2 (by omega) h0
  obtain ⟨u3, e3, w3, z3⟩ := endt_3 (by omega) h0
  obtain ⟨u4, e4, w4, z4⟩ := endt_4 (by omega) h0
  refine ⟨⟨fun _ => u0, fun _ => u1, fun _ => u2, fun _ => u3, fun _ => u4⟩, ?_⟩
  have q : ∀ u v : Int32, (if X.2.2.2.2.2.2.2.1 = 0 then ((0 : Int32), u, X) else (0, v, X)) = (0, (if X.2.2.2.2.2.2.2.1 = 0 then u else v), X) := by
    intro u v
    by_cases hr : X.2.2.2.2.2.2.2.1 = 0
    · rw [if_pos hr, if_pos hr]
    · rw [if_neg hr, if_neg hr]
  unfold gX2_end gX3_end
  by_cases c0 : p0 = 0
  · rw [if_pos c0, if_pos c0, show xX2_end_0 X = (0, fX2_end_0 X, X) from q _ _]
    exact step_ok e0 z0 w0.mono
  · rw [if_neg c0, if_neg c0]
    by_cases c1 : p0 = 1
    · rw [if_pos c1, if_pos c1, show xX2_end_1 X = (0, fX2_end_1 X, X) from q _ _]
      exact step_ok e1 z1 w1.mono
    · rw [if_neg c1, if_neg c1]
      by_cases c2 : p0 = 2
      · rw [if_pos c2, if_pos c2, show xX2_end_2 X = (0, fX2_end_2 X, X) from q _ _]
        exact step_ok e2 z2 w2.mono
      · rw [if_neg c2, if_neg c2]
        by_cases c3 : p0 = 3
        · rw [if_pos c3, if_pos c3, show xX2_end_3 X = (0, fX2_end_3 X, X) from q _ _]
          exact step_ok e3 z3 w3.mono
        · rw [if_neg c3, if_neg c3]
          by_cases c4 : p0 = 4
          · rw [if_pos c4, if_pos c4, show xX2_end_4 X = (0, fX2_end_4 X, X) from q _ _]
            exact step_ok e4 z4 w4.mono
          · rw [if_neg c4, if_neg c4]
            rw [keqI] at c0 c1 c2 c3 c4
            rw [n0] at c0
            rw [n1] at c1
            rw [n2] at c2
            rw [n3] at c3
            rw [n4] at c4
            unfold xX2_end_bad
            by_cases d0 : p0 < 0
            · rw [if_pos d0]
              exact step_no h d30 rfl
            · rw [if_neg d0, if_neg (show ¬ p0 < 5 by rw [kltI, n0] at d0; rw [kltI, n5]; omega)]
              exact step_no h d30 rfl
theorem pr_told {i : Nat} {X : Co} {Y : Mo} (p0 p1 : Int32) (hi : i < 512) (h : Rel i X Y) : kStep i X (gX2_told p0 p1 X) 9 9 1 (gX3_told p0 p1 Y) := by
  obtain ⟨e00, e01, e02, e03, e10, e11, e12, e13⟩ := told_all (h.thr 0)
  unfold gX2_told gX3_told
  by_cases a0 : p0 = 0
  · rw [if_pos a0, if_pos a0]
    by_cases c0 : p1 = 0
    · rw [if_pos c0, if_pos c0]
      exact step_tell h e00
    · rw [if_neg c0, if_neg c0]
      by_cases c1 : p1 = 1
      · rw [if_pos c1, if_pos c1]
        exact step_tell h e01
      · rw [if_neg c1, if_neg c1]
        by_cases c2 : p1 = 2
        · rw [if_pos c2, if_pos c2]
          exact step_tell h e02
        · rw [if_neg c2, if_neg c2]
          by_cases c3 : p1 = 3
          · rw [if_pos c3, if_pos c3]
            exact step_tell h e03
          · rw [if_neg c3, if_neg c3]
            rw [keqI] at c0 c1 c2 c3
            rw [n0] at c0
            rw [n1] at c1
            rw [n2] at c2
            rw [n3] at c3
            unfold xX2_told_bad
            rw [if_neg (show ¬ fX2_isSide p0 = 0 by rw [a0]; decide)]
            by_cases d0 : p1 < 0
            · rw [if_pos d0]
              exact step_no h d30 rfl
            · rw [if_neg d0, if_neg (show ¬ p1 < 4 by rw [kltI, n0] at d0; rw [kltI, n4]; omega)]
              exact step_no h d30 rfl
  · rw [if_neg a0, if_neg a0]
    by_cases a1 : p0 = 1
    · rw [if_pos a1, if_pos a1]
      by_cases c0 : p1 = 0
      · rw [if_pos c0, if_pos c0]
        exact step_tell h e10
      · rw [if_neg c0, if_neg c0]
        by_cases c1 : p1 = 1
        · rw [if_pos c1, if_pos c1]
          exact step_tell h e11
        · rw [if_neg c1, if_neg c1]
          by_cases c2 : p1 = 2
          · rw [if_pos c2, if_pos c2]
            exact step_tell h e12
          · rw [if_neg c2, if_neg c2]
            by_cases c3 : p1 = 3
            · rw [if_pos c3, if_pos c3]
              exact step_tell h e13
            · rw [if_neg c3, if_neg c3]
              rw [keqI] at c0 c1 c2 c3
              rw [n0] at c0
              rw [n1] at c1
              rw [n2] at c2
              rw [n3] at c3
              unfold xX2_told_bad
              rw [if_neg (show ¬ fX2_isSide p0 = 0 by rw [a1]; decide)]
              by_cases d0 : p1 < 0
              · rw [if_pos d0]
                exact step_no h d30 rfl
              · rw [if_neg d0, if_neg (show ¬ p1 < 4 by rw [kltI, n0] at d0; rw [kltI, n4]; omega)]
                exact step_no h d30 rfl
    · rw [if_neg a1, if_neg a1]
      unfold xX2_told_bad
      rw [if_pos (show fX2_isSide p0 = 0 by unfold fX2_isSide; rw [if_neg a0, if_neg a1])]
      exact step_no h d30 rfl
