/-! a ball struck anew -/
theorem hei_eq (h : Int32) : (if h < 1 then (1 : Int32) else h) = (if 1 < h then h else 1) := by
  by_cases a : h < 1
  · rw [if_pos a, if_neg (by rw [kltI, n1] at *; omega)]
  · rw [if_neg a]
    by_cases b : 1 < h
    · rw [if_pos b]
    · rw [if_neg b, keqI, n1]
      rw [kltI, n1] at a b
      omega
theorem hei_b {i : Nat} {h : Int32} (hh : h.toInt ≤ 8000 + 45 * (i + 1 : Int)) : 1 ≤ (if h < 1 then (1 : Int32) else h).toInt ∧ (if h < 1 then (1 : Int32) else h).toInt ≤ 8000 + 45 * ((i + 1 : Nat) : Int) := by
  by_cases a : h < 1
  · rw [if_pos a, n1]
    omega
  · rw [if_neg a]
    rw [kltI, n1] at a
    omega
/-- a struck ball is good, wherever it comes from -/
theorem launch_good {i : Nat} {co ro hh q0 q1 q2 : Int32} (a1 : 0 ≤ co.toInt) (a2 : co.toInt ≤ 11) (a3 : 0 ≤ ro.toInt) (a4 : ro.toInt ≤ 29) (a5 : hh.toInt ≤ 8000 + 45 * (i + 1 : Int)) (hq : ¬ fX3_isStroke q0 q1 q2 = 0) :
    Good (i + 1) (co, ro, (if hh < 1 then 1 else hh), q0, q1, q2, 0, 0, 0, 0, 0) := by
  obtain ⟨s1, s2, s3, s4, s5, s6⟩ := stroke_b hq
  obtain ⟨b1, b2⟩ := hei_b a5
  exact ⟨⟨a1, a2, a3, a4, s1, s2, s3, s4⟩, b1, b2, s5, s6, rfl⟩
theorem keep0 {i : Nat} (hi : i < 512) {p1 g1 r1 k1 p2 g2 r2 k2 sv sk go mw wr ws le wg tu is mo' co ro hh ac al ri fr bo to mo e q0 q1 q2 u1 u2 u3 u4 u5 u6 : Int32} {be ba bt : Ba} {st : M9} (h3 : sv = 0 ∨ sv = 1) (h4 : RelS p1 g1 p2 g2 1 go mw is)
    (a1 : 0 ≤ co.toInt) (a2 : co.toInt ≤ 11) (a3 : 0 ≤ ro.toInt) (a4 : ro.toInt ≤ 29) (a5 : hh.toInt ≤ 8000 + 45 * (i + 1 : Int)) (hq : ¬ fX3_isStroke q0 q1 q2 = 0)
    {j : Nat} (j1 : sk + 1 = nI j) (j2 : 1 ≤ j) (j3 : j ≤ i + 1) (j4 : (1 : Int32) = if j % 2 = 0 then sv else 1 - sv) :
    Rel (i + 1) (fX2_play 0 q0 q1 q2 ((p1, g1, r1, k1), (p2, g2, r2, k2), (co, ro, hh, ac, al, ri, fr, bo, to, mo, e), be, ba, bt, sv, 1, sk, go, mw, wr, ws, le, wg))
      (fX3_keepStroke_0 (fX3_hit q0 q1 q2 (st, (p1, p2), (g1, g2), (r1, r2), (k1, k2), (co, ro, hh, u1, u2, u3, u4, u5, u6), 0, sv, 1, tu, sk, wr, le, wg, go, is, ws, mo'))) := by
  have hG := launch_good (i := i) a1 a2 a3 a4 a5 hq
  rw [show fX2_play 0 q0 q1 q2 _ = _ from if_pos rfl]
  refine ⟨p1, g1, r1, k1 + 1, p2, g2, r2, k2, (co, ro, (if hh < 1 then 1 else hh), q0, q1, q2, 0, 0, 0, 0, 0), _, ba, bt, sv, 1, sk + 1, go, mw, wr, ws, le, wg, (co, ro, (if 1 < hh then hh else 1), q0, q1, q2, 0, 0, 0), (co, ro, (if 1 < hh then hh else 1), q0, q1, q2, 0, 0, 0), 0, 1, sk + 1, is, mo', rfl, rfl, h3, h4, Or.inr ⟨rfl, rfl, ⟨j, j1, j2, j3, j4⟩, hG, ?_, ?_⟩⟩
  · rw [← hei_eq]
  · exact (fly_all (by omega) hG.fl).1
theorem keep1 {i : Nat} (hi : i < 512) {p1 g1 r1 k1 p2 g2 r2 k2 sv sk go mw wr ws le wg tu is mo' co ro hh ac al ri fr bo to mo e q0 q1 q2 u1 u2 u3 u4 u5 u6 : Int32} {be ba bt : Ba} {st : M9} (h3 : sv = 0 ∨ sv = 1) (h4 : RelS p1 g1 p2 g2 1 go mw is)
    (a1 : 0 ≤ co.toInt) (a2 : co.toInt ≤ 11) (a3 : 0 ≤ ro.toInt) (a4 : ro.toInt ≤ 29) (a5 : hh.toInt ≤ 8000 + 45 * (i + 1 : Int)) (hq : ¬ fX3_isStroke q0 q1 q2 = 0)
    {j : Nat} (j1 : sk + 1 = nI j) (j2 : 1 ≤ j) (j3 : j ≤ i + 1) (j4 : (0 : Int32) = if j % 2 = 0 then sv else 1 - sv) :
    Rel (i + 1) (fX2_play 1 q0 q1 q2 ((p1, g1, r1, k1), (p2, g2, r2, k2), (co, ro, hh, ac, al, ri, fr, bo, to, mo, e), be, ba, bt, sv, 1, sk, go, mw, wr, ws, le, wg))
      (fX3_keepStroke_1 (fX3_hit q0 q1 q2 (st, (p1, p2), (g1, g2), (r1, r2), (k1, k2), (co, ro, hh, u1, u2, u3, u4, u5, u6), 0, sv, 1, tu, sk, wr, le, wg, go, is, ws, mo'))) := by
  have hG := launch_good (i := i) a1 a2 a3 a4 a5 hq
  rw [show fX2_play 1 q0 q1 q2 _ = _ from if_neg d10]
  refine ⟨p1, g1, r1, k1, p2, g2, r2, k2 + 1, (co, ro, (if hh < 1 then 1 else hh), q0, q1, q2, 0, 0, 0, 0, 0), _, ba, bt, sv, 1, sk + 1, go, mw, wr, ws, le, wg, (co, ro, (if 1 < hh then hh else 1), q0, q1, q2, 0, 0, 0), (co, ro, (if 1 < hh then hh else 1), q0, q1, q2, 0, 0, 0), 0, 0, sk + 1, is, mo', rfl, rfl, h3, h4, Or.inr ⟨rfl, rfl, ⟨j, j1, j2, j3, j4⟩, hG, ?_, ?_⟩⟩
  · rw [← hei_eq]
  · exact (fly_all (by omega) hG.fl).1
theorem n14 : ((14 : Int32)).toInt = 14 := by decide
theorem pr_serve {i : Nat} {X : Co} {Y : Mo} (p0 p1 p2 : Int32) (hi : i < 512) (h : Rel i X Y) : NX3_serve p0 p1 p2 Y ∧ kStep i X (xX2_serve p0 p1 p2 X) 1 2 9 (fX3_serve p0 p1 p2 Y) := by
  have h0 := h
  obtain ⟨p1', g1, r1, k1, p2', g2, r2, k2, bs, be, ba, bt, sv, ra, sk, go, mw, wr, ws, le, wg, st, bl, th, tu, sk', is, mo, h1, h2, h3, h4, h5⟩ := h
  subst h1 h2
  refine ⟨fun _ _ _ hn => one_of h3 hn, ?_⟩
  unfold xX2_serve
  rw [stroke_eq]
  by_cases hq : fX3_isStroke p0 p1 p2 = 0
  · rw [if_pos hq, show fX3_serve p0 p1 p2 _ = _ from if_pos hq]
    exact step_no h0 d10 rfl
  · rw [if_neg hq]
    by_cases hr : ra = 0
    · subst hr
      rw [if_pos rfl]
      have hw := winner_br h4
      by_cases hm : mw = -1
      · have e1 : fX2_isMatchOver ((p1', g1, r1, k1), (p2', g2, r2, k2), bs, be, ba, bt, sv, 0, sk, go, mw, wr, ws, le, wg) = 0 := if_pos hm
        have e2 : fX3_winner (st, (p1', p2'), (g1, g2), (r1, r2), (k1, k2), bl, 0, sv, 0, tu, sk', wr, le, wg, go, is, ws, mo) = -1 := hw.trans hm
        have hk : sk = 0 := by
          rcases h5 with ⟨_, hb⟩ | ⟨ha, _⟩
          · exact hb
          · exact absurd ha.symm d10
        subst hk
        have h4' : RelS p1' g1 p2' g2 1 go mw is := by
          obtain ⟨s1, s2, s3, s4, s5, s6⟩ := h4
          refine ⟨s1, s2, s3, s4, s5, ?_⟩
          rcases s6 with s6 | ⟨hz, _⟩ | ⟨hz, _⟩
          · exact Or.inl s6
          · rw [hm] at hz; exact absurd hz (by decide)
          · rw [hm] at hz; exact absurd hz (by decide)
        rw [if_pos e1]
        rcases h3 with rfl | rfl
        · have K : Rel (i + 1) (fX2_play 0 p0 p1 p2 ((p1', g1, r1, k1), (p2', g2, r2, k2), (6, 14, 3, bs.2.2.2), be, ba, bt, 0, 1, 0, go, mw, wr, ws, le, wg)) (fX3_keepStroke_0 (fX3_hit p0 p1 p2 (st, (p1', p2'), (g1, g2), (r1, r2), (k1, k2), (6, 14, 3, bl.2.2.2), 0, 0, 1, tu, 0, wr, le, wg, go, is, ws, mo))) :=
            keep0 hi (Or.inl rfl) h4' (by decide) (by decide) (by decide) (by decide) (by rw [n3]; omega) hq (j := 1) rfl (by omega) (by omega) (by decide)
          rw [show fX3_serve p0 p1 p2 _ = _ from (if_neg hq).trans ((if_pos rfl).trans ((if_pos e2).trans (if_pos rfl)))]
          exact step_ok rfl rfl K
        · have K : Rel (i + 1) (fX2_play 1 p0 p1 p2 ((p1', g1, r1, k1), (p2', g2, r2, k2), (6, 14, 3, bs.2.2.2), be, ba, bt, 1, 1, 0, go, mw, wr, ws, le, wg)) (fX3_keepStroke_1 (fX3_hit p0 p1 p2 (st, (p1', p2'), (g1, g2), (r1, r2), (k1, k2), (6, 14, 3, bl.2.2.2), 0, 1, 1, tu, 0, wr, le, wg, go, is, ws, mo))) :=
            keep1 hi (Or.inr rfl) h4' (by decide) (by decide) (by decide) (by decide) (by rw [n3]; omega) hq (j := 1) rfl (by omega) (by omega) (by decide)
          rw [show fX3_serve p0 p1 p2 _ = _ from (if_neg hq).trans ((if_pos rfl).trans ((if_pos e2).trans (if_neg d10)))]
          exact step_ok rfl rfl K
      · have e0 : fX2_isMatchOver ((p1', g1, r1, k1), (p2', g2, r2, k2), bs, be, ba, bt, sv, 0, sk, go, mw, wr, ws, le, wg) = 1 := if_neg hm
        have e1 : ¬ fX2_isMatchOver ((p1', g1, r1, k1), (p2', g2, r2, k2), bs, be, ba, bt, sv, 0, sk, go, mw, wr, ws, le, wg) = 0 := by rw [e0]; exact d10
        have e2 : ¬ fX3_winner (st, (p1', p2'), (g1, g2), (r1, r2), (k1, k2), bl, 0, sv, 0, tu, sk', wr, le, wg, go, is, ws, mo) = -1 := fun a => hm (hw.symm.trans a)
        rw [if_neg e1, show fX3_serve p0 p1 p2 _ = _ from (if_neg hq).trans ((if_pos rfl).trans (if_neg e2))]
        exact step_no h0 d20 rfl
    · rw [if_neg hr, show fX3_serve p0 p1 p2 _ = _ from (if_neg hq).trans (if_neg hr)]
      exact step_no h0 d20 rfl
