/-! calls that play, both sides -/
theorem d10 : ¬ (1 : Int32) = 0 := by decide
theorem d20 : ¬ (2 : Int32) = 0 := by decide
theorem d30 : ¬ (3 : Int32) = 0 := by decide
theorem way_br (p : Int32) : (fX2_isWay p = 0 ∧ (p.toInt < -2 ∨ 2 < p.toInt)) ∨ (fX2_isWay p = 1 ∧ -2 ≤ p.toInt ∧ p.toInt ≤ 2) := by
  unfold fX2_isWay
  by_cases h : p < (-2)
  · rw [if_pos h]
    rw [kltI, nm2] at h
    exact Or.inl ⟨rfl, Or.inl h⟩
  · rw [if_neg h]
    rw [kltI, nm2] at h
    by_cases h2 : 2 < p
    · rw [if_pos h2]
      rw [kltI, n2] at h2
      exact Or.inl ⟨rfl, Or.inr h2⟩
    · rw [if_neg h2]
      rw [kltI, n2] at h2
      exact Or.inr ⟨rfl, by omega, by omega⟩
/-- a stroke -/
def Stk (p0 p1 p2 : Int32) : Prop := -2 ≤ p0.toInt ∧ p0.toInt ≤ 2 ∧ -2 ≤ p1.toInt ∧ p1.toInt ≤ 2 ∧ 0 ≤ p2.toInt ∧ p2.toInt ≤ 9
theorem stroke_1 {p0 p1 p2 : Int32} (h : Stk p0 p1 p2) : ¬ fX2_isStroke p0 p1 p2 = 0 := by
  obtain ⟨a1, a2, b1, b2, c1, c2⟩ := h
  unfold fX2_isStroke
  rcases way_br p0 with ⟨_, e⟩ | ⟨e, _⟩
  · omega
  · rw [if_neg (by rw [e]; exact d10)]
    rcases way_br p1 with ⟨_, e⟩ | ⟨e, _⟩
    · omega
    · rw [if_neg (by rw [e]; exact d10), if_neg (by rw [kltI, n0]; omega), if_neg (by rw [kltI, n9]; omega)]
      exact d10

theorem par {j : Nat} (h : j < 600) : nI j - nI j / 2 * 2 = 0 ↔ j % 2 = 0 := by
  have h2 : ∀ j : Fin 600, (nI j.val - nI j.val / 2 * 2 = 0 ↔ j.val % 2 = 0) := by decide +kernel
  exact h2 ⟨j, h⟩
/-- whose turn it is -/
theorem turn_br {X : Co} {sv tu : Int32} {j : Nat} (hj : j < 600) (h1 : X.2.2.2.2.2.2.1 = sv) (h2 : X.2.2.2.2.2.2.2.2.1 = nI j) (h3 : tu = if j % 2 = 0 then sv else 1 - sv) : fX2_sideToStrike X = tu := by
  unfold fX2_sideToStrike fX2_otherSide
  rw [h1, h2, h3]
  by_cases h : j % 2 = 0
  · rw [if_pos h, if_pos ((par hj).mpr h)]
  · rw [if_neg h, if_neg (fun h2 => h ((par hj).mp h2))]

theorem turn_01 {sv tu : Int32} {j : Nat} (h : sv = 0 ∨ sv = 1) (h3 : tu = if j % 2 = 0 then sv else 1 - sv) : tu = 0 ∨ tu = 1 := by
  rw [h3]
  rcases h with rfl | rfl <;> by_cases h : j % 2 = 0
  · rw [if_pos h]; decide
  · rw [if_neg h]; decide
  · rw [if_pos h]; decide
  · rw [if_neg h]; decide
theorem turn_next {sv tu : Int32} {j : Nat} (h : sv = 0 ∨ sv = 1) (h3 : tu = if j % 2 = 0 then sv else 1 - sv) : 1 - tu = if (j + 1) % 2 = 0 then sv else 1 - sv := by
  rw [h3]
  by_cases hj : j % 2 = 0
  · rw [if_pos hj, if_neg (by omega)]
  · rw [if_neg hj, if_pos (by omega)]
    rcases h with rfl | rfl <;> decide

theorem hei_eq (h : Int32) : (if h < 1 then (1 : Int32) else h) = (if 1 ≤ h then h else 1) := by
  by_cases a : h < 1
  · rw [if_pos a, if_neg (by rw [kltI, n1] at a; rw [kleI, n1]; omega)]
  · rw [if_neg a, if_pos (by rw [kltI, n1] at a; rw [kleI, n1]; omega)]
theorem of_eq (co ro h q0 q1 q2 : Int32) : fX3_of co ro h q0 q1 q2 = c10 (co, ro, (if h < 1 then 1 else h), q0, q1, q2, 0, 0, 0, 0, 0) := by
  rw [hei_eq]
  unfold fX3_of
  by_cases c : 1 ≤ h
  · rw [if_pos c, if_pos c]
  · rw [if_neg c, if_neg c]

theorem hei_b {i : Nat} {h : Int32} (hh : h.toInt ≤ 8000 + 45 * (i + 1 : Int)) : 1 ≤ (if h < 1 then (1 : Int32) else h).toInt ∧ (if h < 1 then (1 : Int32) else h).toInt ≤ 8000 + 45 * ((i + 1 : Nat) : Int) := by
  by_cases a : h < 1
  · rw [if_pos a, n1]
    omega
  · rw [if_neg a]
    rw [kltI, n1] at a
    omega

/-- a struck ball is good, wherever it comes from -/
theorem launch_good {i : Nat} {co ro hh q0 q1 q2 : Int32} (a1 : 0 ≤ co.toInt) (a2 : co.toInt ≤ 11) (a3 : 0 ≤ ro.toInt) (a4 : ro.toInt ≤ 29) (a5 : hh.toInt ≤ 8000 + 45 * (i + 1 : Int)) (hq : Stk q0 q1 q2) :
    Good (i + 1) (co, ro, (if hh < 1 then 1 else hh), q0, q1, q2, 0, 0, 0, 0, 0) := by
  obtain ⟨s1, s2, s3, s4, s5, s6⟩ := hq
  obtain ⟨b1, b2⟩ := hei_b a5
  exact ⟨⟨a1, a2, a3, a4, s1, s2, s3, s4⟩, b1, b2, s5, s6, rfl⟩
/-- what a call makes of counts that the law keeps -/
def Tr (X X' : Co) : Prop :=
  (X'.2.2.2.2.2.2.2.2.2.2.2.1 = X.2.2.2.2.2.2.2.2.2.2.2.1 ∨ X'.2.2.2.2.2.2.2.2.2.2.2.1 = X.2.2.2.2.2.2.2.2.2.2.2.1 + 1) ∧
  (¬ X.2.2.2.2.2.2.2.1 = 0 → (X'.1.2.2.2 + X'.2.1.2.2.2 = X.1.2.2.2 + X.2.1.2.2.2) ∨ (X'.2.2.2.2.2.2.2.1 = 1 ∧ X'.2.2.2.2.2.2.2.2.1 = X.2.2.2.2.2.2.2.2.1 + 1 ∧ fX2_sideToStrike X' = 1 - fX2_sideToStrike X))
theorem RelS.on {p1 g1 p2 g2 go mw is : Int32} (h : RelS p1 g1 p2 g2 0 go mw is) (hm : mw = -1) : RelS p1 g1 p2 g2 1 go mw is := by
  obtain ⟨s1, s2, s3, s4, s5, s6⟩ := h
  refine ⟨s1, s2, s3, s4, s5, ?_⟩
  rcases s6 with s6 | ⟨hz, _⟩ | ⟨hz, _⟩
  · exact Or.inl s6
  · rw [hm] at hz; exact absurd hz (by decide)
  · rw [hm] at hz; exact absurd hz (by decide)
theorem RelS.off {p1 g1 p2 g2 go mw is : Int32} (h : RelS p1 g1 p2 g2 1 go mw is) : RelS p1 g1 p2 g2 0 go mw is := by
  obtain ⟨s1, s2, s3, s4, s5, s6⟩ := h
  refine ⟨s1, s2, s3, s4, s5, ?_⟩
  rcases s6 with s6 | ⟨_, _, _, _, _, _, hz, _⟩ | ⟨_, _, _, _, _, _, hz, _⟩
  · exact Or.inl s6
  · exact absurd hz d10
  · exact absurd hz d10
theorem RelC.mono {i : Nat} {g1 r1 g2 r2 sk wr ws wg : Int32} (h : RelC i g1 r1 g2 r2 sk wr ws wg) : RelC (i + 1) g1 r1 g2 r2 sk wr ws wg := by
  obtain ⟨h1, h2, h3, h4, h5, h6, h7, h8, h9⟩ := h
  exact ⟨h1, h2, h3, by omega, h5, by omega, h7, h8, by omega⟩
/-- a stroke counted -/
theorem RelC.stroke {i : Nat} (hi : i < 512) {g1 r1 g2 r2 sk wr ws wg : Int32} (h : RelC i g1 r1 g2 r2 sk wr ws wg) : RelC (i + 1) g1 r1 g2 r2 (sk + 1) wr ws wg := by
  obtain ⟨h1, h2, h3, h4, h5, h6, h7, h8, h9⟩ := h
  have e : (sk + 1).toInt = sk.toInt + 1 := kincI (m := 1000) (by omega) (by omega)
  exact ⟨h1, h2, h3, by omega, h5, by omega, h7, by omega, by omega⟩
/-- a rally that counts for nobody -/
theorem RelC.let {i : Nat} {g1 r1 g2 r2 sk wr ws wg : Int32} (h : RelC i g1 r1 g2 r2 sk wr ws wg) : RelC (i + 1) g1 r1 g2 r2 0 wr ws wg := by
  obtain ⟨h1, h2, h3, h4, h5, h6, h7, h8, h9⟩ := h
  exact ⟨h1, h2, h3, by omega, h5, by omega, h7, by decide, by rw [n0]; omega⟩

theorem keep0 {i : Nat} (hi : i < 512) {p1 g1 r1 k1 p2 g2 r2 k2 sv sk go mw wr ws le wg is co ro hh ac al ri fr bo to mo e q0 q1 q2 : Int32} {be ba bt : Ba} (h3 : sv = 0 ∨ sv = 1) (h4 : RelS p1 g1 p2 g2 1 go mw is) (h6 : RelC i g1 r1 g2 r2 sk wr ws wg)
    (a1 : 0 ≤ co.toInt) (a2 : co.toInt ≤ 11) (a3 : 0 ≤ ro.toInt) (a4 : ro.toInt ≤ 29) (aN : fX0_isButtress co ro = 0) (a5 : hh.toInt ≤ 8000 + 45 * (i + 1 : Int)) (hq : Stk q0 q1 q2)
    {j : Nat} (j1 : sk + 1 = nI j) (j2 : 1 ≤ j) (j3 : j ≤ i + 1) (j4 : (1 : Int32) = if j % 2 = 0 then sv else 1 - sv) :
    ∃ X' : Co, fX2_play 0 q0 q1 q2 ((p1, g1, r1, k1), (p2, g2, r2, k2), (co, ro, hh, ac, al, ri, fr, bo, to, mo, e), be, ba, bt, sv, 1, sk, go, mw, wr, ws, le, wg) = X' ∧
      X'.1 = (p1, g1, r1, k1 + 1) ∧ X'.2.1 = (p2, g2, r2, k2) ∧ X'.2.2.2.2.2.2 = (sv, 1, sk + 1, go, mw, wr, ws, le, wg) ∧
      Rel (i + 1) X' ((p1, g1, r1, k1 + 1), (p2, g2, r2, k2), sv, 1, sk + 1, wr, le, wg, go, is, ws) (some (fX3_of co ro hh q0 q1 q2)) := by
  have hG := launch_good (i := i) a1 a2 a3 a4 a5 hq
  rw [show fX2_play 0 q0 q1 q2 _ = _ from if_pos rfl]
  refine ⟨_, rfl, rfl, rfl, rfl, ?_⟩
  refine ⟨p1, g1, r1, k1 + 1, p2, g2, r2, k2, (co, ro, (if hh < 1 then 1 else hh), q0, q1, q2, 0, 0, 0, 0, 0), _, ba, bt, sv, 1, sk + 1, go, mw, wr, ws, le, wg, 1, sk + 1, is, rfl, rfl, h3, h4, Or.inr ⟨rfl, rfl, ⟨j, j1, j2, j3, j4⟩, hG, aN, ?_, ?_⟩, h6.stroke hi⟩
  · exact (fly_all (by omega) ⟨hG.fl, aN⟩).1
  · rw [of_eq]

theorem keep1 {i : Nat} (hi : i < 512) {p1 g1 r1 k1 p2 g2 r2 k2 sv sk go mw wr ws le wg is co ro hh ac al ri fr bo to mo e q0 q1 q2 : Int32} {be ba bt : Ba} (h3 : sv = 0 ∨ sv = 1) (h4 : RelS p1 g1 p2 g2 1 go mw is) (h6 : RelC i g1 r1 g2 r2 sk wr ws wg)
    (a1 : 0 ≤ co.toInt) (a2 : co.toInt ≤ 11) (a3 : 0 ≤ ro.toInt) (a4 : ro.toInt ≤ 29) (aN : fX0_isButtress co ro = 0) (a5 : hh.toInt ≤ 8000 + 45 * (i + 1 : Int)) (hq : Stk q0 q1 q2)
    {j : Nat} (j1 : sk + 1 = nI j) (j2 : 1 ≤ j) (j3 : j ≤ i + 1) (j4 : (0 : Int32) = if j % 2 = 0 then sv else 1 - sv) :
    ∃ X' : Co, fX2_play 1 q0 q1 q2 ((p1, g1, r1, k1), (p2, g2, r2, k2), (co, ro, hh, ac, al, ri, fr, bo, to, mo, e), be, ba, bt, sv, 1, sk, go, mw, wr, ws, le, wg) = X' ∧
      X'.1 = (p1, g1, r1, k1) ∧ X'.2.1 = (p2, g2, r2, k2 + 1) ∧ X'.2.2.2.2.2.2 = (sv, 1, sk + 1, go, mw, wr, ws, le, wg) ∧
      Rel (i + 1) X' ((p1, g1, r1, k1), (p2, g2, r2, k2 + 1), sv, 0, sk + 1, wr, le, wg, go, is, ws) (some (fX3_of co ro hh q0 q1 q2)) := by
  have hG := launch_good (i := i) a1 a2 a3 a4 a5 hq
  rw [show fX2_play 1 q0 q1 q2 _ = _ from if_neg d10]
  refine ⟨_, rfl, rfl, rfl, rfl, ?_⟩
  refine ⟨p1, g1, r1, k1, p2, g2, r2, k2 + 1, (co, ro, (if hh < 1 then 1 else hh), q0, q1, q2, 0, 0, 0, 0, 0), _, ba, bt, sv, 1, sk + 1, go, mw, wr, ws, le, wg, 0, sk + 1, is, rfl, rfl, h3, h4, Or.inr ⟨rfl, rfl, ⟨j, j1, j2, j3, j4⟩, hG, aN, ?_, ?_⟩, h6.stroke hi⟩
  · exact (fly_all (by omega) ⟨hG.fl, aN⟩).1
  · rw [of_eq]

theorem win0 {i : Nat} (hi : i < 512) {p1 g1 r1 k1 p2 g2 r2 k2 sv sk go mw wr ws le wg tu is : Int32} {bs be ba bt : Ba} (h3 : sv = 0 ∨ sv = 1) (h4 : RelS p1 g1 p2 g2 1 go mw is) (h6 : RelC i g1 r1 g2 r2 sk wr ws wg) :
    ∃ (X' : Co) (Z' : Zs), fX2_winRally 0 ((p1, g1, r1, k1), (p2, g2, r2, k2), bs, be, ba, bt, sv, 1, sk, go, mw, wr, ws, le, wg) = (2 + 0, X') ∧ fX4_over_0 ((p1, g1, r1, k1), (p2, g2, r2, k2), sv, tu, sk, wr, le, wg, go, is, ws) = (2 + 0, Z') ∧ Rel (i + 1) X' Z' none ∧ Tr ((p1, g1, r1, k1), (p2, g2, r2, k2), bs, be, ba, bt, sv, 1, sk, go, mw, wr, ws, le, wg) X' := by
  obtain ⟨s1, s2, s3, s4, s5, s6⟩ := h4
  obtain ⟨rfl, m1, m2, m3, m4⟩ : mw = -1 ∧ 0 ≤ g1.toInt ∧ g1.toInt ≤ 2 ∧ 0 ≤ g2.toInt ∧ g2.toInt ≤ 2 := by
    rcases s6 with s6 | ⟨_, _, _, _, _, _, hz, _⟩ | ⟨_, _, _, _, _, _, hz, _⟩
    · exact s6
    · exact absurd hz d10
    · exact absurd hz d10
  obtain ⟨q1, q2, q3, q4, q5, q6, q7, q8, q9⟩ := h6
  have hgo : go.toInt ≤ 16 := by
    rcases s1 with ⟨_, b⟩ | ⟨_, b | b | b | b⟩ <;> rw [b] <;> decide
  have ep : (p1 + 1).toInt = p1.toInt + 1 := kincI (m := 100) (by omega) (by omega)
  have eg : (g1 + 1).toInt = g1.toInt + 1 := kincI (m := 100) (by omega) (by omega)
  have er : (r1 + 1).toInt = r1.toInt + 1 := kincI (m := 1000) (by omega) (by omega)
  have ew : (wr + 1).toInt = wr.toInt + 1 := kincI (m := 1000) (by omega) (by omega)
  have ex : (wg + 1).toInt = wg.toInt + 1 := kincI (m := 1000) (by omega) (by omega)
  have es : (ws + sk).toInt = ws.toInt + sk.toInt := kadd (by omega) (by omega)
  have hs : sv = 0 ∨ sv = 1 := h3
  rcases hs with rfl | rfl
  · have a : fX2_winRally 0 ((p1, g1, r1, k1), (p2, g2, r2, k2), bs, be, ba, bt, 0, 1, sk, go, -1, wr, ws, le, wg) = (2 + 0, fX2_winPoint ((p1, g1, r1 + 1, k1), (p2, g2, r2, k2), bs, be, ba, bt, 0, 0, 0, go, -1, wr + 1, ws + sk, le, wg)) := (if_pos rfl).trans (if_pos rfl)
    by_cases c : p1 + 1 < go
    · have b : fX2_winPoint ((p1, g1, r1 + 1, k1), (p2, g2, r2, k2), bs, be, ba, bt, 0, 0, 0, go, -1, wr + 1, ws + sk, le, wg) = ((p1 + 1, g1, r1 + 1, k1), (p2, g2, r2, k2), bs, be, ba, bt, 0, 0, 0, go, -1, wr + 1, ws + sk, le, wg) := (if_pos rfl).trans (if_pos c)
      have y : fX4_over_0 ((p1, g1, r1, k1), (p2, g2, r2, k2), 0, tu, sk, wr, le, wg, go, is, ws) = (2 + 0, ((p1 + 1, g1, r1 + 1, k1), (p2, g2, r2, k2), 0, -1, sk, wr + 1, le, wg, go, is, ws + sk)) := (if_pos rfl).trans (if_pos c)
      rw [a, b, y]
      exact ⟨_, _, rfl, rfl, ⟨p1 + 1, g1, r1 + 1, k1, p2, g2, r2, k2, bs, be, ba, bt, 0, 0, 0, go, -1, wr + 1, ws + sk, le, wg, -1, sk, is, rfl, rfl, Or.inl rfl, ⟨s1, by rw [ep]; omega, kltI.mp c, s4, s5, Or.inl ⟨rfl, m1, m2, m3, m4⟩⟩, Or.inl ⟨rfl, rfl, rfl, rfl⟩, ⟨by omega, by omega, by omega, by omega, by omega, by omega, by omega, by decide, by rw [n0]; omega⟩⟩, ⟨Or.inr rfl, fun _ => Or.inl rfl⟩⟩
    · have b : fX2_winPoint ((p1, g1, r1 + 1, k1), (p2, g2, r2, k2), bs, be, ba, bt, 0, 0, 0, go, -1, wr + 1, ws + sk, le, wg) = fX2_winGame_1 ((p1 + 1, g1, r1 + 1, k1), (p2, g2, r2, k2), bs, be, ba, bt, 0, 0, 0, go, -1, wr + 1, ws + sk, le, wg) := (if_pos rfl).trans (if_neg c)
      have y : fX4_over_0 ((p1, g1, r1, k1), (p2, g2, r2, k2), 0, tu, sk, wr, le, wg, go, is, ws) = (2 + 0, ((0, g1 + 1, r1 + 1, k1), (0, g2, r2, k2), 0, -1, sk, wr + 1, le, wg + 1, 12, 0, ws + sk)) := (if_pos rfl).trans (if_neg c)
      by_cases c2 : g1 + 1 < 3
      · have d : fX2_winGame_1 ((p1 + 1, g1, r1 + 1, k1), (p2, g2, r2, k2), bs, be, ba, bt, 0, 0, 0, go, -1, wr + 1, ws + sk, le, wg) = ((0, g1 + 1, r1 + 1, k1), (0, g2, r2, k2), bs, be, ba, bt, 0, 0, 0, 12, -1, wr + 1, ws + sk, le, wg + 1) := if_pos c2
        rw [a, b, d, y]
        exact ⟨_, _, rfl, rfl, ⟨0, g1 + 1, r1 + 1, k1, 0, g2, r2, k2, bs, be, ba, bt, 0, 0, 0, 12, -1, wr + 1, ws + sk, le, wg + 1, -1, sk, 0, rfl, rfl, Or.inl rfl, ⟨Or.inl ⟨rfl, rfl⟩, by decide, by decide, by decide, by decide, Or.inl ⟨rfl, by rw [eg]; omega, by rw [eg]; rw [kltI, n3, eg] at c2; omega, m3, m4⟩⟩, Or.inl ⟨rfl, rfl, rfl, rfl⟩, ⟨by omega, by omega, by omega, by omega, by omega, by omega, by omega, by decide, by rw [n0]; omega⟩⟩, ⟨Or.inr rfl, fun _ => Or.inl rfl⟩⟩
      · have d : fX2_winGame_1 ((p1 + 1, g1, r1 + 1, k1), (p2, g2, r2, k2), bs, be, ba, bt, 0, 0, 0, go, -1, wr + 1, ws + sk, le, wg) = ((0, g1 + 1, r1 + 1, k1), (0, g2, r2, k2), bs, be, ba, bt, 0, 0, 0, 12, 0, wr + 1, ws + sk, le, wg + 1) := if_neg c2
        have e3 : g1 + 1 = 3 := by
          rw [kltI, n3] at c2
          rw [keqI, n3]
          omega
        rw [a, b, d, y]
        exact ⟨_, _, rfl, rfl, ⟨0, g1 + 1, r1 + 1, k1, 0, g2, r2, k2, bs, be, ba, bt, 0, 0, 0, 12, 0, wr + 1, ws + sk, le, wg + 1, -1, sk, 0, rfl, rfl, Or.inl rfl, ⟨Or.inl ⟨rfl, rfl⟩, by decide, by decide, by decide, by decide, Or.inr (Or.inl ⟨rfl, e3, m3, m4, rfl, rfl, rfl, rfl⟩)⟩, Or.inl ⟨rfl, rfl, rfl, rfl⟩, ⟨by omega, by omega, by omega, by omega, by omega, by omega, by omega, by decide, by rw [n0]; omega⟩⟩, ⟨Or.inr rfl, fun _ => Or.inl rfl⟩⟩
  · have a : fX2_winRally 0 ((p1, g1, r1, k1), (p2, g2, r2, k2), bs, be, ba, bt, 1, 1, sk, go, -1, wr, ws, le, wg) = (2 + 0, ((p1, g1, r1 + 1, k1), (p2, g2, r2, k2), bs, be, ba, bt, 0, 0, 0, go, -1, wr + 1, ws + sk, le, wg)) := (if_pos rfl).trans (if_neg (by decide : ¬ (0 : Int32) = 1))
    have y : fX4_over_0 ((p1, g1, r1, k1), (p2, g2, r2, k2), 1, tu, sk, wr, le, wg, go, is, ws) = (2 + 0, ((p1, g1, r1 + 1, k1), (p2, g2, r2, k2), 0, -1, sk, wr + 1, le, wg, go, is, ws + sk)) := (if_neg (by decide : ¬ (1 : Int32) = 0)).trans (if_pos (kltI.mpr s3))
    rw [a, y]
    exact ⟨_, _, rfl, rfl, ⟨p1, g1, r1 + 1, k1, p2, g2, r2, k2, bs, be, ba, bt, 0, 0, 0, go, -1, wr + 1, ws + sk, le, wg, -1, sk, is, rfl, rfl, Or.inl rfl, ⟨s1, s2, s3, s4, s5, Or.inl ⟨rfl, m1, m2, m3, m4⟩⟩, Or.inl ⟨rfl, rfl, rfl, rfl⟩, ⟨by omega, by omega, by omega, by omega, by omega, by omega, by omega, by decide, by rw [n0]; omega⟩⟩, ⟨Or.inr rfl, fun _ => Or.inl rfl⟩⟩

theorem win1 {i : Nat} (hi : i < 512) {p1 g1 r1 k1 p2 g2 r2 k2 sv sk go mw wr ws le wg tu is : Int32} {bs be ba bt : Ba} (h3 : sv = 0 ∨ sv = 1) (h4 : RelS p1 g1 p2 g2 1 go mw is) (h6 : RelC i g1 r1 g2 r2 sk wr ws wg) :
    ∃ (X' : Co) (Z' : Zs), fX2_winRally 1 ((p1, g1, r1, k1), (p2, g2, r2, k2), bs, be, ba, bt, sv, 1, sk, go, mw, wr, ws, le, wg) = (2 + 1, X') ∧ fX4_over_1 ((p1, g1, r1, k1), (p2, g2, r2, k2), sv, tu, sk, wr, le, wg, go, is, ws) = (2 + 1, Z') ∧ Rel (i + 1) X' Z' none ∧ Tr ((p1, g1, r1, k1), (p2, g2, r2, k2), bs, be, ba, bt, sv, 1, sk, go, mw, wr, ws, le, wg) X' := by
  obtain ⟨s1, s2, s3, s4, s5, s6⟩ := h4
  obtain ⟨rfl, m1, m2, m3, m4⟩ : mw = -1 ∧ 0 ≤ g1.toInt ∧ g1.toInt ≤ 2 ∧ 0 ≤ g2.toInt ∧ g2.toInt ≤ 2 := by
    rcases s6 with s6 | ⟨_, _, _, _, _, _, hz, _⟩ | ⟨_, _, _, _, _, _, hz, _⟩
    · exact s6
    · exact absurd hz d10
    · exact absurd hz d10
  obtain ⟨q1, q2, q3, q4, q5, q6, q7, q8, q9⟩ := h6
  have hgo : go.toInt ≤ 16 := by
    rcases s1 with ⟨_, b⟩ | ⟨_, b | b | b | b⟩ <;> rw [b] <;> decide
  have ep : (p2 + 1).toInt = p2.toInt + 1 := kincI (m := 100) (by omega) (by omega)
  have eg : (g2 + 1).toInt = g2.toInt + 1 := kincI (m := 100) (by omega) (by omega)
  have er : (r2 + 1).toInt = r2.toInt + 1 := kincI (m := 1000) (by omega) (by omega)
  have ew : (wr + 1).toInt = wr.toInt + 1 := kincI (m := 1000) (by omega) (by omega)
  have ex : (wg + 1).toInt = wg.toInt + 1 := kincI (m := 1000) (by omega) (by omega)
  have es : (ws + sk).toInt = ws.toInt + sk.toInt := kadd (by omega) (by omega)
  have hs : sv = 1 ∨ sv = 0 := h3.symm
  rcases hs with rfl | rfl
  · have a : fX2_winRally 1 ((p1, g1, r1, k1), (p2, g2, r2, k2), bs, be, ba, bt, 1, 1, sk, go, -1, wr, ws, le, wg) = (2 + 1, fX2_winPoint ((p1, g1, r1, k1), (p2, g2, r2 + 1, k2), bs, be, ba, bt, 1, 0, 0, go, -1, wr + 1, ws + sk, le, wg)) := (if_neg d10).trans (if_pos rfl)
    by_cases c : p2 + 1 < go
    · have b : fX2_winPoint ((p1, g1, r1, k1), (p2, g2, r2 + 1, k2), bs, be, ba, bt, 1, 0, 0, go, -1, wr + 1, ws + sk, le, wg) = ((p1, g1, r1, k1), (p2 + 1, g2, r2 + 1, k2), bs, be, ba, bt, 1, 0, 0, go, -1, wr + 1, ws + sk, le, wg) := (if_neg d10).trans (if_pos c)
      have y : fX4_over_1 ((p1, g1, r1, k1), (p2, g2, r2, k2), 1, tu, sk, wr, le, wg, go, is, ws) = (2 + 1, ((p1, g1, r1, k1), (p2 + 1, g2, r2 + 1, k2), 1, -1, sk, wr + 1, le, wg, go, is, ws + sk)) := (if_pos rfl).trans (if_pos c)
      rw [a, b, y]
      exact ⟨_, _, rfl, rfl, ⟨p1, g1, r1, k1, p2 + 1, g2, r2 + 1, k2, bs, be, ba, bt, 1, 0, 0, go, -1, wr + 1, ws + sk, le, wg, -1, sk, is, rfl, rfl, Or.inr rfl, ⟨s1, s2, s3, by rw [ep]; omega, kltI.mp c, Or.inl ⟨rfl, m1, m2, m3, m4⟩⟩, Or.inl ⟨rfl, rfl, rfl, rfl⟩, ⟨by omega, by omega, by omega, by omega, by omega, by omega, by omega, by decide, by rw [n0]; omega⟩⟩, ⟨Or.inr rfl, fun _ => Or.inl rfl⟩⟩
    · have b : fX2_winPoint ((p1, g1, r1, k1), (p2, g2, r2 + 1, k2), bs, be, ba, bt, 1, 0, 0, go, -1, wr + 1, ws + sk, le, wg) = fX2_winGame_2 ((p1, g1, r1, k1), (p2 + 1, g2, r2 + 1, k2), bs, be, ba, bt, 1, 0, 0, go, -1, wr + 1, ws + sk, le, wg) := (if_neg d10).trans (if_neg c)
      have y : fX4_over_1 ((p1, g1, r1, k1), (p2, g2, r2, k2), 1, tu, sk, wr, le, wg, go, is, ws) = (2 + 1, ((0, g1, r1, k1), (0, g2 + 1, r2 + 1, k2), 1, -1, sk, wr + 1, le, wg + 1, 12, 0, ws + sk)) := (if_pos rfl).trans (if_neg c)
      by_cases c2 : g2 + 1 < 3
      · have d : fX2_winGame_2 ((p1, g1, r1, k1), (p2 + 1, g2, r2 + 1, k2), bs, be, ba, bt, 1, 0, 0, go, -1, wr + 1, ws + sk, le, wg) = ((0, g1, r1, k1), (0, g2 + 1, r2 + 1, k2), bs, be, ba, bt, 1, 0, 0, 12, -1, wr + 1, ws + sk, le, wg + 1) := if_pos c2
        rw [a, b, d, y]
        exact ⟨_, _, rfl, rfl, ⟨0, g1, r1, k1, 0, g2 + 1, r2 + 1, k2, bs, be, ba, bt, 1, 0, 0, 12, -1, wr + 1, ws + sk, le, wg + 1, -1, sk, 0, rfl, rfl, Or.inr rfl, ⟨Or.inl ⟨rfl, rfl⟩, by decide, by decide, by decide, by decide, Or.inl ⟨rfl, m1, m2, by rw [eg]; omega, by rw [eg]; rw [kltI, n3, eg] at c2; omega⟩⟩, Or.inl ⟨rfl, rfl, rfl, rfl⟩, ⟨by omega, by omega, by omega, by omega, by omega, by omega, by omega, by decide, by rw [n0]; omega⟩⟩, ⟨Or.inr rfl, fun _ => Or.inl rfl⟩⟩
      · have d : fX2_winGame_2 ((p1, g1, r1, k1), (p2 + 1, g2, r2 + 1, k2), bs, be, ba, bt, 1, 0, 0, go, -1, wr + 1, ws + sk, le, wg) = ((0, g1, r1, k1), (0, g2 + 1, r2 + 1, k2), bs, be, ba, bt, 1, 0, 0, 12, 1, wr + 1, ws + sk, le, wg + 1) := if_neg c2
        have e3 : g2 + 1 = 3 := by
          rw [kltI, n3] at c2
          rw [keqI, n3]
          omega
        rw [a, b, d, y]
        exact ⟨_, _, rfl, rfl, ⟨0, g1, r1, k1, 0, g2 + 1, r2 + 1, k2, bs, be, ba, bt, 1, 0, 0, 12, 1, wr + 1, ws + sk, le, wg + 1, -1, sk, 0, rfl, rfl, Or.inr rfl, ⟨Or.inl ⟨rfl, rfl⟩, by decide, by decide, by decide, by decide, Or.inr (Or.inr ⟨rfl, e3, m1, m2, rfl, rfl, rfl, rfl⟩)⟩, Or.inl ⟨rfl, rfl, rfl, rfl⟩, ⟨by omega, by omega, by omega, by omega, by omega, by omega, by omega, by decide, by rw [n0]; omega⟩⟩, ⟨Or.inr rfl, fun _ => Or.inl rfl⟩⟩
  · have a : fX2_winRally 1 ((p1, g1, r1, k1), (p2, g2, r2, k2), bs, be, ba, bt, 0, 1, sk, go, -1, wr, ws, le, wg) = (2 + 1, ((p1, g1, r1, k1), (p2, g2, r2 + 1, k2), bs, be, ba, bt, 1, 0, 0, go, -1, wr + 1, ws + sk, le, wg)) := (if_neg d10).trans (if_neg (by decide : ¬ (1 : Int32) = 0))
    have y : fX4_over_1 ((p1, g1, r1, k1), (p2, g2, r2, k2), 0, tu, sk, wr, le, wg, go, is, ws) = (2 + 1, ((p1, g1, r1, k1), (p2, g2, r2 + 1, k2), 1, -1, sk, wr + 1, le, wg, go, is, ws + sk)) := (if_neg (by decide : ¬ (0 : Int32) = 1)).trans (if_pos (kltI.mpr s5))
    rw [a, y]
    exact ⟨_, _, rfl, rfl, ⟨p1, g1, r1, k1, p2, g2, r2 + 1, k2, bs, be, ba, bt, 1, 0, 0, go, -1, wr + 1, ws + sk, le, wg, -1, sk, is, rfl, rfl, Or.inr rfl, ⟨s1, s2, s3, s4, s5, Or.inl ⟨rfl, m1, m2, m3, m4⟩⟩, Or.inl ⟨rfl, rfl, rfl, rfl⟩, ⟨by omega, by omega, by omega, by omega, by omega, by omega, by omega, by decide, by rw [n0]; omega⟩⟩, ⟨Or.inr rfl, fun _ => Or.inl rfl⟩⟩
