/-! the court: one contract for each method that tells -/
theorem kne {a j : Int32} {n : Int} (hj : j.toInt = n) (h : ¬ a = j) : a.toInt ≠ n := fun e => h (Int32.toInt_inj.mp (by rw [e, hj]))
theorem kleI {a b : Int32} : a ≤ b ↔ a.toInt ≤ b.toInt := Int32.le_iff_toInt_le
noncomputable def gX2_count (p0 : Int32) (X : Co) : Int32 × Int32 × Co := if p0 = 0 then xX2_count_0 X else (if p0 = 1 then xX2_count_1 X else (if p0 = 2 then xX2_count_2 X else (if p0 = 3 then xX2_count_3 X else (if p0 = 4 then xX2_count_4 X else (if p0 = 5 then xX2_count_5 X else (if p0 = 6 then xX2_count_6 X else (if p0 = 7 then xX2_count_7 X else (if p0 = 8 then xX2_count_8 X else (xX2_count_bad p0 X)))))))))
theorem y_X2_count (l : Launch) (hl : l.stackTraces = false) (D : va_G) (cI cJ : ClassId) (a0 a1 a2 a3 a4 a5 a6 : Nat) (p0 : Int32) (X : Co) : kCX l D cI cJ yX2_count (.code yX2_count cX2_count 2 (some .int)) { frames := 6, cells := 1, slots := 6, locals := 90 } [.ref a0, .int p0] (wC a0 a1 a2 a3 a4 a5 a6 X) (gX2_count p0 X).1 (gX2_count p0 X).2.1 (wC a0 a1 a2 a3 a4 a5 a6 (gX2_count p0 X).2.2) := by
  unfold gX2_count
  by_cases h0 : p0 = 0
  · rw [if_pos h0]; subst h0; exact x_X2_count_0 l hl D cI cJ a0 a1 a2 a3 a4 a5 a6 X
  rw [if_neg h0]
  by_cases h1 : p0 = 1
  · rw [if_pos h1]; subst h1; exact x_X2_count_1 l hl D cI cJ a0 a1 a2 a3 a4 a5 a6 X
  rw [if_neg h1]
  by_cases h2 : p0 = 2
  · rw [if_pos h2]; subst h2; exact x_X2_count_2 l hl D cI cJ a0 a1 a2 a3 a4 a5 a6 X
  rw [if_neg h2]
  by_cases h3 : p0 = 3
  · rw [if_pos h3]; subst h3; exact x_X2_count_3 l hl D cI cJ a0 a1 a2 a3 a4 a5 a6 X
  rw [if_neg h3]
  by_cases h4 : p0 = 4
  · rw [if_pos h4]; subst h4; exact x_X2_count_4 l hl D cI cJ a0 a1 a2 a3 a4 a5 a6 X
  rw [if_neg h4]
  by_cases h5 : p0 = 5
  · rw [if_pos h5]; subst h5; exact x_X2_count_5 l hl D cI cJ a0 a1 a2 a3 a4 a5 a6 X
  rw [if_neg h5]
  by_cases h6 : p0 = 6
  · rw [if_pos h6]; subst h6; exact x_X2_count_6 l hl D cI cJ a0 a1 a2 a3 a4 a5 a6 X
  rw [if_neg h6]
  by_cases h7 : p0 = 7
  · rw [if_pos h7]; subst h7; exact x_X2_count_7 l hl D cI cJ a0 a1 a2 a3 a4 a5 a6 X
  rw [if_neg h7]
  by_cases h8 : p0 = 8
  · rw [if_pos h8]; subst h8; exact x_X2_count_8 l hl D cI cJ a0 a1 a2 a3 a4 a5 a6 X
  rw [if_neg h8]
  have e0 : ((0 : Int32)).toInt = 0 := by decide
  have e1 : ((1 : Int32)).toInt = 1 := by decide
  have e2 : ((2 : Int32)).toInt = 2 := by decide
  have e3 : ((3 : Int32)).toInt = 3 := by decide
  have e4 : ((4 : Int32)).toInt = 4 := by decide
  have e5 : ((5 : Int32)).toInt = 5 := by decide
  have e6 : ((6 : Int32)).toInt = 6 := by decide
  have e7 : ((7 : Int32)).toInt = 7 := by decide
  have e8 : ((8 : Int32)).toInt = 8 := by decide
  have e9 : ((9 : Int32)).toInt = 9 := by decide
  have f0 := kne e0 h0
  have f1 := kne e1 h1
  have f2 := kne e2 h2
  have f3 := kne e3 h3
  have f4 := kne e4 h4
  have f5 := kne e5 h5
  have f6 := kne e6 h6
  have f7 := kne e7 h7
  have f8 := kne e8 h8
  exact x_X2_count_bad l hl D cI cJ a0 a1 a2 a3 a4 a5 a6 p0 X (by omega)
noncomputable def gX2_ball (p0 : Int32) (X : Co) : Int32 × Int32 × Co := if p0 = 0 then xX2_ball_0 X else (if p0 = 1 then xX2_ball_1 X else (if p0 = 2 then xX2_ball_2 X else (if p0 = 3 then xX2_ball_3 X else (if p0 = 4 then xX2_ball_4 X else (if p0 = 5 then xX2_ball_5 X else (xX2_ball_bad p0 X))))))
theorem y_X2_ball (l : Launch) (hl : l.stackTraces = false) (D : va_G) (cI cJ : ClassId) (a0 a1 a2 a3 a4 a5 a6 : Nat) (p0 : Int32) (X : Co) : kCX l D cI cJ yX2_ball (.code yX2_ball cX2_ball 2 (some .int)) { frames := 6, cells := 1, slots := 6, locals := 90 } [.ref a0, .int p0] (wC a0 a1 a2 a3 a4 a5 a6 X) (gX2_ball p0 X).1 (gX2_ball p0 X).2.1 (wC a0 a1 a2 a3 a4 a5 a6 (gX2_ball p0 X).2.2) := by
  unfold gX2_ball
  by_cases h0 : p0 = 0
  · rw [if_pos h0]; subst h0; exact x_X2_ball_0 l hl D cI cJ a0 a1 a2 a3 a4 a5 a6 X
  rw [if_neg h0]
  by_cases h1 : p0 = 1
  · rw [if_pos h1]; subst h1; exact x_X2_ball_1 l hl D cI cJ a0 a1 a2 a3 a4 a5 a6 X
  rw [if_neg h1]
  by_cases h2 : p0 = 2
  · rw [if_pos h2]; subst h2; exact x_X2_ball_2 l hl D cI cJ a0 a1 a2 a3 a4 a5 a6 X
  rw [if_neg h2]
  by_cases h3 : p0 = 3
  · rw [if_pos h3]; subst h3; exact x_X2_ball_3 l hl D cI cJ a0 a1 a2 a3 a4 a5 a6 X
  rw [if_neg h3]
  by_cases h4 : p0 = 4
  · rw [if_pos h4]; subst h4; exact x_X2_ball_4 l hl D cI cJ a0 a1 a2 a3 a4 a5 a6 X
  rw [if_neg h4]
  by_cases h5 : p0 = 5
  · rw [if_pos h5]; subst h5; exact x_X2_ball_5 l hl D cI cJ a0 a1 a2 a3 a4 a5 a6 X
  rw [if_neg h5]
  have e0 : ((0 : Int32)).toInt = 0 := by decide
  have e1 : ((1 : Int32)).toInt = 1 := by decide
  have e2 : ((2 : Int32)).toInt = 2 := by decide
  have e3 : ((3 : Int32)).toInt = 3 := by decide
  have e4 : ((4 : Int32)).toInt = 4 := by decide
  have e5 : ((5 : Int32)).toInt = 5 := by decide
  have e6 : ((6 : Int32)).toInt = 6 := by decide
  have f0 := kne e0 h0
  have f1 := kne e1 h1
  have f2 := kne e2 h2
  have f3 := kne e3 h3
  have f4 := kne e4 h4
  have f5 := kne e5 h5
  exact x_X2_ball_bad l hl D cI cJ a0 a1 a2 a3 a4 a5 a6 p0 X (by intro c1 c2; rw [kltI, e0] at c1; rw [kltI, e6] at c2; omega)
noncomputable def gX2_end (p0 : Int32) (X : Co) : Int32 × Int32 × Co := if p0 = 0 then xX2_end_0 X else (if p0 = 1 then xX2_end_1 X else (if p0 = 2 then xX2_end_2 X else (if p0 = 3 then xX2_end_3 X else (if p0 = 4 then xX2_end_4 X else (xX2_end_bad p0 X)))))
theorem y_X2_end (l : Launch) (hl : l.stackTraces = false) (D : va_G) (cI cJ : ClassId) (a0 a1 a2 a3 a4 a5 a6 : Nat) (p0 : Int32) (X : Co) : kCX l D cI cJ yX2_end (.code yX2_end cX2_end 2 (some .int)) { frames := 6, cells := 1, slots := 6, locals := 90 } [.ref a0, .int p0] (wC a0 a1 a2 a3 a4 a5 a6 X) (gX2_end p0 X).1 (gX2_end p0 X).2.1 (wC a0 a1 a2 a3 a4 a5 a6 (gX2_end p0 X).2.2) := by
  unfold gX2_end
  by_cases h0 : p0 = 0
  · rw [if_pos h0]; subst h0; exact x_X2_end_0 l hl D cI cJ a0 a1 a2 a3 a4 a5 a6 X
  rw [if_neg h0]
  by_cases h1 : p0 = 1
  · rw [if_pos h1]; subst h1; exact x_X2_end_1 l hl D cI cJ a0 a1 a2 a3 a4 a5 a6 X
  rw [if_neg h1]
  by_cases h2 : p0 = 2
  · rw [if_pos h2]; subst h2; exact x_X2_end_2 l hl D cI cJ a0 a1 a2 a3 a4 a5 a6 X
  rw [if_neg h2]
  by_cases h3 : p0 = 3
  · rw [if_pos h3]; subst h3; exact x_X2_end_3 l hl D cI cJ a0 a1 a2 a3 a4 a5 a6 X
  rw [if_neg h3]
  by_cases h4 : p0 = 4
  · rw [if_pos h4]; subst h4; exact x_X2_end_4 l hl D cI cJ a0 a1 a2 a3 a4 a5 a6 X
  rw [if_neg h4]
  have e0 : ((0 : Int32)).toInt = 0 := by decide
  have e1 : ((1 : Int32)).toInt = 1 := by decide
  have e2 : ((2 : Int32)).toInt = 2 := by decide
  have e3 : ((3 : Int32)).toInt = 3 := by decide
  have e4 : ((4 : Int32)).toInt = 4 := by decide
  have e5 : ((5 : Int32)).toInt = 5 := by decide
  have f0 := kne e0 h0
  have f1 := kne e1 h1
  have f2 := kne e2 h2
  have f3 := kne e3 h3
  have f4 := kne e4 h4
  exact x_X2_end_bad l hl D cI cJ a0 a1 a2 a3 a4 a5 a6 p0 X (by intro c1 c2; rw [kltI, e0] at c1; rw [kltI, e5] at c2; omega)
noncomputable def gX2_told (p0 p1 : Int32) (X : Co) : Int32 × Int32 × Co := if p0 = 0 then (if p1 = 0 then xX2_told_00 X else (if p1 = 1 then xX2_told_01 X else (if p1 = 2 then xX2_told_02 X else (if p1 = 3 then xX2_told_03 X else (xX2_told_bad p0 p1 X))))) else if p0 = 1 then (if p1 = 0 then xX2_told_10 X else (if p1 = 1 then xX2_told_11 X else (if p1 = 2 then xX2_told_12 X else (if p1 = 3 then xX2_told_13 X else (xX2_told_bad p0 p1 X))))) else xX2_told_bad p0 p1 X
theorem y_X2_told (l : Launch) (hl : l.stackTraces = false) (D : va_G) (cI cJ : ClassId) (a0 a1 a2 a3 a4 a5 a6 : Nat) (p0 p1 : Int32) (X : Co) : kCX l D cI cJ yX2_told (.code yX2_told cX2_told 3 (some .int)) { frames := 6, cells := 1, slots := 6, locals := 90 } [.ref a0, .int p0, .int p1] (wC a0 a1 a2 a3 a4 a5 a6 X) (gX2_told p0 p1 X).1 (gX2_told p0 p1 X).2.1 (wC a0 a1 a2 a3 a4 a5 a6 (gX2_told p0 p1 X).2.2) := by
  unfold gX2_told
  have e0 : ((0 : Int32)).toInt = 0 := by decide
  have e1 : ((1 : Int32)).toInt = 1 := by decide
  have e2 : ((2 : Int32)).toInt = 2 := by decide
  have e3 : ((3 : Int32)).toInt = 3 := by decide
  have e4 : ((4 : Int32)).toInt = 4 := by decide
  by_cases g0 : p0 = 0
  · rw [if_pos g0]
    by_cases h0 : p1 = 0
    · rw [if_pos h0]; subst g0; subst h0; exact x_X2_told_00 l hl D cI cJ a0 a1 a2 a3 a4 a5 a6 X
    rw [if_neg h0]
    by_cases h1 : p1 = 1
    · rw [if_pos h1]; subst g0; subst h1; exact x_X2_told_01 l hl D cI cJ a0 a1 a2 a3 a4 a5 a6 X
    rw [if_neg h1]
    by_cases h2 : p1 = 2
    · rw [if_pos h2]; subst g0; subst h2; exact x_X2_told_02 l hl D cI cJ a0 a1 a2 a3 a4 a5 a6 X
    rw [if_neg h2]
    by_cases h3 : p1 = 3
    · rw [if_pos h3]; subst g0; subst h3; exact x_X2_told_03 l hl D cI cJ a0 a1 a2 a3 a4 a5 a6 X
    rw [if_neg h3]
    have f0 := kne e0 h0
    have f1 := kne e1 h1
    have f2 := kne e2 h2
    have f3 := kne e3 h3
    exact x_X2_told_bad l hl D cI cJ a0 a1 a2 a3 a4 a5 a6 p0 p1 X (by intro _ c1 c2; rw [kltI, e0] at c1; rw [kltI, e4] at c2; omega)
  rw [if_neg g0]
  by_cases g1 : p0 = 1
  · rw [if_pos g1]
    by_cases h0 : p1 = 0
    · rw [if_pos h0]; subst g1; subst h0; exact x_X2_told_10 l hl D cI cJ a0 a1 a2 a3 a4 a5 a6 X
    rw [if_neg h0]
    by_cases h1 : p1 = 1
    · rw [if_pos h1]; subst g1; subst h1; exact x_X2_told_11 l hl D cI cJ a0 a1 a2 a3 a4 a5 a6 X
    rw [if_neg h1]
    by_cases h2 : p1 = 2
    · rw [if_pos h2]; subst g1; subst h2; exact x_X2_told_12 l hl D cI cJ a0 a1 a2 a3 a4 a5 a6 X
    rw [if_neg h2]
    by_cases h3 : p1 = 3
    · rw [if_pos h3]; subst g1; subst h3; exact x_X2_told_13 l hl D cI cJ a0 a1 a2 a3 a4 a5 a6 X
    rw [if_neg h3]
    have f0 := kne e0 h0
    have f1 := kne e1 h1
    have f2 := kne e2 h2
    have f3 := kne e3 h3
    exact x_X2_told_bad l hl D cI cJ a0 a1 a2 a3 a4 a5 a6 p0 p1 X (by intro _ c1 c2; rw [kltI, e0] at c1; rw [kltI, e4] at c2; omega)
  rw [if_neg g1]
  exact x_X2_told_bad l hl D cI cJ a0 a1 a2 a3 a4 a5 a6 p0 p1 X (by intro c0; exact absurd (by unfold fX2_isSide; rw [if_neg g0, if_neg g1]) c0)
noncomputable def gX2_flight (p0 p1 : Int32) (X : Co) : Int32 × Int32 × Co := if p1 = 0 then xX2_flight_0 p0 X else (if p1 = 1 then xX2_flight_1 p0 X else (if p1 = 2 then xX2_flight_2 p0 X else (if p1 = 3 then xX2_flight_3 p0 X else (if p1 = 4 then xX2_flight_4 p0 X else (if p1 = 5 then xX2_flight_5 p0 X else (if p1 = 6 then xX2_flight_6 p0 X else (if p1 = 7 then xX2_flight_7 p0 X else (if p1 = 8 then xX2_flight_8 p0 X else (xX2_flight_bad p0 p1 X)))))))))
theorem y_X2_flight (l : Launch) (hl : l.stackTraces = false) (D : va_G) (cI cJ : ClassId) (a0 a1 a2 a3 a4 a5 a6 : Nat) (p0 p1 : Int32) (X : Co) : kCX l D cI cJ yX2_flight (.code yX2_flight cX2_flight 3 (some .int)) { frames := 6, cells := 1, slots := 6, locals := 127 } [.ref a0, .int p0, .int p1] (wC a0 a1 a2 a3 a4 a5 a6 X) (gX2_flight p0 p1 X).1 (gX2_flight p0 p1 X).2.1 (wC a0 a1 a2 a3 a4 a5 a6 (gX2_flight p0 p1 X).2.2) := by
  unfold gX2_flight
  have e0 : ((0 : Int32)).toInt = 0 := by decide
  have e1 : ((1 : Int32)).toInt = 1 := by decide
  have e2 : ((2 : Int32)).toInt = 2 := by decide
  have e3 : ((3 : Int32)).toInt = 3 := by decide
  have e4 : ((4 : Int32)).toInt = 4 := by decide
  have e5 : ((5 : Int32)).toInt = 5 := by decide
  have e6 : ((6 : Int32)).toInt = 6 := by decide
  have e7 : ((7 : Int32)).toInt = 7 := by decide
  have e8 : ((8 : Int32)).toInt = 8 := by decide
  have e9 : ((9 : Int32)).toInt = 9 := by decide
  by_cases h0 : p1 = 0
  · rw [if_pos h0]; subst h0; exact x_X2_flight_0 l hl D cI cJ a0 a1 a2 a3 a4 a5 a6 p0 X
  rw [if_neg h0]
  by_cases h1 : p1 = 1
  · rw [if_pos h1]; subst h1; exact x_X2_flight_1 l hl D cI cJ a0 a1 a2 a3 a4 a5 a6 p0 X
  rw [if_neg h1]
  by_cases h2 : p1 = 2
  · rw [if_pos h2]; subst h2; exact x_X2_flight_2 l hl D cI cJ a0 a1 a2 a3 a4 a5 a6 p0 X
  rw [if_neg h2]
  by_cases h3 : p1 = 3
  · rw [if_pos h3]; subst h3; exact x_X2_flight_3 l hl D cI cJ a0 a1 a2 a3 a4 a5 a6 p0 X
  rw [if_neg h3]
  by_cases h4 : p1 = 4
  · rw [if_pos h4]; subst h4; exact x_X2_flight_4 l hl D cI cJ a0 a1 a2 a3 a4 a5 a6 p0 X
  rw [if_neg h4]
  by_cases h5 : p1 = 5
  · rw [if_pos h5]; subst h5; exact x_X2_flight_5 l hl D cI cJ a0 a1 a2 a3 a4 a5 a6 p0 X
  rw [if_neg h5]
  by_cases h6 : p1 = 6
  · rw [if_pos h6]; subst h6; exact x_X2_flight_6 l hl D cI cJ a0 a1 a2 a3 a4 a5 a6 p0 X
  rw [if_neg h6]
  by_cases h7 : p1 = 7
  · rw [if_pos h7]; subst h7; exact x_X2_flight_7 l hl D cI cJ a0 a1 a2 a3 a4 a5 a6 p0 X
  rw [if_neg h7]
  by_cases h8 : p1 = 8
  · rw [if_pos h8]; subst h8; exact x_X2_flight_8 l hl D cI cJ a0 a1 a2 a3 a4 a5 a6 p0 X
  rw [if_neg h8]
  have f0 := kne e0 h0
  have f1 := kne e1 h1
  have f2 := kne e2 h2
  have f3 := kne e3 h3
  have f4 := kne e4 h4
  have f5 := kne e5 h5
  have f6 := kne e6 h6
  have f7 := kne e7 h7
  have f8 := kne e8 h8
  exact x_X2_flight_bad l hl D cI cJ a0 a1 a2 a3 a4 a5 a6 p0 p1 X (by intro _ c1 c2; rw [kltI, e0] at c1; rw [kltI, e9] at c2; omega)