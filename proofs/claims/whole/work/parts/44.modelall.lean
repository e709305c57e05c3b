/-! the reference: one contract for each method that tells -/
noncomputable def gX3_count (p0 : Int32) (X : Mo) : Int32 × Mo := if p0 = 0 then fX3_count_0 X else (if p0 = 1 then fX3_count_1 X else (if p0 = 2 then fX3_count_2 X else (if p0 = 3 then fX3_count_3 X else (if p0 = 4 then fX3_count_4 X else (if p0 = 5 then fX3_count_5 X else (if p0 = 6 then fX3_count_6 X else (if p0 = 7 then fX3_count_7 X else (if p0 = 8 then fX3_count_8 X else (fX3_count_bad p0 X)))))))))
theorem y_X3_count (l : Launch) (D : va_G) (cI cJ : ClassId) (b0 b1 b2 b3 b4 b5 b6 : Nat) (p0 : Int32) (X : Mo)  : kCi l D cI cJ yX3_count (.code yX3_count cX3_count 2 (some .int)) { frames := 3, cells := 0, slots := 0, locals := 63 } [.ref b0, .int p0] (wM cI b0 b1 b2 b3 b4 b5 b6 X) (gX3_count p0 X).1 (wM cI b0 b1 b2 b3 b4 b5 b6 (gX3_count p0 X).2) := by
  unfold gX3_count
  by_cases h0 : p0 = 0
  · rw [if_pos h0]; subst h0; exact mX3_count_0 l D cI cJ b0 b1 b2 b3 b4 b5 b6 X
  rw [if_neg h0]
  by_cases h1 : p0 = 1
  · rw [if_pos h1]; subst h1; exact mX3_count_1 l D cI cJ b0 b1 b2 b3 b4 b5 b6 X
  rw [if_neg h1]
  by_cases h2 : p0 = 2
  · rw [if_pos h2]; subst h2; exact mX3_count_2 l D cI cJ b0 b1 b2 b3 b4 b5 b6 X
  rw [if_neg h2]
  by_cases h3 : p0 = 3
  · rw [if_pos h3]; subst h3; exact mX3_count_3 l D cI cJ b0 b1 b2 b3 b4 b5 b6 X
  rw [if_neg h3]
  by_cases h4 : p0 = 4
  · rw [if_pos h4]; subst h4; exact mX3_count_4 l D cI cJ b0 b1 b2 b3 b4 b5 b6 X
  rw [if_neg h4]
  by_cases h5 : p0 = 5
  · rw [if_pos h5]; subst h5; exact mX3_count_5 l D cI cJ b0 b1 b2 b3 b4 b5 b6 X
  rw [if_neg h5]
  by_cases h6 : p0 = 6
  · rw [if_pos h6]; subst h6; exact mX3_count_6 l D cI cJ b0 b1 b2 b3 b4 b5 b6 X
  rw [if_neg h6]
  by_cases h7 : p0 = 7
  · rw [if_pos h7]; subst h7; exact mX3_count_7 l D cI cJ b0 b1 b2 b3 b4 b5 b6 X
  rw [if_neg h7]
  by_cases h8 : p0 = 8
  · rw [if_pos h8]; subst h8; exact mX3_count_8 l D cI cJ b0 b1 b2 b3 b4 b5 b6 X
  rw [if_neg h8]
  have e0 : ((0 : Int32)).toInt = 0 := by decide
  have e1 : ((1 : Int32)).toInt = 1 := by decide
  have e2 : ((2 : Int32)).toInt = 2 := by decide
  have e3 : ((3 : Int32)).toInt = 3 := by decide
  have e4 : ((4 : Int32)).toInt = 4 := by decide
  have e5 : ((5 : Int32)).toInt = 5 := by decide
  have e6 : ((6 : Int32)).toInt = 6 := by decide
  have e7 : ((7 : Int32)).toInt = 7 := by decide
  have e8 : ((8 : Int32)).toInt = 8 := by decide
  have e9 : ((9 : Int32)).toInt = 9 := by decide
  have f0 := kne e0 h0
  have f1 := kne e1 h1
  have f2 := kne e2 h2
  have f3 := kne e3 h3
  have f4 := kne e4 h4
  have f5 := kne e5 h5
  have f6 := kne e6 h6
  have f7 := kne e7 h7
  have f8 := kne e8 h8
  exact mX3_count_bad l D cI cJ b0 b1 b2 b3 b4 b5 b6 p0 X (by
      unfold fX3_isIn
      by_cases c : p0 < 0
      · rw [if_pos c]
      · rw [if_neg c]
        rw [kltI, e0] at c
        rw [if_pos (by rw [kltI, e8]; omega)])
noncomputable def gX3_ball (p0 : Int32) (X : Mo) : Int32 × Mo := if p0 = 0 then fX3_ball_0 X else (if p0 = 1 then fX3_ball_1 X else (if p0 = 2 then fX3_ball_2 X else (if p0 = 3 then fX3_ball_3 X else (if p0 = 4 then fX3_ball_4 X else (if p0 = 5 then fX3_ball_5 X else (fX3_ball_bad p0 X))))))
theorem y_X3_ball (l : Launch) (D : va_G) (cI cJ : ClassId) (b0 b1 b2 b3 b4 b5 b6 : Nat) (p0 : Int32) (X : Mo)  : kCi l D cI cJ yX3_ball (.code yX3_ball cX3_ball 2 (some .int)) { frames := 1, cells := 0, slots := 0, locals := 22 } [.ref b0, .int p0] (wM cI b0 b1 b2 b3 b4 b5 b6 X) (gX3_ball p0 X).1 (wM cI b0 b1 b2 b3 b4 b5 b6 (gX3_ball p0 X).2) := by
  unfold gX3_ball
  by_cases h0 : p0 = 0
  · rw [if_pos h0]; subst h0; exact mX3_ball_0 l D cI cJ b0 b1 b2 b3 b4 b5 b6 X
  rw [if_neg h0]
  by_cases h1 : p0 = 1
  · rw [if_pos h1]; subst h1; exact mX3_ball_1 l D cI cJ b0 b1 b2 b3 b4 b5 b6 X
  rw [if_neg h1]
  by_cases h2 : p0 = 2
  · rw [if_pos h2]; subst h2; exact mX3_ball_2 l D cI cJ b0 b1 b2 b3 b4 b5 b6 X
  rw [if_neg h2]
  by_cases h3 : p0 = 3
  · rw [if_pos h3]; subst h3; exact mX3_ball_3 l D cI cJ b0 b1 b2 b3 b4 b5 b6 X
  rw [if_neg h3]
  by_cases h4 : p0 = 4
  · rw [if_pos h4]; subst h4; exact mX3_ball_4 l D cI cJ b0 b1 b2 b3 b4 b5 b6 X
  rw [if_neg h4]
  by_cases h5 : p0 = 5
  · rw [if_pos h5]; subst h5; exact mX3_ball_5 l D cI cJ b0 b1 b2 b3 b4 b5 b6 X
  rw [if_neg h5]
  have e0 : ((0 : Int32)).toInt = 0 := by decide
  have e1 : ((1 : Int32)).toInt = 1 := by decide
  have e2 : ((2 : Int32)).toInt = 2 := by decide
  have e3 : ((3 : Int32)).toInt = 3 := by decide
  have e4 : ((4 : Int32)).toInt = 4 := by decide
  have e5 : ((5 : Int32)).toInt = 5 := by decide
  have e6 : ((6 : Int32)).toInt = 6 := by decide
  have f0 := kne e0 h0
  have f1 := kne e1 h1
  have f2 := kne e2 h2
  have f3 := kne e3 h3
  have f4 := kne e4 h4
  have f5 := kne e5 h5
  exact mX3_ball_bad l D cI cJ b0 b1 b2 b3 b4 b5 b6 p0 X (by
      unfold fX3_isIn
      by_cases c : p0 < 0
      · rw [if_pos c]
      · rw [if_neg c]
        rw [kltI, e0] at c
        rw [if_pos (by rw [kltI, e5]; omega)])
noncomputable def gX3_end (p0 : Int32) (X : Mo) : Int32 × Mo := if p0 = 0 then fX3_end_0 X else (if p0 = 1 then fX3_end_1 X else (if p0 = 2 then fX3_end_2 X else (if p0 = 3 then fX3_end_3 X else (if p0 = 4 then fX3_end_4 X else (fX3_end_bad p0 X)))))
def NG3_end (p0 : Int32) (X : Mo) : Prop := (p0 = 0 → NX3_end_0 X) ∧ (p0 = 1 → NX3_end_1 X) ∧ (p0 = 2 → NX3_end_2 X) ∧ (p0 = 3 → NX3_end_3 X) ∧ (p0 = 4 → NX3_end_4 X)
theorem y_X3_end (l : Launch) (D : va_G) (cI cJ : ClassId) (b0 b1 b2 b3 b4 b5 b6 : Nat) (p0 : Int32) (X : Mo) (hN : NG3_end p0 X) : kCi l D cI cJ yX3_end (.code yX3_end cX3_end 2 (some .int)) { frames := 7, cells := 0, slots := 0, locals := 150 } [.ref b0, .int p0] (wM cI b0 b1 b2 b3 b4 b5 b6 X) (gX3_end p0 X).1 (wM cI b0 b1 b2 b3 b4 b5 b6 (gX3_end p0 X).2) := by
  unfold gX3_end
  obtain ⟨n0, n1, n2, n3, n4⟩ := hN
  by_cases h0 : p0 = 0
  · rw [if_pos h0]; subst h0; exact mX3_end_0 l D cI cJ b0 b1 b2 b3 b4 b5 b6 X (n0 rfl)
  rw [if_neg h0]
  by_cases h1 : p0 = 1
  · rw [if_pos h1]; subst h1; exact mX3_end_1 l D cI cJ b0 b1 b2 b3 b4 b5 b6 X (n1 rfl)
  rw [if_neg h1]
  by_cases h2 : p0 = 2
  · rw [if_pos h2]; subst h2; exact mX3_end_2 l D cI cJ b0 b1 b2 b3 b4 b5 b6 X (n2 rfl)
  rw [if_neg h2]
  by_cases h3 : p0 = 3
  · rw [if_pos h3]; subst h3; exact mX3_end_3 l D cI cJ b0 b1 b2 b3 b4 b5 b6 X (n3 rfl)
  rw [if_neg h3]
  by_cases h4 : p0 = 4
  · rw [if_pos h4]; subst h4; exact mX3_end_4 l D cI cJ b0 b1 b2 b3 b4 b5 b6 X (n4 rfl)
  rw [if_neg h4]
  have e0 : ((0 : Int32)).toInt = 0 := by decide
  have e1 : ((1 : Int32)).toInt = 1 := by decide
  have e2 : ((2 : Int32)).toInt = 2 := by decide
  have e3 : ((3 : Int32)).toInt = 3 := by decide
  have e4 : ((4 : Int32)).toInt = 4 := by decide
  have e5 : ((5 : Int32)).toInt = 5 := by decide
  have f0 := kne e0 h0
  have f1 := kne e1 h1
  have f2 := kne e2 h2
  have f3 := kne e3 h3
  have f4 := kne e4 h4
  exact mX3_end_bad l D cI cJ b0 b1 b2 b3 b4 b5 b6 p0 X (by
      unfold fX3_isIn
      by_cases c : p0 < 0
      · rw [if_pos c]
      · rw [if_neg c]
        rw [kltI, e0] at c
        rw [if_pos (by rw [kltI, e4]; omega)])
noncomputable def gX3_told (p0 p1 : Int32) (X : Mo) : Int32 × Mo := if p0 = 0 then (if p1 = 0 then fX3_told_00 X else (if p1 = 1 then fX3_told_01 X else (if p1 = 2 then fX3_told_02 X else (if p1 = 3 then fX3_told_03 X else (fX3_told_bad2 p0 p1 X))))) else if p0 = 1 then (if p1 = 0 then fX3_told_10 X else (if p1 = 1 then fX3_told_11 X else (if p1 = 2 then fX3_told_12 X else (if p1 = 3 then fX3_told_13 X else (fX3_told_bad2 p0 p1 X))))) else fX3_told_bad1 p0 p1 X
theorem y_X3_told (l : Launch) (D : va_G) (cI cJ : ClassId) (b0 b1 b2 b3 b4 b5 b6 : Nat) (p0 p1 : Int32) (X : Mo) : kCi l D cI cJ yX3_told (.code yX3_told cX3_told 3 (some .int)) { frames := 1, cells := 0, slots := 0, locals := 22 } [.ref b0, .int p0, .int p1] (wM cI b0 b1 b2 b3 b4 b5 b6 X) (gX3_told p0 p1 X).1 (wM cI b0 b1 b2 b3 b4 b5 b6 (gX3_told p0 p1 X).2) := by
  unfold gX3_told
  have e0 : ((0 : Int32)).toInt = 0 := by decide
  have e1 : ((1 : Int32)).toInt = 1 := by decide
  have e2 : ((2 : Int32)).toInt = 2 := by decide
  have e3 : ((3 : Int32)).toInt = 3 := by decide
  have e4 : ((4 : Int32)).toInt = 4 := by decide
  by_cases g0 : p0 = 0
  · rw [if_pos g0]
    by_cases h0 : p1 = 0
    · rw [if_pos h0]; subst g0; subst h0; exact mX3_told_00 l D cI cJ b0 b1 b2 b3 b4 b5 b6 X
    rw [if_neg h0]
    by_cases h1 : p1 = 1
    · rw [if_pos h1]; subst g0; subst h1; exact mX3_told_01 l D cI cJ b0 b1 b2 b3 b4 b5 b6 X
    rw [if_neg h1]
    by_cases h2 : p1 = 2
    · rw [if_pos h2]; subst g0; subst h2; exact mX3_told_02 l D cI cJ b0 b1 b2 b3 b4 b5 b6 X
    rw [if_neg h2]
    by_cases h3 : p1 = 3
    · rw [if_pos h3]; subst g0; subst h3; exact mX3_told_03 l D cI cJ b0 b1 b2 b3 b4 b5 b6 X
    rw [if_neg h3]
    have f0 := kne e0 h0
    have f1 := kne e1 h1
    have f2 := kne e2 h2
    have f3 := kne e3 h3
    exact mX3_told_bad2 l D cI cJ b0 b1 b2 b3 b4 b5 b6 p0 p1 X (by subst g0; decide) (by
      unfold fX3_isIn
      by_cases c : p1 < 0
      · rw [if_pos c]
      · rw [if_neg c]
        rw [kltI, e0] at c
        rw [if_pos (by rw [kltI, e3]; omega)])
  rw [if_neg g0]
  by_cases g1 : p0 = 1
  · rw [if_pos g1]
    by_cases h0 : p1 = 0
    · rw [if_pos h0]; subst g1; subst h0; exact mX3_told_10 l D cI cJ b0 b1 b2 b3 b4 b5 b6 X
    rw [if_neg h0]
    by_cases h1 : p1 = 1
    · rw [if_pos h1]; subst g1; subst h1; exact mX3_told_11 l D cI cJ b0 b1 b2 b3 b4 b5 b6 X
    rw [if_neg h1]
    by_cases h2 : p1 = 2
    · rw [if_pos h2]; subst g1; subst h2; exact mX3_told_12 l D cI cJ b0 b1 b2 b3 b4 b5 b6 X
    rw [if_neg h2]
    by_cases h3 : p1 = 3
    · rw [if_pos h3]; subst g1; subst h3; exact mX3_told_13 l D cI cJ b0 b1 b2 b3 b4 b5 b6 X
    rw [if_neg h3]
    have f0 := kne e0 h0
    have f1 := kne e1 h1
    have f2 := kne e2 h2
    have f3 := kne e3 h3
    exact mX3_told_bad2 l D cI cJ b0 b1 b2 b3 b4 b5 b6 p0 p1 X (by subst g1; decide) (by
      unfold fX3_isIn
      by_cases c : p1 < 0
      · rw [if_pos c]
      · rw [if_neg c]
        rw [kltI, e0] at c
        rw [if_pos (by rw [kltI, e3]; omega)])
  rw [if_neg g1]
  have f0 := kne e0 g0
  have f1 := kne e1 g1
  exact mX3_told_bad1 l D cI cJ b0 b1 b2 b3 b4 b5 b6 p0 p1 X (by
      unfold fX3_isIn
      by_cases c : p0 < 0
      · rw [if_pos c]
      · rw [if_neg c]
        rw [kltI, e0] at c
        rw [if_pos (by rw [kltI, e1]; omega)])
noncomputable def gX3_flight (p0 p1 : Int32) (X : Mo) : Int32 × Mo := if p1 = 0 then fX3_flight_0 p0 X else (if p1 = 1 then fX3_flight_1 p0 X else (if p1 = 2 then fX3_flight_2 p0 X else (if p1 = 3 then fX3_flight_3 p0 X else (if p1 = 4 then fX3_flight_4 p0 X else (if p1 = 5 then fX3_flight_5 p0 X else (if p1 = 6 then fX3_flight_6 p0 X else (if p1 = 7 then fX3_flight_7 p0 X else (if p1 = 8 then fX3_flight_8 p0 X else (fX3_flight_bad p0 p1 X)))))))))
theorem y_X3_flight (l : Launch) (D : va_G) (cI cJ : ClassId) (b0 b1 b2 b3 b4 b5 b6 : Nat) (p0 p1 : Int32) (X : Mo) : kCi l D cI cJ yX3_flight (.code yX3_flight cX3_flight 3 (some .int)) { frames := 5, cells := 0, slots := 0, locals := 110 } [.ref b0, .int p0, .int p1] (wM cI b0 b1 b2 b3 b4 b5 b6 X) (gX3_flight p0 p1 X).1 (wM cI b0 b1 b2 b3 b4 b5 b6 (gX3_flight p0 p1 X).2) := by
  unfold gX3_flight
  have e0 : ((0 : Int32)).toInt = 0 := by decide
  have e1 : ((1 : Int32)).toInt = 1 := by decide
  have e2 : ((2 : Int32)).toInt = 2 := by decide
  have e3 : ((3 : Int32)).toInt = 3 := by decide
  have e4 : ((4 : Int32)).toInt = 4 := by decide
  have e5 : ((5 : Int32)).toInt = 5 := by decide
  have e6 : ((6 : Int32)).toInt = 6 := by decide
  have e7 : ((7 : Int32)).toInt = 7 := by decide
  have e8 : ((8 : Int32)).toInt = 8 := by decide
  have e9 : ((9 : Int32)).toInt = 9 := by decide
  by_cases h0 : p1 = 0
  · rw [if_pos h0]; subst h0; exact mX3_flight_0 l D cI cJ b0 b1 b2 b3 b4 b5 b6 p0 X
  rw [if_neg h0]
  by_cases h1 : p1 = 1
  · rw [if_pos h1]; subst h1; exact mX3_flight_1 l D cI cJ b0 b1 b2 b3 b4 b5 b6 p0 X
  rw [if_neg h1]
  by_cases h2 : p1 = 2
  · rw [if_pos h2]; subst h2; exact mX3_flight_2 l D cI cJ b0 b1 b2 b3 b4 b5 b6 p0 X
  rw [if_neg h2]
  by_cases h3 : p1 = 3
  · rw [if_pos h3]; subst h3; exact mX3_flight_3 l D cI cJ b0 b1 b2 b3 b4 b5 b6 p0 X
  rw [if_neg h3]
  by_cases h4 : p1 = 4
  · rw [if_pos h4]; subst h4; exact mX3_flight_4 l D cI cJ b0 b1 b2 b3 b4 b5 b6 p0 X
  rw [if_neg h4]
  by_cases h5 : p1 = 5
  · rw [if_pos h5]; subst h5; exact mX3_flight_5 l D cI cJ b0 b1 b2 b3 b4 b5 b6 p0 X
  rw [if_neg h5]
  by_cases h6 : p1 = 6
  · rw [if_pos h6]; subst h6; exact mX3_flight_6 l D cI cJ b0 b1 b2 b3 b4 b5 b6 p0 X
  rw [if_neg h6]
  by_cases h7 : p1 = 7
  · rw [if_pos h7]; subst h7; exact mX3_flight_7 l D cI cJ b0 b1 b2 b3 b4 b5 b6 p0 X
  rw [if_neg h7]
  by_cases h8 : p1 = 8
  · rw [if_pos h8]; subst h8; exact mX3_flight_8 l D cI cJ b0 b1 b2 b3 b4 b5 b6 p0 X
  rw [if_neg h8]
  have f0 := kne e0 h0
  have f1 := kne e1 h1
  have f2 := kne e2 h2
  have f3 := kne e3 h3
  have f4 := kne e4 h4
  have f5 := kne e5 h5
  have f6 := kne e6 h6
  have f7 := kne e7 h7
  have f8 := kne e8 h8
  exact mX3_flight_bad l D cI cJ b0 b1 b2 b3 b4 b5 b6 p0 p1 X (fun _ => (by
      unfold fX3_isIn
      by_cases c : p1 < 0
      · rw [if_pos c]
      · rw [if_neg c]
        rw [kltI, e0] at c
        rw [if_pos (by rw [kltI, e8]; omega)]))