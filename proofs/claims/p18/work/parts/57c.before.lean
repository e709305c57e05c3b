/-! what the law's acts stand on -/
theorem hX4_serve_0 (l : Launch) (D : va_G) (cI cJ : ClassId) (z0 z1 z2 z3 : Nat) (p0 : Int32) (p1 : Int32) (p2 : Int32) (X : Zs) (hs : X.2.2.1 = 0) : kGi l D cI cJ yX4_serve (.code yX4_serve cX4_serve 4 (some .int)) { frames := 3, cells := 1, slots := 10, locals := 66 } [.ref z0, .int p0, .int p1, .int p2] [(z0, cZ .null z1 X.2.2), (z1, cQ cJ z2 z3), (z2, cA4 cI X.1), (z3, cA4 cI X.2.1)] 1 10 (fun r U => r = (fX4_serve_0 p0 p1 p2 X).1 ∧ wSim cI cJ z0 (fX4_serve_0 p0 p1 p2 X).2.1 (fX4_serve_0 p0 p1 p2 X).2.2 U) := by
  obtain ⟨s0, s1, sv, rest⟩ := X
  have hs2 : sv = 0 := hs
  subst hs2
  exact mX4_serve_0 l D cI cJ z0 z1 z2 z3 p0 p1 p2 (s0, s1, 0, rest)
theorem hX4_serve_1 (l : Launch) (D : va_G) (cI cJ : ClassId) (z0 z1 z2 z3 : Nat) (p0 : Int32) (p1 : Int32) (p2 : Int32) (X : Zs) (hs : X.2.2.1 = 1) : kGi l D cI cJ yX4_serve (.code yX4_serve cX4_serve 4 (some .int)) { frames := 3, cells := 1, slots := 10, locals := 66 } [.ref z0, .int p0, .int p1, .int p2] [(z0, cZ .null z1 X.2.2), (z1, cQ cJ z2 z3), (z2, cA4 cI X.1), (z3, cA4 cI X.2.1)] 1 10 (fun r U => r = (fX4_serve_1 p0 p1 p2 X).1 ∧ wSim cI cJ z0 (fX4_serve_1 p0 p1 p2 X).2.1 (fX4_serve_1 p0 p1 p2 X).2.2 U) := by
  obtain ⟨s0, s1, sv, rest⟩ := X
  have hs2 : sv = 1 := hs
  subst hs2
  exact mX4_serve_1 l D cI cJ z0 z1 z2 z3 p0 p1 p2 (s0, s1, 1, rest)
theorem hX4_strike_0 (l : Launch) (D : va_G) (cI cJ : ClassId) (z0 z1 z2 z3 z4 : Nat) (p0 : Int32) (p1 : Int32) (p2 : Int32) (p3 : Int32) (X : Zs) (b : Lb) (hs : X.2.2.2.1 = 0) : kGi l D cI cJ yX4_strike (.code yX4_strike cX4_strike 7 (some .int)) { frames := 4, cells := 2, slots := 20, locals := 87 } [.ref z0, .int p0, .int p1, .int p2, .int p3] [(z0, cZ (.ref z4) z1 X.2.2), (z1, cQ cJ z2 z3), (z2, cA4 cI X.1), (z3, cA4 cI X.2.1), (z4, cL b)] 2 20 (fun r U => r = (fX4_strike_0 p0 p1 p2 p3 X b).1 ∧ wSim cI cJ z0 (fX4_strike_0 p0 p1 p2 p3 X b).2.1 (fX4_strike_0 p0 p1 p2 p3 X b).2.2 U) := by
  obtain ⟨s0, s1, sv, tu, rest⟩ := X
  have hs2 : tu = 0 := hs
  subst hs2
  exact mX4_strike_0 l D cI cJ z0 z1 z2 z3 z4 p0 p1 p2 p3 (s0, s1, sv, 0, rest) b
theorem hX4_strike_1 (l : Launch) (D : va_G) (cI cJ : ClassId) (z0 z1 z2 z3 z4 : Nat) (p0 : Int32) (p1 : Int32) (p2 : Int32) (p3 : Int32) (X : Zs) (b : Lb) (hs : X.2.2.2.1 = 1) : kGi l D cI cJ yX4_strike (.code yX4_strike cX4_strike 7 (some .int)) { frames := 4, cells := 2, slots := 20, locals := 87 } [.ref z0, .int p0, .int p1, .int p2, .int p3] [(z0, cZ (.ref z4) z1 X.2.2), (z1, cQ cJ z2 z3), (z2, cA4 cI X.1), (z3, cA4 cI X.2.1), (z4, cL b)] 2 20 (fun r U => r = (fX4_strike_1 p0 p1 p2 p3 X b).1 ∧ wSim cI cJ z0 (fX4_strike_1 p0 p1 p2 p3 X b).2.1 (fX4_strike_1 p0 p1 p2 p3 X b).2.2 U) := by
  obtain ⟨s0, s1, sv, tu, rest⟩ := X
  have hs2 : tu = 1 := hs
  subst hs2
  exact mX4_strike_1 l D cI cJ z0 z1 z2 z3 z4 p0 p1 p2 p3 (s0, s1, sv, 1, rest) b
theorem hX4_leave_0 (l : Launch) (D : va_G) (cI cJ : ClassId) (z0 z1 z2 z3 z4 : Nat) (X : Zs) (b : Lb) (hs : X.2.2.2.1 = 0) : kGi l D cI cJ yX4_leave (.code yX4_leave cX4_leave 2 (some .int)) { frames := 4, cells := 1, slots := 10, locals := 87 } [.ref z0] [(z0, cZ (.ref z4) z1 X.2.2), (z1, cQ cJ z2 z3), (z2, cA4 cI X.1), (z3, cA4 cI X.2.1), (z4, cL b)] 1 10 (fun r U => r = (fX4_leave_0 X b).1 ∧ wSim cI cJ z0 (fX4_leave_0 X b).2.1 (fX4_leave_0 X b).2.2 U) := by
  obtain ⟨s0, s1, sv, tu, rest⟩ := X
  have hs2 : tu = 0 := hs
  subst hs2
  exact mX4_leave_0 l D cI cJ z0 z1 z2 z3 z4 (s0, s1, sv, 0, rest) b
theorem hX4_leave_1 (l : Launch) (D : va_G) (cI cJ : ClassId) (z0 z1 z2 z3 z4 : Nat) (X : Zs) (b : Lb) (hs : X.2.2.2.1 = 1) : kGi l D cI cJ yX4_leave (.code yX4_leave cX4_leave 2 (some .int)) { frames := 4, cells := 1, slots := 10, locals := 87 } [.ref z0] [(z0, cZ (.ref z4) z1 X.2.2), (z1, cQ cJ z2 z3), (z2, cA4 cI X.1), (z3, cA4 cI X.2.1), (z4, cL b)] 1 10 (fun r U => r = (fX4_leave_1 X b).1 ∧ wSim cI cJ z0 (fX4_leave_1 X b).2.1 (fX4_leave_1 X b).2.2 U) := by
  obtain ⟨s0, s1, sv, tu, rest⟩ := X
  have hs2 : tu = 1 := hs
  subst hs2
  exact mX4_leave_1 l D cI cJ z0 z1 z2 z3 z4 (s0, s1, sv, 1, rest) b
theorem Tr.refl (X : Co) : Tr X X := ⟨Or.inl rfl, fun _ => Or.inl rfl⟩
theorem Rel.mono {i : Nat} {X : Co} {Z : Zs} {β : Option Lb} (h : Rel i X Z β) : Rel (i + 1) X Z β := by
  obtain ⟨p1, g1, r1, k1, p2, g2, r2, k2, bs, be, ba, bt, sv, ra, sk, go, mw, wr, ws, le, wg, tu, sk', is, h1, h2, h3, h4, h5, h6⟩ := h
  refine ⟨p1, g1, r1, k1, p2, g2, r2, k2, bs, be, ba, bt, sv, ra, sk, go, mw, wr, ws, le, wg, tu, sk', is, h1, h2, h3, h4, ?_, h6.mono⟩
  rcases h5 with h | ⟨q1, q2, ⟨j, q3, q4, q5, q6⟩, q7, q8⟩
  · exact Or.inl h
  · exact Or.inr ⟨q1, q2, ⟨j, q3, q4, by omega, q6⟩, ⟨q7.1, q7.2.1, by have := q7.2.2.1; omega, q7.2.2.2⟩, q8⟩
/-- who has won, by hand and by the court -/
theorem win_mw {i : Nat} {X : Co} {Z : Zs} {β : Option Lb} (h : Rel i X Z β) : fX4_winner Z = X.2.2.2.2.2.2.2.2.2.2.1 := by
  obtain ⟨p1, g1, r1, k1, p2, g2, r2, k2, bs, be, ba, bt, sv, ra, sk, go, mw, wr, ws, le, wg, tu, sk', is, h1, h2, h3, h4, h5, h6⟩ := h
  subst h1 h2
  show (if g1 ≤ 2 then (if g2 ≤ 2 then (-1) else 1) else (0 : Int32)) = mw
  rcases h4.2.2.2.2.2 with ⟨a, b, c, d, e⟩ | ⟨a, b, c, d, _⟩ | ⟨a, b, c, d, _⟩
  · rw [if_pos (by rw [kleI, n2]; omega), if_pos (by rw [kleI, n2]; omega), a]
  · rw [if_neg (by rw [b]; decide), a]
  · rw [if_pos (by rw [kleI, n2]; omega), b, a]; decide
theorem mw_neg {i : Nat} {X : Co} {Z : Zs} {β : Option Lb} (h : Rel i X Z β) (hn : ¬ 0 ≤ fX4_winner Z) : X.2.2.2.2.2.2.2.2.2.2.1 = -1 := by
  rw [win_mw h] at hn
  obtain ⟨p1, g1, r1, k1, p2, g2, r2, k2, bs, be, ba, bt, sv, ra, sk, go, mw, wr, ws, le, wg, tu, sk', is, h1, h2, h3, h4, h5, h6⟩ := h
  subst h1 h2
  rcases h4.2.2.2.2.2 with ⟨a, _⟩ | ⟨a, _⟩ | ⟨a, _⟩
  · exact a
  · have a : mw = 0 := a
    subst a
    exact absurd (show (0 : Int32) ≤ 0 by decide) hn
  · have a : mw = 1 := a
    subst a
    exact absurd (show (0 : Int32) ≤ 1 by decide) hn
theorem pr_serve {i : Nat} (hi : i < 512) {X : Co} {Z : Zs} (h : Rel i X Z none) (hm : X.2.2.2.2.2.2.2.2.2.2.1 = -1) {q0 q1 q2 : Int32} (hq : Stk q0 q1 q2) :
    ∃ (v : Int32) (X' : Co) (Z' : Zs) (b' : Lb), xX2_serve q0 q1 q2 X = (0, v, X') ∧ ((Z.2.2.1 = 0 ∧ fX4_serve_0 q0 q1 q2 Z = (v, Z', some b')) ∨ (Z.2.2.1 = 1 ∧ fX4_serve_1 q0 q1 q2 Z = (v, Z', some b'))) ∧ Rel (i + 1) X' Z' (some b') ∧ Tr X X' := by
  obtain ⟨p1, g1, r1, k1, p2, g2, r2, k2, bs, be, ba, bt, sv, ra, sk, go, mw, wr, ws, le, wg, tu, sk', is, h1, h2, h3, h4, h5, h6⟩ := h
  subst h1 h2
  rcases h5 with ⟨ha, hb, _⟩ | ⟨_, _, _, _, _, _, hb⟩
  · subst ha
    rcases h3 with rfl | rfl
    · obtain ⟨X', Z', b', e1, e2, e3, e4⟩ := pr_serve0 (i := i) hi (k1 := k1) (k2 := k2) (le := le) (tu := tu) (sk' := sk') (bs := bs) (be := be) (ba := ba) (bt := bt) h4 hb h6 hm hq
      exact ⟨0, X', Z', b', e1, Or.inl ⟨rfl, e2⟩, e3, e4⟩
    · obtain ⟨X', Z', b', e1, e2, e3, e4⟩ := pr_serve1 (i := i) hi (k1 := k1) (k2 := k2) (le := le) (tu := tu) (sk' := sk') (bs := bs) (be := be) (ba := ba) (bt := bt) h4 hb h6 hm hq
      exact ⟨1, X', Z', b', e1, Or.inr ⟨rfl, e2⟩, e3, e4⟩
  · exact absurd hb (fun h => nomatch h)
theorem Rel.off {i : Nat} {X : Co} {Z : Zs} (h : Rel i X Z none) : X.2.2.2.2.2.2.2.1 = 0 := by
  obtain ⟨p1, g1, r1, k1, p2, g2, r2, k2, bs, be, ba, bt, sv, ra, sk, go, mw, wr, ws, le, wg, tu, sk', is, h1, h2, h3, h4, h5, h6⟩ := h
  subst h1 h2
  rcases h5 with ⟨ha, _⟩ | ⟨_, _, _, _, _, _, hb⟩
  · exact ha
  · exact absurd hb (fun h => nomatch h)
theorem Rel.ron {i : Nat} {X : Co} {Z : Zs} {b : Lb} (h : Rel i X Z (some b)) : ¬ X.2.2.2.2.2.2.2.1 = 0 := by
  obtain ⟨p1, g1, r1, k1, p2, g2, r2, k2, bs, be, ba, bt, sv, ra, sk, go, mw, wr, ws, le, wg, tu, sk', is, h1, h2, h3, h4, h5, h6⟩ := h
  subst h1 h2
  rcases h5 with ⟨_, _, _, hb⟩ | ⟨ha, _⟩
  · exact absurd hb (fun h => nomatch h)
  · intro hz
    have hz : ra = 0 := hz
    rw [hz] at ha
    exact absurd ha (by decide)
theorem ac_b (p : Int32) : -2 ≤ (fL_below p 5 - 2).toInt ∧ (fL_below p 5 - 2).toInt ≤ 2 := by
  obtain ⟨j, hj, e⟩ := below_b p (d := 5) (by omega) (by omega)
  rw [show (5 : Int32) = nI 5 from by decide, e, ksub (by rw [nI_toInt (by omega), n2]; omega) (by rw [nI_toInt (by omega), n2]; omega), nI_toInt (by omega), n2]
  omega
theorem al_b (p : Int32) : -2 ≤ (-1 - fL_below p 2).toInt ∧ (-1 - fL_below p 2).toInt ≤ 2 := by
  obtain ⟨j, hj, e⟩ := below_b p (d := 2) (by omega) (by omega)
  rw [show (2 : Int32) = nI 2 from by decide, e, ksub (by rw [nI_toInt (by omega), nm1]; omega) (by rw [nI_toInt (by omega), nm1]; omega), nI_toInt (by omega), nm1]
  omega
theorem ri_b (p : Int32) : 0 ≤ (fL_below p 10).toInt ∧ (fL_below p 10).toInt ≤ 9 := by
  obtain ⟨j, hj, e⟩ := below_b p (d := 10) (by omega) (by omega)
  rw [show (10 : Int32) = nI 10 from by decide, e, nI_toInt (by omega)]
  omega
theorem ri_c (p : Int32) : 0 ≤ (4 + fL_below p 6).toInt ∧ (4 + fL_below p 6).toInt ≤ 9 := by
  obtain ⟨j, hj, e⟩ := below_b p (d := 6) (by omega) (by omega)
  rw [show (6 : Int32) = nI 6 from by decide, e, kadd (by rw [nI_toInt (by omega), n4]; omega) (by rw [nI_toInt (by omega), n4]; omega), nI_toInt (by omega), n4]
  omega
theorem side_b (p : Int32) : fL_below p 2 = 0 ∨ fL_below p 2 = 1 := by
  obtain ⟨j, hj, e⟩ := below_b p (d := 2) (by omega) (by omega)
  rw [show (2 : Int32) = nI 2 from by decide, e]
  rcases (show j = 0 ∨ j = 1 by omega) with rfl | rfl
  · exact Or.inl (by decide)
  · exact Or.inr (by decide)