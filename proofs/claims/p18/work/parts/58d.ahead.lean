/-! asking ahead: what is told, and that it changes nothing but two balls that nobody looks at -/
def XX (X : Co) (a t : Ba) : Co := (X.1, X.2.1, X.2.2.1, X.2.2.2.1, a, t, X.2.2.2.2.2.2)
theorem XX_XX (X : Co) (a t a' t' : Ba) : XX (XX X a t) a' t' = XX X a' t' := rfl
theorem XX_self (X : Co) : XX X X.2.2.2.2.1 X.2.2.2.2.2.1 = X := rfl
theorem Rel.XX {i : Nat} {X : Co} {Z : Zs} {β : Option Lb} (h : Rel i X Z β) (a t : Ba) : Rel i (XX X a t) Z β := by
  obtain ⟨p1, g1, r1, k1, p2, g2, r2, k2, bs, be, ba, bt, sv, ra, sk, go, mw, wr, ws, le, wg, tu, sk', is, h1, h2, h3, h4, h5, h6⟩ := h
  subst h1
  exact ⟨p1, g1, r1, k1, p2, g2, r2, k2, bs, be, a, t, sv, ra, sk, go, mw, wr, ws, le, wg, tu, sk', is, rfl, h2, h3, h4, h5, h6⟩
theorem digest_XX (X : Co) (a t : Ba) : fX2_digest (XX X a t) = fX2_digest X := by
  unfold fX2_digest
  rw [show fX2_count_0 (XX X a t) = fX2_count_0 X from rfl, show fX2_count_1 (XX X a t) = fX2_count_1 X from rfl, show fX2_count_2 (XX X a t) = fX2_count_2 X from rfl, show fX2_count_3 (XX X a t) = fX2_count_3 X from rfl, show fX2_count_4 (XX X a t) = fX2_count_4 X from rfl, show fX2_count_5 (XX X a t) = fX2_count_5 X from rfl, show fX2_count_6 (XX X a t) = fX2_count_6 X from rfl, show fX2_count_7 (XX X a t) = fX2_count_7 X from rfl, show fX2_count_8 (XX X a t) = fX2_count_8 X from rfl,
    show fX2_told_00 (XX X a t) = fX2_told_00 X from rfl, show fX2_told_01 (XX X a t) = fX2_told_01 X from rfl, show fX2_told_02 (XX X a t) = fX2_told_02 X from rfl, show fX2_told_03 (XX X a t) = fX2_told_03 X from rfl, show fX2_told_10 (XX X a t) = fX2_told_10 X from rfl, show fX2_told_11 (XX X a t) = fX2_told_11 X from rfl, show fX2_told_12 (XX X a t) = fX2_told_12 X from rfl, show fX2_told_13 (XX X a t) = fX2_told_13 X from rfl,
    show fX2_ball_0 (XX X a t) = fX2_ball_0 X from rfl, show fX2_ball_1 (XX X a t) = fX2_ball_1 X from rfl, show fX2_ball_2 (XX X a t) = fX2_ball_2 X from rfl, show fX2_ball_3 (XX X a t) = fX2_ball_3 X from rfl, show fX2_ball_4 (XX X a t) = fX2_ball_4 X from rfl, show fX2_ball_5 (XX X a t) = fX2_ball_5 X from rfl,
    show fX2_end_0 (XX X a t) = fX2_end_0 X from rfl, show fX2_end_1 (XX X a t) = fX2_end_1 X from rfl, show fX2_end_2 (XX X a t) = fX2_end_2 X from rfl, show fX2_end_3 (XX X a t) = fX2_end_3 X from rfl, show fX2_end_4 (XX X a t) = fX2_end_4 X from rfl]
theorem lka {k : Nat} (hk : k ≤ 60) : ¬ fX2_isLookAhead (nI k) = 0 := by
  unfold fX2_isLookAhead
  rw [if_neg (by rw [kltI, n0, nI_toInt (by omega)]; omega), if_neg (by rw [kltI, n60, nI_toInt (by omega)]; omega)]
  exact d10
theorem nIn {k : Nat} (hk : k < 2 ^ 31) : (nI k).toInt.toNat = k := by rw [nI_toInt hk]; rfl
/-- the flight, told or not told any more -/
theorem flight_sh {i : Nat} (hi : i ≤ 512) {X : Co} {Z : Zs} {β : Option Lb} (h : Rel i X Z β) (hr : ¬ X.2.2.2.2.2.2.2.1 = 0) {k : Nat} (hk : k ≤ 60) (a t : Ba) (f : Ba → Int32) (F : Int32 → Co → Int32 × Int32 × Co)
    (hF : ∀ p Y, F p Y = if fX2_isLookAhead p = 0 then (1, 0, Y) else (if Y.2.2.2.2.2.2.2.1 = 0 then (0, (-99), Y) else (if fX2_isEndedBy p Y = 0 then (0, f (fX2_lookAhead p Y).2.2.2.2.1, fX2_lookAhead p Y) else (0, (-99), Y)))) :
    (en (iterE k X.2.2.1) = 0 → F (nI k) (XX X a t) = (0, f (iterE k X.2.2.1), XX X (iterE k X.2.2.1) t)) ∧ (¬ en (iterE k X.2.2.1) = 0 → F (nI k) (XX X a t) = (0, (-99), XX X a t)) := by
  obtain ⟨l1, l2⟩ := look_br hi (h.XX a t) hr (p0 := nI k) (by rw [nI_toInt (by omega)]; omega)
  rw [nIn (by omega)] at l1 l2
  rw [hF, if_neg (lka hk), if_neg (show ¬ (XX X a t).2.2.2.2.2.2.2.1 = 0 from hr)]
  have l1' : fX2_lookAhead (nI k) (XX X a t) = XX X (iterE k X.2.2.1) t := l1
  rcases l2 with ⟨c1, c2, c3⟩ | ⟨c1, c2, c3, c4⟩
  · refine ⟨fun _ => ?_, fun hn => absurd c2 hn⟩
    rw [if_pos c1, l1']
    rfl
  · have c3' : iterE k X.2.2.1 = X.2.2.2.1 := c3
    refine ⟨fun hz => ?_, fun _ => ?_⟩
    · rw [c3'] at hz
      exact absurd hz c2
    · rw [if_neg (by rw [c1]; exact d10)]

theorem flight_0 {i : Nat} (hi : i ≤ 512) {X : Co} {Z : Zs} {β : Option Lb} (h : Rel i X Z β) (hr : ¬ X.2.2.2.2.2.2.2.1 = 0) {k : Nat} (hk : k ≤ 60) (a t : Ba) :
    (en (iterE k X.2.2.1) = 0 → xX2_flight_0 (nI k) (XX X a t) = (0, (iterE k X.2.2.1).1, XX X (iterE k X.2.2.1) t)) ∧ (¬ en (iterE k X.2.2.1) = 0 → xX2_flight_0 (nI k) (XX X a t) = (0, (-99), XX X a t)) :=
  flight_sh hi h hr hk a t (fun b => b.1) xX2_flight_0 (fun _ _ => rfl)

theorem flight_1 {i : Nat} (hi : i ≤ 512) {X : Co} {Z : Zs} {β : Option Lb} (h : Rel i X Z β) (hr : ¬ X.2.2.2.2.2.2.2.1 = 0) {k : Nat} (hk : k ≤ 60) (a t : Ba) :
    (en (iterE k X.2.2.1) = 0 → xX2_flight_1 (nI k) (XX X a t) = (0, (iterE k X.2.2.1).2.1, XX X (iterE k X.2.2.1) t)) ∧ (¬ en (iterE k X.2.2.1) = 0 → xX2_flight_1 (nI k) (XX X a t) = (0, (-99), XX X a t)) :=
  flight_sh hi h hr hk a t (fun b => b.2.1) xX2_flight_1 (fun _ _ => rfl)

theorem flight_2 {i : Nat} (hi : i ≤ 512) {X : Co} {Z : Zs} {β : Option Lb} (h : Rel i X Z β) (hr : ¬ X.2.2.2.2.2.2.2.1 = 0) {k : Nat} (hk : k ≤ 60) (a t : Ba) :
    (en (iterE k X.2.2.1) = 0 → xX2_flight_2 (nI k) (XX X a t) = (0, (iterE k X.2.2.1).2.2.1, XX X (iterE k X.2.2.1) t)) ∧ (¬ en (iterE k X.2.2.1) = 0 → xX2_flight_2 (nI k) (XX X a t) = (0, (-99), XX X a t)) :=
  flight_sh hi h hr hk a t (fun b => b.2.2.1) xX2_flight_2 (fun _ _ => rfl)

theorem flight_3 {i : Nat} (hi : i ≤ 512) {X : Co} {Z : Zs} {β : Option Lb} (h : Rel i X Z β) (hr : ¬ X.2.2.2.2.2.2.2.1 = 0) {k : Nat} (hk : k ≤ 60) (a t : Ba) :
    (en (iterE k X.2.2.1) = 0 → xX2_flight_3 (nI k) (XX X a t) = (0, (iterE k X.2.2.1).2.2.2.1, XX X (iterE k X.2.2.1) t)) ∧ (¬ en (iterE k X.2.2.1) = 0 → xX2_flight_3 (nI k) (XX X a t) = (0, (-99), XX X a t)) :=
  flight_sh hi h hr hk a t (fun b => b.2.2.2.1) xX2_flight_3 (fun _ _ => rfl)

theorem flight_4 {i : Nat} (hi : i ≤ 512) {X : Co} {Z : Zs} {β : Option Lb} (h : Rel i X Z β) (hr : ¬ X.2.2.2.2.2.2.2.1 = 0) {k : Nat} (hk : k ≤ 60) (a t : Ba) :
    (en (iterE k X.2.2.1) = 0 → xX2_flight_4 (nI k) (XX X a t) = (0, (iterE k X.2.2.1).2.2.2.2.1, XX X (iterE k X.2.2.1) t)) ∧ (¬ en (iterE k X.2.2.1) = 0 → xX2_flight_4 (nI k) (XX X a t) = (0, (-99), XX X a t)) :=
  flight_sh hi h hr hk a t (fun b => b.2.2.2.2.1) xX2_flight_4 (fun _ _ => rfl)

theorem flight_5 {i : Nat} (hi : i ≤ 512) {X : Co} {Z : Zs} {β : Option Lb} (h : Rel i X Z β) (hr : ¬ X.2.2.2.2.2.2.2.1 = 0) {k : Nat} (hk : k ≤ 60) (a t : Ba) :
    (en (iterE k X.2.2.1) = 0 → xX2_flight_5 (nI k) (XX X a t) = (0, (iterE k X.2.2.1).2.2.2.2.2.1, XX X (iterE k X.2.2.1) t)) ∧ (¬ en (iterE k X.2.2.1) = 0 → xX2_flight_5 (nI k) (XX X a t) = (0, (-99), XX X a t)) :=
  flight_sh hi h hr hk a t (fun b => b.2.2.2.2.2.1) xX2_flight_5 (fun _ _ => rfl)

theorem flight_6 {i : Nat} (hi : i ≤ 512) {X : Co} {Z : Zs} {β : Option Lb} (h : Rel i X Z β) (hr : ¬ X.2.2.2.2.2.2.2.1 = 0) {k : Nat} (hk : k ≤ 60) (a t : Ba) :
    (en (iterE k X.2.2.1) = 0 → xX2_flight_6 (nI k) (XX X a t) = (0, (iterE k X.2.2.1).2.2.2.2.2.2.1, XX X (iterE k X.2.2.1) t)) ∧ (¬ en (iterE k X.2.2.1) = 0 → xX2_flight_6 (nI k) (XX X a t) = (0, (-99), XX X a t)) :=
  flight_sh hi h hr hk a t (fun b => b.2.2.2.2.2.2.1) xX2_flight_6 (fun _ _ => rfl)

theorem flight_7 {i : Nat} (hi : i ≤ 512) {X : Co} {Z : Zs} {β : Option Lb} (h : Rel i X Z β) (hr : ¬ X.2.2.2.2.2.2.2.1 = 0) {k : Nat} (hk : k ≤ 60) (a t : Ba) :
    (en (iterE k X.2.2.1) = 0 → xX2_flight_7 (nI k) (XX X a t) = (0, (iterE k X.2.2.1).2.2.2.2.2.2.2.1, XX X (iterE k X.2.2.1) t)) ∧ (¬ en (iterE k X.2.2.1) = 0 → xX2_flight_7 (nI k) (XX X a t) = (0, (-99), XX X a t)) :=
  flight_sh hi h hr hk a t (fun b => b.2.2.2.2.2.2.2.1) xX2_flight_7 (fun _ _ => rfl)

theorem flight_8 {i : Nat} (hi : i ≤ 512) {X : Co} {Z : Zs} {β : Option Lb} (h : Rel i X Z β) (hr : ¬ X.2.2.2.2.2.2.2.1 = 0) {k : Nat} (hk : k ≤ 60) (a t : Ba) :
    (en (iterE k X.2.2.1) = 0 → xX2_flight_8 (nI k) (XX X a t) = (0, (iterE k X.2.2.1).2.2.2.2.2.2.2.2.1, XX X (iterE k X.2.2.1) t)) ∧ (¬ en (iterE k X.2.2.1) = 0 → xX2_flight_8 (nI k) (XX X a t) = (0, (-99), XX X a t)) :=
  flight_sh hi h hr hk a t (fun b => b.2.2.2.2.2.2.2.2.1) xX2_flight_8 (fun _ _ => rfl)

/-- where a stroke would come -/
def PB (i : Nat) (P : Int32 × Int32 × Int32) : Prop := 0 ≤ P.1.toInt ∧ P.1.toInt ≤ 11 ∧ 0 ≤ P.2.1.toInt ∧ P.2.1.toInt ≤ 29 ∧ fX0_isButtress P.1 P.2.1 = 0 ∧ P.2.2.toInt ≤ 8000 + 45 * (i + 1 : Int)
def La (P : Int32 × Int32 × Int32) (q0 q1 q2 : Int32) : Ba := (P.1, P.2.1, (if P.2.2 < 1 then 1 else P.2.2), q0, q1, q2, 0, 0, 0, 0, 0)
theorem La_good {i : Nat} {P : Int32 × Int32 × Int32} {q0 q1 q2 : Int32} (h : PB i P) (hq : Stk q0 q1 q2) : Good (i + 1) (La P q0 q1 q2) ∧ FN (i + 1) (La P q0 q1 q2) := by
  have hG : Good (i + 1) (La P q0 q1 q2) := launch_good h.1 h.2.1 h.2.2.1 h.2.2.2.1 h.2.2.2.2.2 hq
  exact ⟨hG, hG.fl, h.2.2.2.2.1⟩
theorem place_br {i : Nat} {X : Co} {Z : Zs} {β : Option Lb} (hi : i < 512) (h : Rel i X Z β) {k : Nat} (hk : k ≤ 60) :
    ∃ (f : Int32) (P : Int32 × Int32 × Int32), (f = 0 ∨ f = 1) ∧ (f = 1 → PB i P) ∧ (∀ a t : Ba, ∃ a' : Ba, fX2_placeAhead (nI k) (XX X a t) = (f, XX X a' t) ∧ (f = 1 → (a'.1, a'.2.1, a'.2.2.1) = P)) ∧
      (¬ X.2.2.2.2.2.2.2.1 = 0 → 0 < k → en (iterE k X.2.2.1) = 0 → (f = 1 ↔ ¬ (iterE k X.2.2.1).2.2.2.2.2.2.1 ≤ 0)) := by
  by_cases hr : X.2.2.2.2.2.2.2.1 = 0
  · have e : ∀ a t : Ba, fX2_placeAhead (nI k) (XX X a t) = if nI k = 0 then (if fX2_isMatchOver (XX X (fX0_placeToServe a) t) = 0 then (1, XX X (fX0_placeToServe a) t) else (0, XX X (fX0_placeToServe a) t)) else (0, XX X (fX0_placeToServe a) t) := fun a t => if_pos hr
    by_cases h0 : nI k = 0
    · by_cases hm : X.2.2.2.2.2.2.2.2.2.2.1 = -1
      · refine ⟨1, (6, 14, 3), Or.inr rfl, fun _ => ⟨by decide, by decide, by decide, by decide, by decide, by show (3 : Int32).toInt ≤ _; rw [n3]; omega⟩, fun a t => ⟨fX0_placeToServe a, ?_, fun _ => rfl⟩, fun hn => absurd hr hn⟩
        rw [e, if_pos h0, if_pos (show fX2_isMatchOver (XX X (fX0_placeToServe a) t) = 0 from if_pos hm)]
      · refine ⟨0, (6, 14, 3), Or.inl rfl, fun hz => absurd hz (by decide), fun a t => ⟨fX0_placeToServe a, ?_, fun _ => rfl⟩, fun hn => absurd hr hn⟩
        have e1 : ¬ fX2_isMatchOver (XX X (fX0_placeToServe a) t) = 0 := by
          rw [show fX2_isMatchOver (XX X (fX0_placeToServe a) t) = 1 from if_neg hm]
          exact d10
        rw [e, if_pos h0, if_neg e1]
    · refine ⟨0, (6, 14, 3), Or.inl rfl, fun hz => absurd hz (by decide), fun a t => ⟨fX0_placeToServe a, ?_, fun _ => rfl⟩, fun hn => absurd hr hn⟩
      rw [e, if_neg h0]
  · have e : ∀ a t : Ba, fX2_placeAhead (nI k) (XX X a t) = if nI k = 0 then (0, XX X a t) else (if fX2_isEndedBy (nI k) (XX X a t) = 0 then (if (fX2_lookAhead (nI k) (XX X a t)).2.2.2.2.1.2.2.2.2.2.2.1 ≤ 0 then (0, fX2_lookAhead (nI k) (XX X a t)) else (1, fX2_lookAhead (nI k) (XX X a t))) else (0, XX X a t)) := fun a t => if_neg hr
    by_cases h0 : nI k = 0
    · refine ⟨0, (6, 14, 3), Or.inl rfl, fun hz => absurd hz (by decide), fun a t => ⟨a, ?_, fun hz => absurd hz (by decide)⟩, fun _ h9 _ => ?_⟩
      · rw [e, if_pos h0]
      · rw [keqI, n0, nI_toInt (by omega)] at h0
        omega
    · have L := fun a t => look_br (i := i) (by omega) (h.XX a t) hr (p0 := nI k) (by rw [nI_toInt (by omega)]; omega)
      rw [nIn (by omega)] at L
      have L1 : ∀ a t, fX2_lookAhead (nI k) (XX X a t) = XX X (iterE k X.2.2.1) t := fun a t => (L a t).1
      by_cases hz : en (iterE k X.2.2.1) = 0
      · have E1 : ∀ a t, fX2_isEndedBy (nI k) (XX X a t) = 0 := fun a t => by
          rcases (L a t).2 with ⟨c1, _⟩ | ⟨_, c2, c3, _⟩
          · exact c1
          · have c3' : iterE k X.2.2.1 = X.2.2.2.1 := c3
            rw [c3'] at hz
            exact absurd hz c2
        have hB : FN i (iterE k X.2.2.1) := by
          rcases (L X.2.2.2.2.1 X.2.2.2.2.2.1).2 with ⟨_, _, c⟩ | ⟨_, c2, c3, _⟩
          · exact c
          · have c3' : iterE k X.2.2.1 = X.2.2.2.1 := c3
            rw [c3'] at hz
            exact absurd hz c2
        obtain ⟨lo1, lo2, lo3, lo4⟩ := Fl.low (by omega) hB.1
        by_cases hf : (iterE k X.2.2.1).2.2.2.2.2.2.1 ≤ 0
        · refine ⟨0, (6, 14, 3), Or.inl rfl, fun hz => absurd hz (by decide), fun a t => ⟨iterE k X.2.2.1, ?_, fun hz => absurd hz (by decide)⟩, fun _ _ _ => ⟨fun hz => absurd hz (by decide), fun hz => absurd hf hz⟩⟩
          rw [e, if_neg h0, if_pos (E1 a t), L1]
          exact if_pos hf
        · refine ⟨1, _, Or.inr rfl, ?_, fun a t => ⟨iterE k X.2.2.1, ?_, fun _ => rfl⟩, fun _ _ _ => ⟨fun _ => hf, fun _ => rfl⟩⟩
          · intro _
            exact ⟨hB.1.1.1, hB.1.1.2.1, hB.1.1.2.2.1, hB.1.1.2.2.2.1, hB.2, lo4⟩
          · rw [e, if_neg h0, if_pos (E1 a t), L1]
            exact if_neg hf
      · refine ⟨0, (6, 14, 3), Or.inl rfl, fun hz => absurd hz (by decide), fun a t => ⟨a, ?_, fun hz => absurd hz (by decide)⟩, fun _ _ h9 => absurd h9 hz⟩
        have E1 : fX2_isEndedBy (nI k) (XX X a t) = 1 := by
          rcases (L a t).2 with ⟨_, c2, _⟩ | ⟨c1, _⟩
          · exact absurd c2 hz
          · exact c1
        rw [e, if_neg h0, if_neg (by rw [E1]; exact d10)]
/-- the end of a stroke tried: the same however the two balls stand -/
theorem would_br {i : Nat} {X : Co} (hi : i < 512) {k : Nat} (hk : k ≤ 60) {f : Int32} {P : Int32 × Int32 × Int32} (hf : f = 0 ∨ f = 1) (hP : f = 1 → PB i P) (hA : ∀ a t : Ba, ∃ a' : Ba, fX2_placeAhead (nI k) (XX X a t) = (f, XX X a' t) ∧ (f = 1 → (a'.1, a'.2.1, a'.2.2.1) = P)) {q0 q1 q2 : Int32} (hq : Stk q0 q1 q2) (a t : Ba) :
    ∃ a' t' : Ba, xX2_would (nI k) q0 q1 q2 (XX X a t) = (0, (if f = 0 then -1 else en (iterE 1000 (La P q0 q1 q2))), XX X a' t') := by
  obtain ⟨a', e1, e2⟩ := hA a t
  unfold xX2_would
  rw [if_neg (lka hk), if_neg (stroke_1 hq), e1]
  rcases hf with rfl | rfl
  · exact ⟨a', t, rfl⟩
  · rw [if_neg (show ¬ ((1 : Int32), XX X a' t).1 = 0 from d10), if_neg d10]
    have hL : fX0_launch q0 q1 q2 (fX0_become t a') = La P q0 q1 q2 := by
      rw [← e2 rfl]
      rfl
    have hfl := (fly_all (i := i + 1) (by omega) (La_good (hP rfl) hq).2).1
    refine ⟨a', iterE 1000 (La P q0 q1 q2), ?_⟩
    show (0, en (fX0_fly 1000000 (fX0_launch q0 q1 q2 (fX0_become t a'))), XX X a' (fX0_fly 1000000 (fX0_launch q0 q1 q2 (fX0_become t a')))) = _
    rw [hL, hfl]

theorem mom_b {i : Nat} (hi : i ≤ 512) {b : Ba} (hg : Good i b) (hN : NB b) : 1 ≤ (mom (iterE 1000 b)).toInt ∧ (mom (iterE 1000 b)).toInt ≤ 512 := by
  obtain ⟨T, t1, t2, t3, t4, t5⟩ := end_at hi ⟨hg.fl, hN⟩
  have h1 : iterE 1000 b = iterE T b := iterE_far t3 (by omega)
  have h2 : (mom (iterE T b)).toInt = (T : Int) := by
    rw [t5, hg.mom0, Int32.zero_add]
    exact nIi (by omega)
  rw [h1, h2]
  omega
def wA (w : Nat) : Int32 := nI (w / 50) - 2
def wL (w : Nat) : Int32 := nI (w / 10 % 5) - 2
def wR (w : Nat) : Int32 := nI (w % 10)
theorem way1 {w : Nat} (h : w < 250) : nI w / 50 - 2 = wA w ∧ (nI w / 10 - nI w / 10 / 5 * 5) - 2 = wL w ∧ nI w - nI w / 10 * 10 = wR w ∧ 50 * (wA w + 2) + 10 * (wL w + 2) + wR w = nI w ∧ ¬ 9 < wR w ∧ ¬ nI w = -1 ∧ ¬ 250 ≤ nI w := by
  have h2 : ∀ w : Fin 250, nI w.val / 50 - 2 = wA w.val ∧ (nI w.val / 10 - nI w.val / 10 / 5 * 5) - 2 = wL w.val ∧ nI w.val - nI w.val / 10 * 10 = wR w.val ∧ 50 * (wA w.val + 2) + 10 * (wL w.val + 2) + wR w.val = nI w.val ∧ ¬ 9 < wR w.val ∧ ¬ nI w.val = -1 ∧ ¬ 250 ≤ nI w.val := by decide +kernel
  exact h2 ⟨w, h⟩

theorem way2 {w : Nat} (h : w < 250) : Stk (wA w) (wL w) (wR w) := by
  have h2 : ∀ w : Fin 250, -2 ≤ (wA w.val).toInt ∧ (wA w.val).toInt ≤ 2 ∧ -2 ≤ (wL w.val).toInt ∧ (wL w.val).toInt ≤ 2 ∧ 0 ≤ (wR w.val).toInt ∧ (wR w.val).toInt ≤ 9 := by decide +kernel
  exact h2 ⟨w, h⟩

theorem way3 {w : Nat} (h : w < 249) (h9 : ¬ w % 10 = 9) : wR w + 1 = wR (w + 1) ∧ wL w = wL (w + 1) ∧ wA w = wA (w + 1) := by
  have h2 : ∀ w : Fin 249, ¬ w.val % 10 = 9 → wR w.val + 1 = wR (w.val + 1) ∧ wL w.val = wL (w.val + 1) ∧ wA w.val = wA (w.val + 1) := by decide +kernel
  exact h2 ⟨w, h⟩ h9
theorem way4 {w : Nat} (h : w < 249) (h9 : w % 10 = 9) (h5 : ¬ w % 50 = 49) : 9 < wR w + 1 ∧ ¬ 2 < wL w + 1 ∧ wL w + 1 = wL (w + 1) ∧ 0 = wR (w + 1) ∧ wA w = wA (w + 1) := by
  have h2 : ∀ w : Fin 249, w.val % 10 = 9 → ¬ w.val % 50 = 49 → 9 < wR w.val + 1 ∧ ¬ 2 < wL w.val + 1 ∧ wL w.val + 1 = wL (w.val + 1) ∧ 0 = wR (w.val + 1) ∧ wA w.val = wA (w.val + 1) := by decide +kernel
  exact h2 ⟨w, h⟩ h9 h5
theorem way5 {w : Nat} (h : w < 249) (h5 : w % 50 = 49) : 9 < wR w + 1 ∧ 2 < wL w + 1 ∧ ¬ 2 < wA w + 1 ∧ -2 = wL (w + 1) ∧ 0 = wR (w + 1) ∧ wA w + 1 = wA (w + 1) := by
  have h2 : ∀ w : Fin 249, w.val % 50 = 49 → 9 < wR w.val + 1 ∧ 2 < wL w.val + 1 ∧ ¬ 2 < wA w.val + 1 ∧ -2 = wL (w.val + 1) ∧ 0 = wR (w.val + 1) ∧ wA w.val + 1 = wA (w.val + 1) := by decide +kernel
  exact h2 ⟨w, h⟩ h5
theorem SD0 (n : Nat) (v1 v2 v3 v4 v5 : Int32) (X : Co) : LX2_shortestDeadStroke (n + 1) 0 v1 v2 v3 v4 v5 X = if 2 < v3 then some (v1, X) else LX2_shortestDeadStroke n 1 v1 v2 v3 (-2) 0 X := rfl
theorem SD1 (n : Nat) (v1 v2 v3 v4 v5 : Int32) (X : Co) : LX2_shortestDeadStroke (n + 1) 1 v1 v2 v3 v4 v5 X = if 2 < v4 then LX2_shortestDeadStroke n 0 v1 v2 (v3 + 1) 0 0 X else LX2_shortestDeadStroke n 2 v1 v2 v3 v4 0 X := rfl
theorem SD2 (n : Nat) (v1 v2 v3 v4 v5 : Int32) (X : Co) : LX2_shortestDeadStroke (n + 1) 2 v1 v2 v3 v4 v5 X = if 9 < v5 then LX2_shortestDeadStroke n 1 v1 v2 v3 (v4 + 1) 0 X
    else if en (fX2_tryStroke v3 v4 v5 v2 X).2.2.2.2.2.1 = 3 then LX2_shortestDeadStroke n 2 (((50 * (v3 + 2)) + (10 * (v4 + 2))) + v5) (mom (fX2_tryStroke v3 v4 v5 v2 X).2.2.2.2.2.1 - 1) v3 v4 (v5 + 1) (fX2_tryStroke v3 v4 v5 v2 X)
    else LX2_shortestDeadStroke n 2 v1 v2 v3 v4 (v5 + 1) (fX2_tryStroke v3 v4 v5 v2 X) := rfl
theorem lm2 : ¬ (2 : Int32) < -2 := by decide
/-- on to the next way -/
theorem way_on {w : Nat} (h : w < 249) : ∃ k : Nat, k ≤ 4 ∧ ∀ (n : Nat) (v1 v2 : Int32) (X : Co), LX2_shortestDeadStroke (n + k) 2 v1 v2 (wA w) (wL w) (wR w + 1) X = LX2_shortestDeadStroke n 2 v1 v2 (wA (w + 1)) (wL (w + 1)) (wR (w + 1)) X := by
  by_cases h9 : w % 10 = 9
  · by_cases h5 : w % 50 = 49
    · obtain ⟨a1, a2, a3, a4, a5, a6⟩ := way5 h h5
      refine ⟨4, by omega, fun n v1 v2 X => ?_⟩
      rw [SD2, if_pos a1, SD1, if_pos a2, SD0, if_neg a3, SD1, if_neg lm2, a6, ← a4, ← a5]
    · obtain ⟨a1, a2, a3, a4, a5⟩ := way4 h h9 h5
      refine ⟨2, by omega, fun n v1 v2 X => ?_⟩
      rw [SD2, if_pos a1, SD1, if_neg a2, a3, ← a4, a5]
  · obtain ⟨a1, a2, a3⟩ := way3 h h9
    refine ⟨0, by omega, fun n v1 v2 X => ?_⟩
    rw [a1, a2, a3]
    rfl
theorem way_end (n : Nat) (v1 v2 : Int32) (X : Co) : LX2_shortestDeadStroke (n + 3) 2 v1 v2 (wA 249) (wL 249) (wR 249 + 1) X = some (v1, X) := by
  rw [SD2, if_pos (by decide), SD1, if_pos (by decide), SD0, if_pos (by decide)]

/-- what the search knows before the w-th way -/
def Inv (i : Nat) (P : Int32 × Int32 × Int32) (w : Nat) (v1 v2 : Int32) : Prop :=
  (v1 = -1 ∧ v2 = 1000000 ∧ ∀ u, u < w → ¬ en (iterE 1000 (La P (wA u) (wL u) (wR u))) = 3) ∨ (0 ≤ v2.toInt ∧ ∃ u, u < 250 ∧ v1 = nI u ∧ en (iterE 1000 (La P (wA u) (wL u) (wR u))) = 3)
theorem step_way {i : Nat} {X : Co} (hi : i < 512) {P : Int32 × Int32 × Int32} (hP : PB i P) {a : Ba} (ha : (a.1, a.2.1, a.2.2.1) = P) {w : Nat} (hw : w < 250) {v1 v2 : Int32} (hI : Inv i P w v1 v2) (t : Ba) :
    ∃ (v1' v2' : Int32) (t' : Ba), Inv i P (w + 1) v1' v2' ∧ ∀ n : Nat, LX2_shortestDeadStroke (n + 1) 2 v1 v2 (wA w) (wL w) (wR w) (XX X a t) = LX2_shortestDeadStroke n 2 v1' v2' (wA w) (wL w) (wR w + 1) (XX X a t') := by
  obtain ⟨b1, b2, b3, b4, b5, b6, b7⟩ := way1 hw
  obtain ⟨hG, hF⟩ := La_good hP (way2 hw)
  have hT : fX2_tryStroke (wA w) (wL w) (wR w) v2 (XX X a t) = XX X a (iterE v2.toInt.toNat (La P (wA w) (wL w) (wR w))) := by
    rw [← fly_eq, ← ha]
    rfl
  have S2 : ∀ n : Nat, LX2_shortestDeadStroke (n + 1) 2 v1 v2 (wA w) (wL w) (wR w) (XX X a t) = if en (iterE v2.toInt.toNat (La P (wA w) (wL w) (wR w))) = 3 then LX2_shortestDeadStroke n 2 (nI w) (mom (iterE v2.toInt.toNat (La P (wA w) (wL w) (wR w))) - 1) (wA w) (wL w) (wR w + 1) (XX X a (iterE v2.toInt.toNat (La P (wA w) (wL w) (wR w)))) else LX2_shortestDeadStroke n 2 v1 v2 (wA w) (wL w) (wR w + 1) (XX X a (iterE v2.toInt.toNat (La P (wA w) (wL w) (wR w)))) := by
    intro n
    rw [SD2, if_neg b5, hT, b4]
    rfl
  obtain ⟨mb1, mb2⟩ := mom_b (i := i + 1) (by omega) hG hF.2
  have hv2 : 0 ≤ v2.toInt := by
    rcases hI with ⟨_, e, _⟩ | ⟨e, _⟩
    · rw [e, nmill]; omega
    · exact e
  rcases ended (i := i + 1) (by omega) hG hF.2 hv2 with ⟨x1, x2, x3⟩ | ⟨x1, x2, x3⟩
  · refine ⟨v1, v2, _, ?_, fun n => by rw [S2, if_neg (by rw [x2]; decide)]⟩
    rcases hI with ⟨_, e, _⟩ | h
    · rw [kltI, e, nmill] at x1
      omega
    · exact Or.inr h
  · rw [x3] at S2
    by_cases h3 : en (iterE 1000 (La P (wA w) (wL w) (wR w))) = 3
    · refine ⟨nI w, mom (iterE 1000 (La P (wA w) (wL w) (wR w))) - 1, _, Or.inr ⟨?_, w, hw, rfl, h3⟩, fun n => by rw [S2, if_pos h3]⟩
      rw [ksub (by rw [n1]; omega) (by rw [n1]; omega), n1]
      omega
    · refine ⟨v1, v2, _, ?_, fun n => by rw [S2, if_neg h3]⟩
      rcases hI with ⟨e1, e2, e3⟩ | h
      · refine Or.inl ⟨e1, e2, fun u hu => ?_⟩
        by_cases hz : u < w
        · exact e3 u hz
        · rw [show u = w by omega]
          exact h3
      · exact Or.inr h
theorem loop_way {i : Nat} {X : Co} (hi : i < 512) {P : Int32 × Int32 × Int32} (hP : PB i P) {a : Ba} (ha : (a.1, a.2.1, a.2.2.1) = P) (r : Nat) : ∀ (w n : Nat) (v1 v2 : Int32) (t : Ba), w + r = 249 → 6 * r + 3 ≤ n → Inv i P (w + 1) v1 v2 →
    ∃ (v v2' : Int32) (t' : Ba), LX2_shortestDeadStroke n 2 v1 v2 (wA w) (wL w) (wR w + 1) (XX X a t) = some (v, XX X a t') ∧ Inv i P 250 v v2' := by
  induction r with
  | zero =>
    intro w n v1 v2 t h1 h2 h4
    have hw : w = 249 := by omega
    subst hw
    obtain ⟨n, rfl⟩ : ∃ k, n = k + 3 := ⟨n - 3, by omega⟩
    exact ⟨v1, v2, t, way_end n v1 v2 _, h4⟩
  | succ r ih =>
    intro w n v1 v2 t h1 h2 h4
    obtain ⟨k, k1, k2⟩ := way_on (w := w) (by omega)
    obtain ⟨n, rfl⟩ : ∃ j, n = j + 1 + k := ⟨n - 1 - k, by omega⟩
    obtain ⟨v1', v2', t', s1, s2⟩ := step_way (X := X) hi hP ha (w := w + 1) (by omega) h4 t
    rw [k2, s2]
    exact ih (w + 1) n v1' v2' t' (by omega) (by omega) s1
/-- the stroke that is advised -/
theorem advise_br {i : Nat} {X : Co} (hi : i < 512) {k : Nat} (hk : k ≤ 60) {f : Int32} {P : Int32 × Int32 × Int32} (hf : f = 0 ∨ f = 1) (hP : f = 1 → PB i P) (hA : ∀ a t : Ba, ∃ a' : Ba, fX2_placeAhead (nI k) (XX X a t) = (f, XX X a' t) ∧ (f = 1 → (a'.1, a'.2.1, a'.2.2.1) = P)) (a t : Ba) :
    ∃ (v : Int32) (a' t' : Ba), xX2_advise (nI k) (XX X a t) = (0, v, XX X a' t') ∧
      ((v = -1 ∧ (f = 0 ∨ ¬ en (iterE 1000 (La P 0 (-2) 9)) = 3)) ∨ (f = 1 ∧ ∃ u, u < 250 ∧ v = nI u ∧ en (iterE 1000 (La P (wA u) (wL u) (wR u))) = 3)) := by
  obtain ⟨a', e1, e2⟩ := hA a t
  unfold xX2_advise
  rw [if_neg (lka hk), e1]
  rcases hf with rfl | rfl
  · exact ⟨-1, a', t, rfl, Or.inl ⟨rfl, Or.inl rfl⟩⟩
  · rw [if_neg (show ¬ ((1 : Int32), XX X a' t).1 = 0 from d10)]
    obtain ⟨v1', v2', t', s1, s2⟩ := step_way (X := X) hi (hP rfl) (e2 rfl) (w := 0) (by omega) (v1 := -1) (v2 := 1000000) (Or.inl ⟨rfl, rfl, fun u hu => absurd hu (Nat.not_lt_zero _)⟩) t
    obtain ⟨v, v2, t2, r1, r2⟩ := loop_way (X := X) hi (hP rfl) (e2 rfl) 249 0 1997 v1' v2' t' (by omega) (by omega) s1
    have e3 : FX2_shortestDeadStroke (XX X a' t) = some (v, XX X a' t2) := by
      unfold FX2_shortestDeadStroke
      rw [SD0, if_neg lm2, SD1, if_neg lm2]
      exact (s2 1997).trans r1
    have e4 : fX2_shortestDeadStroke (XX X a' t) = (v, XX X a' t2) := keps (d := (0, XX X a' t)) e3
    refine ⟨v, a', t2, ?_, ?_⟩
    · show (0, (fX2_shortestDeadStroke (XX X a' t)).1, (fX2_shortestDeadStroke (XX X a' t)).2) = _
      rw [e4]
    · rcases r2 with ⟨x1, x2, x3⟩ | ⟨_, h⟩
      · exact Or.inl ⟨x1, Or.inr (x3 109 (by omega))⟩
      · exact Or.inr ⟨rfl, h⟩
