/-! a stroke tried, both sides -/
def Pos (i : Nat) (a : Ba) (q : M9) : Prop := a.1 = q.1 ∧ a.2.1 = q.2.1 ∧ a.2.2.1 = q.2.2.1 ∧ 0 ≤ a.1.toInt ∧ a.1.toInt ≤ 11 ∧ 0 ≤ a.2.1.toInt ∧ a.2.1.toInt ≤ 29 ∧ a.2.2.1.toInt ≤ 8000 + 45 * (i + 1 : Int)
def La (a : Ba) (q0 q1 q2 : Int32) : Ba := (a.1, a.2.1, (if a.2.2.1 < 1 then 1 else a.2.2.1), q0, q1, q2, 0, 0, 0, 0, 0)
theorem La_good {i : Nat} {a : Ba} {q : M9} {q0 q1 q2 : Int32} (h : Pos i a q) (hq : ¬ fX3_isStroke q0 q1 q2 = 0) : Good (i + 1) (La a q0 q1 q2) :=
  launch_good h.2.2.2.1 h.2.2.2.2.1 h.2.2.2.2.2.1 h.2.2.2.2.2.2.1 h.2.2.2.2.2.2.2 hq
theorem place_br {i : Nat} {X : Co} {Z : Mo} (hi : i < 512) (h : Rel i X Z) {p0 : Int32} (hp : 0 ≤ p0.toInt) :
    ∃ (a : Ba) (f : Int32) (q : M9) (m : Int32), fX2_placeAhead p0 X = (f, (X.1, X.2.1, X.2.2.1, X.2.2.2.1, a, X.2.2.2.2.2)) ∧ fX3_comes p0 Z = (f, sB Z q m) ∧ (f = 0 ∨ f = 1) ∧ (f = 1 → Pos i a q) := by
  unfold fX2_placeAhead fX3_comes
  by_cases hr : X.2.2.2.2.2.2.2.1 = 0
  · have hz : Z.2.2.2.2.2.2.2.2.1 = 0 := h.ra.trans hr
    rw [if_pos hr, if_pos hz]
    by_cases h0 : p0 = 0
    · rw [if_pos h0, if_pos h0]
      have hw : X.2.2.2.2.2.2.2.2.2.2.1 = fX3_winner Z := (count_all (by omega) h).2.2.2.2.2.2.2.1
      by_cases hm : X.2.2.2.2.2.2.2.2.2.2.1 = -1
      · have e1 : fX2_isMatchOver (X.1, X.2.1, X.2.2.1, X.2.2.2.1, fX0_placeToServe X.2.2.2.2.1, X.2.2.2.2.2) = 0 := if_pos hm
        have e2 : fX3_winner (fX3_putToServe Z) = -1 := hw.symm.trans hm
        rw [if_pos e1, if_pos e2]
        exact ⟨_, 1, (6, 14, 3, Z.2.2.2.2.2.1.2.2.2), _, rfl, rfl, Or.inr rfl, fun _ => ⟨rfl, rfl, rfl, by show 0 ≤ (6 : Int32).toInt; decide, by show (6 : Int32).toInt ≤ 11; decide, by show 0 ≤ (14 : Int32).toInt; decide, by show (14 : Int32).toInt ≤ 29; decide, by show (3 : Int32).toInt ≤ _; rw [n3]; omega⟩⟩
      · have e0 : fX2_isMatchOver (X.1, X.2.1, X.2.2.1, X.2.2.2.1, fX0_placeToServe X.2.2.2.2.1, X.2.2.2.2.2) = 1 := if_neg hm
        have e1 : ¬ fX2_isMatchOver (X.1, X.2.1, X.2.2.1, X.2.2.2.1, fX0_placeToServe X.2.2.2.2.1, X.2.2.2.2.2) = 0 := by rw [e0]; exact d10
        have e2 : ¬ fX3_winner (fX3_putToServe Z) = -1 := fun a => hm (hw.trans a)
        rw [if_neg e1, if_neg e2]
        exact ⟨_, 0, (6, 14, 3, Z.2.2.2.2.2.1.2.2.2), _, rfl, rfl, Or.inl rfl, fun a => absurd a.symm d10⟩
    · rw [if_neg h0, if_neg h0]
      exact ⟨_, 0, (6, 14, 3, Z.2.2.2.2.2.1.2.2.2), _, rfl, rfl, Or.inl rfl, fun a => absurd a.symm d10⟩
  · have hz : ¬ Z.2.2.2.2.2.2.2.2.1 = 0 := fun a => hr (h.ra.symm.trans a)
    rw [if_neg hr, if_neg hz]
    by_cases h0 : p0 = 0
    · rw [if_pos h0, if_pos (show p0 ≤ 0 by rw [h0]; decide)]
      exact ⟨X.2.2.2.2.1, 0, Z.2.2.2.2.2.1, Z.2.2.2.2.2.2.2.2.2.2.2.2.2.2.2.2.2, rfl, rfl, Or.inl rfl, fun a => absurd a.symm d10⟩
    · rw [if_neg h0, if_neg (show ¬ p0 ≤ 0 by rw [kleI, n0]; rw [keqI, n0] at h0; omega)]
      rcases look_br (i := i) (by omega) h hr hp with ⟨l1, B, l2, l3, l4⟩ | ⟨l1, l2, l3, l4⟩
      · obtain ⟨lo1, lo2, lo3, lo4⟩ := Fl.low (by omega) l4
        obtain ⟨⟨g1', g2', g3', g4', _, _, _, _⟩, _, _, _⟩ := l4
        rw [if_pos l1, l2, l3, if_pos (show ((0 : Int32), sB Z (c9 B) (mom B)).1 = 0 from rfl)]
        by_cases hf : B.2.2.2.2.2.2.1 ≤ 0
        · rw [if_pos hf, if_pos (show ((0 : Int32), sB Z (c9 B) (mom B)).2.2.2.2.2.2.1.2.2.2.2.2.2.1 ≤ 0 from hf)]
          exact ⟨B, 0, c9 B, mom B, rfl, rfl, Or.inl rfl, fun a => absurd a.symm d10⟩
        · rw [if_neg hf, if_neg (show ¬ ((0 : Int32), sB Z (c9 B) (mom B)).2.2.2.2.2.2.1.2.2.2.2.2.2.1 ≤ 0 from hf)]
          exact ⟨B, 1, c9 B, mom B, rfl, rfl, Or.inr rfl, fun _ => ⟨rfl, rfl, rfl, g1', g2', g3', g4', lo4⟩⟩
      · rw [if_neg (show ¬ fX2_isEndedBy p0 X = 0 by rw [l1]; exact d10), l2, if_neg (show ¬ (en X.2.2.2.1, sB Z (c9 X.2.2.2.1) (mom X.2.2.2.1)).1 = 0 from l3)]
        exact ⟨X.2.2.2.2.1, 0, _, _, rfl, rfl, Or.inl rfl, fun a => absurd a.symm d10⟩
theorem endOf_br {i : Nat} {Z : Mo} (hi : i < 512) {p0 q0 q1 q2 f m : Int32} {q : M9} {a : Ba} (hc : fX3_comes p0 Z = (f, sB Z q m)) (hf : f = 0 ∨ f = 1) (hP : f = 1 → Pos i a q) (hq : ¬ fX3_isStroke q0 q1 q2 = 0) :
    NX3_endOf p0 q0 q1 q2 Z ∧ ((f = 0 ∧ fX3_endOf p0 q0 q1 q2 Z = (-1, sB Z q m)) ∨
      (f = 1 ∧ Good (i + 1) (La a q0 q1 q2) ∧ fX3_endOf p0 q0 q1 q2 Z = (en (iterE 1000 (La a q0 q1 q2)), sB Z (c9 (iterE 1000 (La a q0 q1 q2))) (mom (iterE 1000 (La a q0 q1 q2)))))) := by
  rcases hf with hf | hf
  · subst hf
    have e1 : fX3_endOf p0 q0 q1 q2 Z = (-1, sB Z q m) := by
      unfold fX3_endOf
      rw [hc]
      exact if_pos rfl
    refine ⟨?_, Or.inl ⟨rfl, e1⟩⟩
    unfold NX3_endOf
    rw [hc]
    exact fun a => absurd rfl a
  · subst hf
    have hP := hP rfl
    have hG := La_good hP hq
    obtain ⟨x1, x2, x3, _⟩ := hP
    have e2 : (q.1, q.2.1, (if 1 < q.2.2.1 then q.2.2.1 else 1), q0, q1, q2, 0, 0, 0) = c9 (La a q0 q1 q2) := by
      rw [← x1, ← x2, ← x3, ← hei_eq]
      first | done | rfl
    have e1 : fX3_endOf p0 q0 q1 q2 Z = fX3_finish (sB Z (q.1, q.2.1, (if 1 < q.2.2.1 then q.2.2.1 else 1), q0, q1, q2, 0, 0, 0) 0) := by
      unfold fX3_endOf
      rw [hc]
      exact if_neg d10
    have f1 := finish_eq (i := i + 1) (by omega) Z hG.fl
    have f2 := finish_N (i := i + 1) (by omega) Z hG.fl
    rw [hG.mom0] at f1 f2
    rw [e1, e2]
    refine ⟨?_, Or.inr ⟨rfl, hG, f1⟩⟩
    unfold NX3_endOf
    rw [hc]
    intro _
    rw [← e2] at f2
    exact f2
theorem pr_would {i : Nat} {X : Co} {Y : Mo} (p0 p1 p2 p3 : Int32) (hi : i < 512) (h : Rel i X Y) : NX3_would p0 p1 p2 p3 Y ∧ kStep i X (xX2_would p0 p1 p2 p3 X) 1 9 9 (fX3_would p0 p1 p2 p3 Y) := by
  have hq0 : fX2_isLookAhead p0 = fX3_isIn p0 0 60 := rfl
  unfold NX3_would xX2_would fX3_would
  rw [hq0, stroke_eq]
  rcases isIn_br p0 0 60 with ⟨e, _⟩ | ⟨e, a1, a2⟩
  · refine ⟨fun a => absurd e a, ?_⟩
    rw [if_pos e, if_pos e]
    exact step_no h d10 rfl
  · have e' : ¬ fX3_isIn p0 0 60 = 0 := by rw [e]; exact d10
    rw [if_neg e', if_neg e']
    rw [n0] at a1
    by_cases hq : fX3_isStroke p1 p2 p3 = 0
    · refine ⟨fun _ a => absurd hq a, ?_⟩
      rw [if_pos hq, if_pos hq]
      exact step_no h d10 rfl
    · rw [if_neg hq, if_neg hq]
      obtain ⟨a, f, q, m, c1, c2, c3, c4⟩ := place_br hi (h.thr 0) (p0 := p0) a1
      obtain ⟨u1, u2⟩ := endOf_br (a := a) hi c2 c3 c4 hq
      unfold thr at u1 u2
      refine ⟨fun _ _ => u1, ?_⟩
      rw [c1]
      rcases u2 with ⟨v1, v2⟩ | ⟨v1, v2, v3⟩
      · rw [v2, if_pos (show (f, _).1 = 0 from v1)]
        exact step_ok rfl rfl (((h.thr 0).sB q m).look a X.2.2.2.2.2.1).mono
      · rw [v3, if_neg (show ¬ (f, _).1 = 0 by rw [v1]; exact d10)]
        have ha := (fly_all (i := i + 1) (by omega) v2.fl).1
        have ht : fX2_tryStroke p1 p2 p3 1000000 (X.1, X.2.1, X.2.2.1, X.2.2.2.1, a, X.2.2.2.2.2) = (X.1, X.2.1, X.2.2.1, X.2.2.2.1, a, iterE 1000 (La a p1 p2 p3), X.2.2.2.2.2.2) := by
          rw [← ha]
          rfl
        show kStep i X (0, (fX2_tryStroke p1 p2 p3 1000000 (X.1, X.2.1, X.2.2.1, X.2.2.2.1, a, X.2.2.2.2.2)).2.2.2.2.2.1.2.2.2.2.2.2.2.2.2.2, fX2_tryStroke p1 p2 p3 1000000 (X.1, X.2.1, X.2.2.1, X.2.2.2.1, a, X.2.2.2.2.2)) 1 9 9 _
        rw [ht]
        exact step_ok rfl rfl (((h.thr 0).sB _ _).look a (iterE 1000 (La a p1 p2 p3))).mono
