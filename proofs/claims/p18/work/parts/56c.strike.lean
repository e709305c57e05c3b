/-! a stroke, both sides -/
/-- the court looks ahead: still flying by then, or ended -/
theorem look_br {i : Nat} {X : Co} {Z : Zs} {β : Option Lb} (hi : i ≤ 512) (h : Rel i X Z β) (hr : ¬ X.2.2.2.2.2.2.2.1 = 0) {p0 : Int32} (hp : 0 ≤ p0.toInt) :
    fX2_lookAhead p0 X = (X.1, X.2.1, X.2.2.1, X.2.2.2.1, iterE p0.toInt.toNat X.2.2.1, X.2.2.2.2.2) ∧
    ((fX2_isEndedBy p0 X = 0 ∧ en (iterE p0.toInt.toNat X.2.2.1) = 0 ∧ FN i (iterE p0.toInt.toNat X.2.2.1)) ∨
     (fX2_isEndedBy p0 X = 1 ∧ ¬ en X.2.2.2.1 = 0 ∧ iterE p0.toInt.toNat X.2.2.1 = X.2.2.2.1 ∧ (en X.2.2.2.1 = 0 ∨ en X.2.2.2.1 = 1 ∨ en X.2.2.2.1 = 2 ∨ en X.2.2.2.1 = 3))) := by
  obtain ⟨h1, hg, hN, hb, -⟩ := h.on hr
  refine ⟨?_, ?_⟩
  · unfold fX2_lookAhead fX0_become
    rw [fly_eq]
  · have hk := (iter_fl hi 1000 X.2.2.1 ⟨hg.fl, hN⟩).1
    rw [← hb] at hk
    rcases ended hi hg hN hp with ⟨a, b, c⟩ | ⟨a, b, c⟩
    · rw [← hb] at a
      exact Or.inl ⟨if_pos a, b, c⟩
    · rw [← hb] at a c
      rw [c] at b
      exact Or.inr ⟨if_neg a, b, c, hk⟩
theorem c10_of (B : Ba) (q0 q1 q2 : Int32) : fX3_of (c10 B).1 (c10 B).2.1 (c10 B).2.2.1 q0 q1 q2 = fX3_of B.1 B.2.1 B.2.2.1 q0 q1 q2 := rfl
/-- struck again, or let -/
theorem strike_go {i : Nat} {X : Co} {Z : Zs} {b : Lb} {q0 q1 q2 : Int32} {B : Ba} (hi : i < 512) (h : Rel i X Z (some b)) (hr : ¬ X.2.2.2.2.2.2.2.1 = 0) (hB : FN i B) (hq : Stk q0 q1 q2) :
    (B.2.2.2.2.2.2.1 = 0 → ∃ (X' : Co) (Z' : Zs), fX2_replayRally (X.1, X.2.1, X.2.2.1, X.2.2.2.1, B, X.2.2.2.2.2) = X' ∧ (fX4_let Z).2 = Z' ∧ Rel (i + 1) X' Z' none ∧ Tr X X') ∧
    (∃ X' : Co, fX2_play (fX2_sideToStrike (X.1, X.2.1, B, X.2.2.2.1, B, X.2.2.2.2.2)) q0 q1 q2 (X.1, X.2.1, B, X.2.2.2.1, B, X.2.2.2.2.2) = X' ∧
      (Z.2.2.2.1 = 0 → Rel (i + 1) X' ((Z.1.1, Z.1.2.1, Z.1.2.2.1, (Z.1.2.2.2 + 1)), Z.2.1, Z.2.2.1, 1, (Z.2.2.2.2.1 + 1), Z.2.2.2.2.2) (some (fX3_of B.1 B.2.1 B.2.2.1 q0 q1 q2))) ∧
      (Z.2.2.2.1 = 1 → Rel (i + 1) X' (Z.1, (Z.2.1.1, Z.2.1.2.1, Z.2.1.2.2.1, (Z.2.1.2.2.2 + 1)), Z.2.2.1, 0, (Z.2.2.2.2.1 + 1), Z.2.2.2.2.2) (some (fX3_of B.1 B.2.1 B.2.2.1 q0 q1 q2))) ∧ Tr X X') := by
  obtain ⟨ht, h01⟩ := h.turn (by omega) hr
  obtain ⟨lo1, lo2, lo3, lo4⟩ := Fl.low (by omega) hB.1
  have hBN := hB.2
  obtain ⟨⟨⟨g1', g2', g3', g4', _, _, _, _⟩, _, _, _⟩, _⟩ := hB
  obtain ⟨co, ro, hh, ac, al, ri, fr, bo, to, mo', e⟩ := B
  obtain ⟨p1, g1, r1, k1, p2, g2, r2, k2, bs, be, ba, bt, sv, ra, sk, go, mw, wr, ws, le, wg, tu, sk', is, h1, h2, h3, h4, h5, h6⟩ := h
  subst h1 h2
  rcases h5 with ⟨ha, _⟩ | ⟨ha, hk, ⟨j, j1, j2, j3, j4⟩, hg, hN, hbe, hb⟩
  · exact absurd ha hr
  · have ha' : ra = 1 := ha
    subst ha'
    have hk' : sk' = sk := hk
    subst hk'
    refine ⟨fun hf => ⟨_, _, rfl, rfl, ⟨p1, g1, r1, k1, p2, g2, r2, k2, bs, be, _, bt, sv, 0, 0, go, mw, wr, ws, le + 1, wg, -1, sk', is, rfl, rfl, h3, h4.off, Or.inl ⟨rfl, rfl, rfl, rfl⟩, h6.let⟩, Or.inl rfl, fun _ => Or.inl rfl⟩, ?_⟩
    have ht2 : fX2_sideToStrike ((p1, g1, r1, k1), (p2, g2, r2, k2), (co, ro, hh, ac, al, ri, fr, bo, to, mo', e), be, (co, ro, hh, ac, al, ri, fr, bo, to, mo', e), bt, sv, 1, sk', go, mw, wr, ws, le, wg) = tu := turn_br (by omega) rfl j1 j4
    have ht3 : fX2_sideToStrike ((p1, g1, r1, k1), (p2, g2, r2, k2), bs, be, ba, bt, sv, 1, sk', go, mw, wr, ws, le, wg) = tu := ht
    have h01' : tu = 0 ∨ tu = 1 := h01
    have jn := turn_next h3 j4
    have js : sk' + 1 = nI (j + 1) := by rw [j1]; exact nIs j
    show ∃ X' : Co, fX2_play (fX2_sideToStrike ((p1, g1, r1, k1), (p2, g2, r2, k2), (co, ro, hh, ac, al, ri, fr, bo, to, mo', e), be, (co, ro, hh, ac, al, ri, fr, bo, to, mo', e), bt, sv, 1, sk', go, mw, wr, ws, le, wg)) q0 q1 q2 ((p1, g1, r1, k1), (p2, g2, r2, k2), (co, ro, hh, ac, al, ri, fr, bo, to, mo', e), be, (co, ro, hh, ac, al, ri, fr, bo, to, mo', e), bt, sv, 1, sk', go, mw, wr, ws, le, wg) = X' ∧ _
    rw [ht2]
    rcases h01' with h | h
    · subst h
      obtain ⟨X', e1, e2, e3, e4, e5⟩ := keep0 hi (k1 := k1) (k2 := k2) (le := le) (be := be) (ba := (co, ro, hh, ac, al, ri, fr, bo, to, mo', e)) (bt := bt) (ac := ac) (al := al) (ri := ri) (fr := fr) (bo := bo) (to := to) (mo := mo') (e := e) h3 h4 h6 g1' g2' g3' g4' hBN lo4 hq js (by omega) (by omega) (by rw [← jn]; decide)
      have w6 := congrArg (fun z : I9 => z.2.2.2.2.2.1) e4
      have w2 := congrArg (fun z : I9 => z.2.1) e4
      have w3 := congrArg (fun z : I9 => z.2.2.1) e4
      refine ⟨X', e1, fun _ => e5, fun hz => absurd hz (by show ¬ (0 : Int32) = 1; decide), Or.inl w6, fun _ => Or.inr ⟨w2, w3, ?_⟩⟩
      rw [ht3]
      have := turn_br (X := X') (sv := sv) (tu := 1 - 0) (j := j + 1) (by omega) (congrArg (fun z : I9 => z.1) e4) ((congrArg (fun z : I9 => z.2.2.1) e4).trans js) jn
      exact this
    · subst h
      obtain ⟨X', e1, e2, e3, e4, e5⟩ := keep1 hi (k1 := k1) (k2 := k2) (le := le) (be := be) (ba := (co, ro, hh, ac, al, ri, fr, bo, to, mo', e)) (bt := bt) (ac := ac) (al := al) (ri := ri) (fr := fr) (bo := bo) (to := to) (mo := mo') (e := e) h3 h4 h6 g1' g2' g3' g4' hBN lo4 hq js (by omega) (by omega) (by rw [← jn]; decide)
      have w6 := congrArg (fun z : I9 => z.2.2.2.2.2.1) e4
      have w2 := congrArg (fun z : I9 => z.2.1) e4
      have w3 := congrArg (fun z : I9 => z.2.2.1) e4
      refine ⟨X', e1, fun hz => absurd hz (by show ¬ (1 : Int32) = 0; decide), fun _ => e5, Or.inl w6, fun _ => Or.inr ⟨w2, w3, ?_⟩⟩
      rw [ht3]
      have := turn_br (X := X') (sv := sv) (tu := 1 - 1) (j := j + 1) (by omega) (congrArg (fun z : I9 => z.1) e4) ((congrArg (fun z : I9 => z.2.2.1) e4).trans js) jn
      exact this
theorem let_t (Z : Zs) (t : Int32) : (fX4_let (Z.1, Z.2.1, Z.2.2.1, t, Z.2.2.2.2)).2 = (fX4_let Z).2 := rfl
theorem pr_strike {i : Nat} (hi : i < 512) {X : Co} {Z : Zs} {b : Lb} (h : Rel i X Z (some b)) (hr : ¬ X.2.2.2.2.2.2.2.1 = 0) {p0 q0 q1 q2 : Int32} (hp1 : 1 ≤ p0.toInt) (hp2 : p0.toInt ≤ 60) (hq : Stk q0 q1 q2) :
    ∃ (v : Int32) (X' : Co) (Z' : Zs) (β' : Option Lb), xX2_strike p0 q0 q1 q2 X = (0, v, X') ∧ ((Z.2.2.2.1 = 0 ∧ fX4_strike_0 p0 q0 q1 q2 Z b = (v, Z', β')) ∨ (Z.2.2.2.1 = 1 ∧ fX4_strike_1 p0 q0 q1 q2 Z b = (v, Z', β'))) ∧ Rel (i + 1) X' Z' β' ∧ Tr X X' := by
  obtain ⟨a1, a2, a3, a4, a5⟩ := h.on hr
  have a5' : b = c10 X.2.2.1 := Option.some.inj a5
  subst a5'
  obtain ⟨ht, h01⟩ := h.turn (by omega) hr
  have hg := goN_eq (i := i) (by omega) ⟨a2.fl, a3⟩ p0
  obtain ⟨hl, hcase⟩ := look_br (by omega) h hr (p0 := p0) (by omega)
  have hx : xX2_strike p0 q0 q1 q2 X = if fX2_isEndedBy p0 X = 0 then (if (fX2_lookAhead p0 X).2.2.2.2.1.2.2.2.2.2.2.1 = 0 then (0, 1, (fX2_replayRally (fX2_lookAhead p0 X)))
      else (0, 0, (fX2_play (fX2_sideToStrike ((fX2_lookAhead p0 X).1, (fX2_lookAhead p0 X).2.1, (fX0_become (fX2_lookAhead p0 X).2.2.1 (fX2_lookAhead p0 X).2.2.2.2.1), (fX2_lookAhead p0 X).2.2.2)) q0 q1 q2 ((fX2_lookAhead p0 X).1, (fX2_lookAhead p0 X).2.1, (fX0_become (fX2_lookAhead p0 X).2.2.1 (fX2_lookAhead p0 X).2.2.2.2.1), (fX2_lookAhead p0 X).2.2.2))))
      else (0, (fX2_winRally (fX2_winnerByFlight X) X).1, (fX2_winRally (fX2_winnerByFlight X) X).2) := by
    unfold xX2_strike
    rw [if_neg (by rw [kltI, n1]; omega), if_neg (by rw [kltI, n60]; omega), if_neg (stroke_1 hq), if_neg hr]
  rw [hx]
  rcases hcase with ⟨c1, c2, c3⟩ | ⟨c1, c2, c3, c4⟩
  · rw [if_pos c1, hl]
    obtain ⟨s1, X', s2, s3, s4, s5⟩ := strike_go hi h hr c3 hq
    generalize iterE p0.toInt.toNat X.2.2.1 = B at hg s1 s2 s3 s4 c2 ⊢
    by_cases hf : B.2.2.2.2.2.2.1 = 0
    · obtain ⟨X'', Z'', t1, t2, t3, t4⟩ := s1 hf
      refine ⟨1, X'', Z'', none, ?_, ?_, t3, t4⟩
      · rw [← t1]
        exact if_pos hf
      · have key : ∀ t, (if (en B, c10 B).1 = 3 then ((fX4_over_1 (Z.1, Z.2.1, Z.2.2.1, t, Z.2.2.2.2)).1, (fX4_over_1 (Z.1, Z.2.1, Z.2.2.1, t, Z.2.2.2.2)).2, (none : Option Lb)) else (1, Z'', none)) = (1, Z'', none) := fun t => if_neg (show ¬ en B = 3 by rw [c2]; decide)
        rcases h01 with t | t
        · refine Or.inl ⟨t, ?_⟩
          unfold fX4_strike_0
          rw [hg, let_t, t2, if_neg (show ¬ (en B, c10 B).1 = 3 from by show ¬ en B = 3; rw [c2]; decide), if_pos (show (en B, c10 B).1 ≤ 0 by show en B ≤ 0; rw [c2]; decide), if_pos (show (en B, c10 B).2.2.2.2.2.2.2.1 = 0 from hf)]
        · refine Or.inr ⟨t, ?_⟩
          unfold fX4_strike_1
          rw [hg, let_t, t2, if_neg (show ¬ (en B, c10 B).1 = 3 from by show ¬ en B = 3; rw [c2]; decide), if_pos (show (en B, c10 B).1 ≤ 0 by show en B ≤ 0; rw [c2]; decide), if_pos (show (en B, c10 B).2.2.2.2.2.2.2.1 = 0 from hf)]
    · rcases h01 with t | t
      · refine ⟨0, X', _, _, ?_, Or.inl ⟨t, ?_⟩, s3 t, s5⟩
        · rw [← s2]
          exact if_neg hf
        · unfold fX4_strike_0
          rw [hg, if_neg (show ¬ (en B, c10 B).1 = 3 from by show ¬ en B = 3; rw [c2]; decide), if_pos (show (en B, c10 B).1 ≤ 0 by show en B ≤ 0; rw [c2]; decide), if_neg (show ¬ (en B, c10 B).2.2.2.2.2.2.2.1 = 0 from hf)]
      · refine ⟨0, X', _, _, ?_, Or.inr ⟨t, ?_⟩, s4 t, s5⟩
        · rw [← s2]
          exact if_neg hf
        · unfold fX4_strike_1
          rw [hg, if_neg (show ¬ (en B, c10 B).1 = 3 from by show ¬ en B = 3; rw [c2]; decide), if_pos (show (en B, c10 B).1 ≤ 0 by show en B ≤ 0; rw [c2]; decide), if_neg (show ¬ (en B, c10 B).2.2.2.2.2.2.2.1 = 0 from hf)]
  · rw [if_neg (by rw [c1]; exact d10)]
    rw [c3] at hg
    obtain ⟨v, X', Z', e1, e2, e3, e4⟩ := pr_end hi h hr (en X.2.2.2.1) rfl
    refine ⟨v, X', Z', none, congrArg (fun z : Int32 × Co => ((0 : Int32), z.1, z.2)) e1, ?_, e3, e4⟩
    have z1 : (1 : Int32) - 0 = 1 := by decide
    have z2 : (1 : Int32) - 1 = 0 := by decide
    have hle := en_le c4 c2
    rcases h01 with t | t
    · refine Or.inl ⟨t, ?_⟩
      unfold fX4_strike_0
      rw [hg, over_t0, over_t1]
      rw [t, z1, if_neg d10, if_pos rfl] at e2
      show (if en X.2.2.2.1 = 3 then _ else if en X.2.2.2.1 ≤ 0 then _ else _) = _
      rw [if_neg hle]
      by_cases c : en X.2.2.2.1 = 3
      · rw [if_pos c] at e2 ⊢
        rw [e2]
      · rw [if_neg c] at e2 ⊢
        rw [e2]
    · refine Or.inr ⟨t, ?_⟩
      unfold fX4_strike_1
      rw [hg, over_t0, over_t1]
      rw [t, z2, if_pos rfl, if_neg d10] at e2
      show (if en X.2.2.2.1 = 3 then _ else if en X.2.2.2.1 ≤ 0 then _ else _) = _
      rw [if_neg hle]
      by_cases c : en X.2.2.2.1 = 3
      · rw [if_pos c] at e2 ⊢
        rw [e2]
      · rw [if_neg c] at e2 ⊢
        rw [e2]
