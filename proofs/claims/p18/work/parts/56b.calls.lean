/-! the calls of the law that play, each with its answer, both sides -/
theorem pr_let {i : Nat} {X : Co} {Z : Zs} {β : Option Lb} (h : Rel i X Z β) (hr : ¬ X.2.2.2.2.2.2.2.1 = 0) :
    ∃ (v : Int32) (X' : Co) (Z' : Zs), xX2_let X = (0, v, X') ∧ fX4_let Z = (v, Z') ∧ Rel (i + 1) X' Z' none ∧ Tr X X' := by
  obtain ⟨p1, g1, r1, k1, p2, g2, r2, k2, bs, be, ba, bt, sv, ra, sk, go, mw, wr, ws, le, wg, tu, sk', is, h1, h2, h3, h4, h5, h6⟩ := h
  subst h1 h2
  rcases h5 with ⟨ha, _⟩ | ⟨ha, hk, _⟩
  · exact absurd ha hr
  · subst ha hk
    exact ⟨sk', _, _, if_neg d10, rfl, ⟨p1, g1, r1, k1, p2, g2, r2, k2, bs, be, ba, bt, sv, 0, 0, go, mw, wr, ws, le + 1, wg, -1, sk', is, rfl, rfl, h3, h4.off, Or.inl ⟨rfl, rfl, rfl, rfl⟩, h6.let⟩, Or.inl rfl, fun _ => Or.inl rfl⟩
theorem pr_match {i : Nat} {X : Co} {Z : Zs} {β : Option Lb} (h : Rel i X Z β) {p0 : Int32} (hp : p0 = 0 ∨ p0 = 1) :
    ∃ (v : Int32) (X' : Co) (Z' : Zs), xX2_match p0 X = (0, v, X') ∧ fX4_match p0 Z = (v, Z', none) ∧ Rel (i + 1) X' Z' none ∧ (X.2.2.2.2.2.2.2.1 = 0 → Tr X X') := by
  obtain ⟨p1, g1, r1, k1, p2, g2, r2, k2, bs, be, ba, bt, sv, ra, sk, go, mw, wr, ws, le, wg, tu, sk', is, h1, h2, h3, h4, h5, h6⟩ := h
  subst h1 h2
  have e2 : ¬ fX2_isSide p0 = 0 := by rcases hp with rfl | rfl <;> decide
  refine ⟨_, _, _, if_neg e2, rfl, ⟨0, 0, 0, 0, 0, 0, 0, 0, bs, be, ba, bt, p0, 0, 0, 12, -1, wr, ws, le, wg, -1, sk', 0, rfl, rfl, hp, ⟨Or.inl ⟨rfl, rfl⟩, by decide, by decide, by decide, by decide, Or.inl ⟨rfl, by decide, by decide, by decide, by decide⟩⟩, Or.inl ⟨rfl, rfl, rfl, rfl⟩, ?_⟩, fun hr => ⟨Or.inl rfl, fun h => absurd hr h⟩⟩
  obtain ⟨q1, q2, q3, q4, q5, q6, q7, q8, q9⟩ := h6
  have gg : 0 ≤ g1.toInt ∧ 0 ≤ g2.toInt := by
    rcases h4.2.2.2.2.2 with ⟨_, a, _, b, _⟩ | ⟨_, a, b, _⟩ | ⟨_, a, b, _⟩
    · exact ⟨a, b⟩
    · rw [a, n3]; exact ⟨by omega, b⟩
    · rw [a, n3]; exact ⟨b, by omega⟩
  have z1 : ((0 : Int32)).toInt = 0 := n0
  exact ⟨by rw [z1]; omega, by rw [z1]; omega, by rw [z1]; omega, by omega, by rw [z1]; omega, by omega, q7, by rw [z1]; omega, by rw [z1]; omega⟩
theorem set_go {p0 p1 : Int32} (h0 : p0 = 3 ∨ p0 = 5) (h : p1 = 10 ∨ p1 = 11) : (p1 + p0 = 13 ∨ p1 + p0 = 14 ∨ p1 + p0 = 15 ∨ p1 + p0 = 16) ∧ p1.toInt < (p1 + p0).toInt := by
  rcases h0 with rfl | rfl <;> rcases h with rfl | rfl <;> decide
/-- may be set: both sides say alike -/
theorem canset_br {i : Nat} {X : Co} {Z : Zs} (h : Rel i X Z none) : fX2_canBeSet X = fX4_canSet_n Z ∧ (fX4_canSet_n Z = 0 ∨ fX4_canSet_n Z = 1) ∧
    (¬ fX4_canSet_n Z = 0 → Z.2.2.2.2.2.2.2.2.2.1 = 0 ∧ Z.1.1 = Z.2.1.1 ∧ (Z.1.1 = 10 ∨ Z.1.1 = 11)) := by
  obtain ⟨p1, g1, r1, k1, p2, g2, r2, k2, bs, be, ba, bt, sv, ra, sk, go, mw, wr, ws, le, wg, tu, sk', is, h1, h2, h3, h4, h5, h6⟩ := h
  subst h1 h2
  rcases h5 with ⟨ha, _⟩ | ⟨_, _, _, _, _, _, hb⟩
  · subst ha
    have A : fX2_canBeSet ((p1, g1, r1, k1), (p2, g2, r2, k2), bs, be, ba, bt, sv, 0, sk, go, mw, wr, ws, le, wg) = if go = 12 then (if p1 = p2 then (if p1 = 10 then 1 else (if p1 = 11 then 1 else 0)) else 0) else 0 := if_pos rfl
    have B : fX4_canSet_n ((p1, g1, r1, k1), (p2, g2, r2, k2), sv, tu, sk', wr, le, wg, go, is, ws) = if is = 0 then (if p1 = p2 then (if p1 = 10 then 1 else (if p1 = 11 then 1 else 0)) else 0) else 0 := rfl
    have h2 : go = 12 ↔ is = 0 := by
      rcases h4.1 with ⟨a, b⟩ | ⟨a, b⟩
      · rw [a, b]; decide
      · rw [a]
        rcases b with b | b | b | b <;> rw [b] <;> decide
    rw [A, B]
    by_cases c : is = 0
    · rw [if_pos c, if_pos (h2.mpr c)]
      by_cases c2 : p1 = p2
      · rw [if_pos c2]
        by_cases c3 : p1 = 10
        · rw [if_pos c3]
          exact ⟨rfl, Or.inr rfl, fun _ => ⟨c, c2, Or.inl c3⟩⟩
        · rw [if_neg c3]
          by_cases c4 : p1 = 11
          · rw [if_pos c4]
            exact ⟨rfl, Or.inr rfl, fun _ => ⟨c, c2, Or.inr c4⟩⟩
          · rw [if_neg c4]
            exact ⟨rfl, Or.inl rfl, fun h => absurd rfl h⟩
      · rw [if_neg c2]
        exact ⟨rfl, Or.inl rfl, fun h => absurd rfl h⟩
    · rw [if_neg c, if_neg (fun h => c (h2.mp h))]
      exact ⟨rfl, Or.inl rfl, fun h => absurd rfl h⟩
  · exact absurd hb (fun h => nomatch h)
theorem pr_set {i : Nat} {X : Co} {Z : Zs} (h : Rel i X Z none) {p0 : Int32} (hp : p0 = 3 ∨ p0 = 5) :
    (fX4_canSet_n Z = 0 ∧ xX2_set p0 X = (2, 0, X)) ∨
    (fX4_canSet_n Z = 1 ∧ ∃ X' : Co, xX2_set p0 X = (0, Z.1.1 + p0, X') ∧ Rel (i + 1) X' (Z.1, Z.2.1, Z.2.2.1, Z.2.2.2.1, Z.2.2.2.2.1, Z.2.2.2.2.2.1, Z.2.2.2.2.2.2.1, Z.2.2.2.2.2.2.2.1, Z.1.1 + p0, 1, Z.2.2.2.2.2.2.2.2.2.2) none ∧ Tr X X') := by
  obtain ⟨c1, c2, c3⟩ := canset_br h
  have hx : xX2_set p0 X = if fX2_canBeSet X = 0 then (2, 0, X) else (0, (X.1.1 + p0), (X.1, X.2.1, X.2.2.1, X.2.2.2.1, X.2.2.2.2.1, X.2.2.2.2.2.1, X.2.2.2.2.2.2.1, X.2.2.2.2.2.2.2.1, X.2.2.2.2.2.2.2.2.1, (X.1.1 + p0), X.2.2.2.2.2.2.2.2.2.2)) := by
    unfold xX2_set
    rcases hp with rfl | rfl
    · rw [if_pos rfl]
    · rw [if_neg (by decide), if_pos rfl]
  rw [hx, c1]
  rcases c2 with c | c
  · exact Or.inl ⟨c, if_pos c⟩
  · have hn : ¬ fX4_canSet_n Z = 0 := by rw [c]; exact d10
    obtain ⟨q1, q2, q3⟩ := c3 hn
    rw [if_neg hn]
    refine Or.inr ⟨c, ?_⟩
    obtain ⟨p1, g1, r1, k1, p2, g2, r2, k2, bs, be, ba, bt, sv, ra, sk, go, mw, wr, ws, le, wg, tu, sk', is, h1, h2, h3, h4, h5, h6⟩ := h
    subst h1 h2
    obtain ⟨w1, w2⟩ := set_go hp q3
    have q2' : p1 = p2 := q2
    subst q2'
    have w1' : p1 + p0 = 13 ∨ p1 + p0 = 14 ∨ p1 + p0 = 15 ∨ p1 + p0 = 16 := w1
    have w2' : p1.toInt < (p1 + p0).toInt := w2
    rcases h5 with ⟨ha, hb, hc, hd⟩ | ⟨_, _, _, _, _, _, hb⟩
    · subst ha
      obtain ⟨s1, s2, s3, s4, s5, s6⟩ := h4
      refine ⟨_, rfl, ⟨p1, g1, r1, k1, p1, g2, r2, k2, bs, be, ba, bt, sv, 0, sk, p1 + p0, mw, wr, ws, le, wg, tu, sk', 1, rfl, rfl, h3, ⟨Or.inr ⟨rfl, w1'⟩, s2, w2', s4, w2', ?_⟩, Or.inl ⟨rfl, hb, hc, hd⟩, h6.mono⟩, Or.inl rfl, fun h => absurd rfl h⟩
      have q3' : p1 = 10 ∨ p1 = 11 := q3
      rcases s6 with s6 | ⟨_, _, _, _, hz2, _⟩ | ⟨_, _, _, _, hz2, _⟩
      · exact Or.inl s6
      · rw [hz2] at q3'; exact absurd q3' (by decide)
      · rw [hz2] at q3'; exact absurd q3' (by decide)
    · exact absurd hb (fun h => nomatch h)
theorem n14 : ((14 : Int32)).toInt = 14 := by decide
theorem n6 : ((6 : Int32)).toInt = 6 := by decide
theorem nb_serve : fX0_isButtress 6 14 = 0 := by decide

theorem pr_serve0 {i : Nat} (hi : i < 512) {p1 g1 r1 k1 p2 g2 r2 k2 sk go mw wr ws le wg tu sk' is q0 q1 q2 : Int32} {bs be ba bt : Ba} (h4 : RelS p1 g1 p2 g2 0 go mw is) (hs : sk = 0) (h6 : RelC i g1 r1 g2 r2 sk wr ws wg) (hm : mw = -1) (hq : Stk q0 q1 q2) :
    ∃ (X' : Co) (Z' : Zs) (b' : Lb), xX2_serve q0 q1 q2 ((p1, g1, r1, k1), (p2, g2, r2, k2), bs, be, ba, bt, 0, 0, sk, go, mw, wr, ws, le, wg) = (0, 0, X') ∧ fX4_serve_0 q0 q1 q2 ((p1, g1, r1, k1), (p2, g2, r2, k2), 0, tu, sk', wr, le, wg, go, is, ws) = (0, Z', some b') ∧ Rel (i + 1) X' Z' (some b') ∧ Tr ((p1, g1, r1, k1), (p2, g2, r2, k2), bs, be, ba, bt, 0, 0, sk, go, mw, wr, ws, le, wg) X' := by
  subst hs
  obtain ⟨X', e1, e2, e3, e4, e5⟩ := keep0 (i := i) hi (k1 := k1) (k2 := k2) (le := le) (be := be) (ba := ba) (bt := bt) (sv := 0) (ac := bs.2.2.2.1) (al := bs.2.2.2.2.1) (ri := bs.2.2.2.2.2.1) (fr := bs.2.2.2.2.2.2.1) (bo := bs.2.2.2.2.2.2.2.1) (to := bs.2.2.2.2.2.2.2.2.1) (mo := bs.2.2.2.2.2.2.2.2.2.1) (e := bs.2.2.2.2.2.2.2.2.2.2) (co := 6) (ro := 14) (hh := 3) (Or.inl rfl) (h4.on hm) h6 (by decide) (by decide) (by decide) (by decide) nb_serve (by rw [n3]; omega) hq (j := 1) rfl (by omega) (by omega) (by decide)
  have hx : xX2_serve q0 q1 q2 ((p1, g1, r1, k1), (p2, g2, r2, k2), bs, be, ba, bt, 0, 0, 0, go, mw, wr, ws, le, wg) = (0, X'.2.2.2.2.2.2.1, X') := by
    unfold xX2_serve
    rw [if_neg (stroke_1 hq), if_pos rfl, if_pos (show fX2_isMatchOver ((p1, g1, r1, k1), (p2, g2, r2, k2), bs, be, ba, bt, 0, 0, 0, go, mw, wr, ws, le, wg) = 0 from if_pos hm)]
    rw [← e1]
    rfl
  have hv : X'.2.2.2.2.2.2.1 = 0 := congrArg Prod.fst e4
  rw [hv] at hx
  refine ⟨X', _, fX3_of 6 14 3 q0 q1 q2, hx, rfl, e5, ?_⟩
  refine ⟨Or.inl ?_, fun h => absurd rfl h⟩
  have h9 := congrArg (fun z : I9 => z.2.2.2.2.2.1) e4
  exact h9

theorem pr_serve1 {i : Nat} (hi : i < 512) {p1 g1 r1 k1 p2 g2 r2 k2 sk go mw wr ws le wg tu sk' is q0 q1 q2 : Int32} {bs be ba bt : Ba} (h4 : RelS p1 g1 p2 g2 0 go mw is) (hs : sk = 0) (h6 : RelC i g1 r1 g2 r2 sk wr ws wg) (hm : mw = -1) (hq : Stk q0 q1 q2) :
    ∃ (X' : Co) (Z' : Zs) (b' : Lb), xX2_serve q0 q1 q2 ((p1, g1, r1, k1), (p2, g2, r2, k2), bs, be, ba, bt, 1, 0, sk, go, mw, wr, ws, le, wg) = (0, 1, X') ∧ fX4_serve_1 q0 q1 q2 ((p1, g1, r1, k1), (p2, g2, r2, k2), 1, tu, sk', wr, le, wg, go, is, ws) = (1, Z', some b') ∧ Rel (i + 1) X' Z' (some b') ∧ Tr ((p1, g1, r1, k1), (p2, g2, r2, k2), bs, be, ba, bt, 1, 0, sk, go, mw, wr, ws, le, wg) X' := by
  subst hs
  obtain ⟨X', e1, e2, e3, e4, e5⟩ := keep1 (i := i) hi (k1 := k1) (k2 := k2) (le := le) (be := be) (ba := ba) (bt := bt) (sv := 1) (ac := bs.2.2.2.1) (al := bs.2.2.2.2.1) (ri := bs.2.2.2.2.2.1) (fr := bs.2.2.2.2.2.2.1) (bo := bs.2.2.2.2.2.2.2.1) (to := bs.2.2.2.2.2.2.2.2.1) (mo := bs.2.2.2.2.2.2.2.2.2.1) (e := bs.2.2.2.2.2.2.2.2.2.2) (co := 6) (ro := 14) (hh := 3) (Or.inr rfl) (h4.on hm) h6 (by decide) (by decide) (by decide) (by decide) nb_serve (by rw [n3]; omega) hq (j := 1) rfl (by omega) (by omega) (by decide)
  have hx : xX2_serve q0 q1 q2 ((p1, g1, r1, k1), (p2, g2, r2, k2), bs, be, ba, bt, 1, 0, 0, go, mw, wr, ws, le, wg) = (0, X'.2.2.2.2.2.2.1, X') := by
    unfold xX2_serve
    rw [if_neg (stroke_1 hq), if_pos rfl, if_pos (show fX2_isMatchOver ((p1, g1, r1, k1), (p2, g2, r2, k2), bs, be, ba, bt, 1, 0, 0, go, mw, wr, ws, le, wg) = 0 from if_pos hm)]
    rw [← e1]
    rfl
  have hv : X'.2.2.2.2.2.2.1 = 1 := congrArg Prod.fst e4
  rw [hv] at hx
  refine ⟨X', _, fX3_of 6 14 3 q0 q1 q2, hx, rfl, e5, ?_⟩
  refine ⟨Or.inl ?_, fun h => absurd rfl h⟩
  have h9 := congrArg (fun z : I9 => z.2.2.2.2.2.1) e4
  exact h9

/-- whose turn it is, by the court -/
theorem Rel.turn {i : Nat} (hi : i ≤ 512) {X : Co} {Z : Zs} {β : Option Lb} (h : Rel i X Z β) (hr : ¬ X.2.2.2.2.2.2.2.1 = 0) : fX2_sideToStrike X = Z.2.2.2.1 ∧ (Z.2.2.2.1 = 0 ∨ Z.2.2.2.1 = 1) := by
  obtain ⟨p1, g1, r1, k1, p2, g2, r2, k2, bs, be, ba, bt, sv, ra, sk, go, mw, wr, ws, le, wg, tu, sk', is, h1, h2, h3, h4, h5, h6⟩ := h
  subst h1 h2
  rcases h5 with ⟨ha, _⟩ | ⟨ha, hk, ⟨j, j1, j2, j3, j4⟩, _⟩
  · exact absurd ha hr
  · exact ⟨turn_br (by omega) rfl j1 j4, turn_01 h3 j4⟩
/-- the rally ends by the flight, both sides -/
theorem pr_end {i : Nat} (hi : i < 512) {X : Co} {Z : Zs} {β : Option Lb} (h : Rel i X Z β) (hr : ¬ X.2.2.2.2.2.2.2.1 = 0) (d : Int32) (hd : d = en X.2.2.2.1) :
    ∃ (v : Int32) (X' : Co) (Z' : Zs), ((fX2_winRally (fX2_winnerByFlight X) X).1, (fX2_winRally (fX2_winnerByFlight X) X).2) = (v, X') ∧
      (if d = 3 then (if 1 - Z.2.2.2.1 = 0 then fX4_over_0 Z else fX4_over_1 Z) else (if Z.2.2.2.1 = 0 then fX4_over_0 Z else fX4_over_1 Z)) = (v, Z') ∧ Rel (i + 1) X' Z' none ∧ Tr X X' := by
  obtain ⟨ht, h01⟩ := h.turn (by omega) hr
  have hw : fX2_winnerByFlight X = if d = 3 then 1 - Z.2.2.2.1 else Z.2.2.2.1 := by
    rw [hd]
    unfold fX2_winnerByFlight fX2_otherSide
    rw [ht]
  obtain ⟨p1, g1, r1, k1, p2, g2, r2, k2, bs, be, ba, bt, sv, ra, sk, go, mw, wr, ws, le, wg, tu, sk', is, h1, h2, h3, h4, h5, h6⟩ := h
  subst h1 h2
  rcases h5 with ⟨ha, _⟩ | ⟨ha, hk, _⟩
  · exact absurd ha hr
  · subst ha hk
    have h01' : tu = 0 ∨ tu = 1 := h01
    have w0 := win0 (i := i) (k1 := k1) (k2 := k2) (le := le) (tu := tu) (bs := bs) (be := be) (ba := ba) (bt := bt) hi h3 h4 h6
    have w1 := win1 (i := i) (k1 := k1) (k2 := k2) (le := le) (tu := tu) (bs := bs) (be := be) (ba := ba) (bt := bt) hi h3 h4 h6
    have z1 : (1 : Int32) - 0 = 1 := by decide
    have z2 : (1 : Int32) - 1 = 0 := by decide
    rw [hw]
    show ∃ (v : Int32) (X' : Co) (Z' : Zs), ((fX2_winRally (if d = 3 then 1 - tu else tu) _).1, (fX2_winRally (if d = 3 then 1 - tu else tu) _).2) = (v, X') ∧ (if d = 3 then (if 1 - tu = 0 then fX4_over_0 _ else fX4_over_1 _) else (if tu = 0 then fX4_over_0 _ else fX4_over_1 _)) = (v, Z') ∧ _
    by_cases he : d = 3
    · rw [if_pos he, if_pos he]
      rcases h01' with rfl | rfl
      · rw [z1, if_neg d10]
        obtain ⟨X', Z', a, b, c⟩ := w1
        exact ⟨_, X', Z', a, b, c⟩
      · rw [z2, if_pos rfl]
        obtain ⟨X', Z', a, b, c⟩ := w0
        exact ⟨_, X', Z', a, b, c⟩
    · rw [if_neg he, if_neg he]
      rcases h01' with rfl | rfl
      · rw [if_pos rfl]
        obtain ⟨X', Z', a, b, c⟩ := w0
        exact ⟨_, X', Z', a, b, c⟩
      · rw [if_neg d10]
        obtain ⟨X', Z', a, b, c⟩ := w1
        exact ⟨_, X', Z', a, b, c⟩
/-- what stands of a rally that goes on -/
theorem Rel.on {i : Nat} {X : Co} {Z : Zs} {β : Option Lb} (h : Rel i X Z β) (hr : ¬ X.2.2.2.2.2.2.2.1 = 0) : X.2.2.2.2.2.2.2.1 = 1 ∧ Good i X.2.2.1 ∧ NB X.2.2.1 ∧ X.2.2.2.1 = iterE 1000 X.2.2.1 ∧ β = some (c10 X.2.2.1) := by
  obtain ⟨p1, g1, r1, k1, p2, g2, r2, k2, bs, be, ba, bt, sv, ra, sk, go, mw, wr, ws, le, wg, tu, sk', is, h1, h2, h3, h4, h5, h6⟩ := h
  subst h1 h2
  rcases h5 with ⟨ha, _⟩ | ⟨ha, hk, hj, a, b, c, d⟩
  · exact absurd ha hr
  · exact ⟨ha, a, b, c, d⟩
theorem over_t0 (Z : Zs) (t : Int32) : fX4_over_0 (Z.1, Z.2.1, Z.2.2.1, t, Z.2.2.2.2) = fX4_over_0 Z := rfl
theorem over_t1 (Z : Zs) (t : Int32) : fX4_over_1 (Z.1, Z.2.1, Z.2.2.1, t, Z.2.2.2.2) = fX4_over_1 Z := rfl
theorem pr_leave {i : Nat} (hi : i < 512) {X : Co} {Z : Zs} {b : Lb} (h : Rel i X Z (some b)) (hr : ¬ X.2.2.2.2.2.2.2.1 = 0) :
    ∃ (v : Int32) (X' : Co) (Z' : Zs), xX2_leave X = (0, v, X') ∧ ((Z.2.2.2.1 = 0 ∧ fX4_leave_0 Z b = (v, Z', none)) ∨ (Z.2.2.2.1 = 1 ∧ fX4_leave_1 Z b = (v, Z', none))) ∧ Rel (i + 1) X' Z' none ∧ Tr X X' := by
  obtain ⟨a1, a2, a3, a4, a5⟩ := h.on hr
  have a5' : b = c10 X.2.2.1 := Option.some.inj a5
  subst a5'
  obtain ⟨ht, h01⟩ := h.turn (by omega) hr
  have hg := goN_all (i := i) (by omega) ⟨a2.fl, a3⟩
  rw [← a4] at hg
  obtain ⟨v, X', Z', e1, e2, e3, e4⟩ := pr_end hi h hr (en X.2.2.2.1) rfl
  refine ⟨v, X', Z', ?_, ?_, e3, e4⟩
  · unfold xX2_leave
    rw [if_neg hr]
    exact congrArg (fun z : Int32 × Co => ((0 : Int32), z.1, z.2)) e1
  · have z1 : (1 : Int32) - 0 = 1 := by decide
    have z2 : (1 : Int32) - 1 = 0 := by decide
    rcases h01 with t | t
    · refine Or.inl ⟨t, ?_⟩
      unfold fX4_leave_0
      rw [hg, over_t0, over_t1]
      rw [t, z1, if_neg d10, if_pos rfl] at e2
      show (if en X.2.2.2.1 = 3 then _ else _) = _
      by_cases c : en X.2.2.2.1 = 3
      · rw [if_pos c] at e2 ⊢
        rw [e2]
      · rw [if_neg c] at e2 ⊢
        rw [e2]
    · refine Or.inr ⟨t, ?_⟩
      unfold fX4_leave_1
      rw [hg, over_t0, over_t1]
      rw [t, z2, if_pos rfl, if_neg d10] at e2
      show (if en X.2.2.2.1 = 3 then _ else _) = _
      by_cases c : en X.2.2.2.1 = 3
      · rw [if_pos c] at e2 ⊢
        rw [e2]
      · rw [if_neg c] at e2 ⊢
        rw [e2]
