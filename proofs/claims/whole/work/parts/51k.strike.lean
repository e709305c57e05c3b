theorem fly_turn {i : Nat} {X : Co} {Z : Mo} (hi : i ≤ 512) (h : Rel i X Z) (hr : ¬ X.2.2.2.2.2.2.2.1 = 0) {p0 : Int32} (hp : 0 ≤ p0.toInt) : (fX3_flyOn p0 Z).2.2.2.2.2.2.2.2.2.2.1 = Z.2.2.2.2.2.2.2.2.2.1 := by
  rcases look_br hi h hr hp with ⟨l1, B, l2, l3, l4⟩ | ⟨l1, l2, l3, l4⟩
  · rw [l3]
    rfl
  · rw [l2]
    rfl
theorem strike_go {i : Nat} {X X0 : Co} {Z : Mo} {kA kS kO q0 q1 q2 : Int32} {B : Ba} (hi : i < 512) (h : Rel i X Z) (hth : Z.2.2.2.2.2.2.1 = 0) (hr : ¬ X.2.2.2.2.2.2.2.1 = 0) (hB : Fl i B) (hq : ¬ fX3_isStroke q0 q1 q2 = 0) :
    kStep i X0 (if B.2.2.2.2.2.2.1 = 0 then (0, 1, fX2_replayRally (X.1, X.2.1, X.2.2.1, X.2.2.2.1, B, X.2.2.2.2.2))
        else (0, 0, fX2_play (fX2_sideToStrike (X.1, X.2.1, B, X.2.2.2.1, B, X.2.2.2.2.2)) q0 q1 q2 (X.1, X.2.1, B, X.2.2.2.1, B, X.2.2.2.2.2))) kA kS kO
      (if B.2.2.2.2.2.2.1 = 0 then (1, fX3_endByLet (sB Z (c9 B) (mom B)))
        else if Z.2.2.2.2.2.2.2.2.2.1 = 0 then (0, fX3_keepStroke_0 (fX3_hit q0 q1 q2 (sB Z (c9 B) (mom B)))) else (0, fX3_keepStroke_1 (fX3_hit q0 q1 q2 (sB Z (c9 B) (mom B))))) := by
  have ht := h.turn (by omega) hr
  obtain ⟨lo1, lo2, lo3, lo4⟩ := Fl.low (by omega) hB
  obtain ⟨⟨g1', g2', g3', g4', _, _, _, _⟩, _, _, _⟩ := hB
  obtain ⟨co, ro, hh, ac, al, ri, fr, bo, to, mo', e⟩ := B
  obtain ⟨p1, g1, r1, k1, p2, g2, r2, k2, bs, be, ba, bt, sv, ra, sk, go, mw, wr, ws, le, wg, st, bl, th, tu, sk', is, mo, h1, h2, h3, h4, h5⟩ := h
  subst h1 h2
  rcases h5 with ⟨ha, hb⟩ | ⟨ha, hk, ⟨j, j1, j2, j3, j4⟩, hg, hst, hbe⟩
  · exact absurd ha hr
  · have ha' : ra = 1 := ha
    subst ha'
    have hk' : sk' = sk := hk
    subst hk'
    have hth' : th = 0 := hth
    subst hth'
    by_cases hf : fr = 0
    · rw [if_pos hf, if_pos hf]
      refine step_ok rfl rfl ⟨p1, g1, r1, k1, p2, g2, r2, k2, bs, be, _, bt, sv, 0, 0, go, mw, wr, ws, le + 1, wg, st, c9 (co, ro, hh, ac, al, ri, fr, bo, to, mo', e), 0, tu, sk', is, mo', rfl, rfl, h3, ?_, Or.inl ⟨rfl, rfl⟩⟩
      obtain ⟨s1, s2, s3, s4, s5, s6⟩ := h4
      refine ⟨s1, s2, s3, s4, s5, ?_⟩
      rcases s6 with s6 | ⟨_, _, _, _, _, _, hz, _⟩ | ⟨_, _, _, _, _, _, hz, _⟩
      · exact Or.inl s6
      · exact absurd hz d10
      · exact absurd hz d10
    · rw [if_neg hf, if_neg hf]
      have ht2 : fX2_sideToStrike ((p1, g1, r1, k1), (p2, g2, r2, k2), (co, ro, hh, ac, al, ri, fr, bo, to, mo', e), be, (co, ro, hh, ac, al, ri, fr, bo, to, mo', e), bt, sv, 1, sk', go, mw, wr, ws, le, wg) = tu := turn_br (by omega) rfl j1 j4
      have h01 := turn_01 h3 j4
      have jn := turn_next h3 j4
      have js : sk' + 1 = nI (j + 1) := by rw [j1]; exact nIs j
      show kStep i X0 (0, 0, fX2_play (fX2_sideToStrike ((p1, g1, r1, k1), (p2, g2, r2, k2), (co, ro, hh, ac, al, ri, fr, bo, to, mo', e), be, (co, ro, hh, ac, al, ri, fr, bo, to, mo', e), bt, sv, 1, sk', go, mw, wr, ws, le, wg)) q0 q1 q2 ((p1, g1, r1, k1), (p2, g2, r2, k2), (co, ro, hh, ac, al, ri, fr, bo, to, mo', e), be, (co, ro, hh, ac, al, ri, fr, bo, to, mo', e), bt, sv, 1, sk', go, mw, wr, ws, le, wg)) kA kS kO _
      rw [ht2]
      rcases h01 with h | h
      · have h : tu = 0 := h
        subst h
        rw [if_pos rfl]
        exact step_ok rfl rfl (keep0 hi h3 h4 g1' g2' g3' g4' lo4 hq js (by omega) (by omega) (by rw [← jn]; decide))
      · have h : tu = 1 := h
        subst h
        rw [if_neg d10]
        exact step_ok rfl rfl (keep1 hi h3 h4 g1' g2' g3' g4' lo4 hq js (by omega) (by omega) (by rw [← jn]; decide))
theorem pr_strike {i : Nat} {X : Co} {Y : Mo} (p0 p1 p2 p3 : Int32) (hi : i < 512) (h : Rel i X Y) : NX3_strike p0 p1 p2 p3 Y ∧ kStep i X (xX2_strike p0 p1 p2 p3 X) 1 2 9 (fX3_strike p0 p1 p2 p3 Y) := by
  rcases isIn_br p0 1 60 with ⟨e, hp⟩ | ⟨e, hp1, hp2⟩
  · refine ⟨⟨fun a => absurd e a, fun a => absurd e a, fun a => absurd e a⟩, ?_⟩
    rw [show fX3_strike p0 p1 p2 p3 Y = _ from if_pos e]
    unfold xX2_strike
    rw [n1, n60] at hp
    by_cases c : p0 < 1
    · rw [if_pos c]
      exact step_no h d10 rfl
    · rw [if_neg c, if_pos (by rw [kltI, n60]; rw [kltI, n1] at c; omega)]
      exact step_no h d10 rfl
  · rw [n1] at hp1
    rw [n60] at hp2
    have e' : ¬ fX3_isIn p0 1 60 = 0 := by rw [e]; exact d10
    unfold xX2_strike
    rw [if_neg (show ¬ p0 < 1 by rw [kltI, n1]; omega), if_neg (show ¬ 60 < p0 by rw [kltI, n60]; omega), stroke_eq]
    by_cases hq : fX3_isStroke p1 p2 p3 = 0
    · refine ⟨⟨fun _ a => absurd hq a, fun _ a => absurd hq a, fun _ a => absurd hq a⟩, ?_⟩
      rw [if_pos hq, show fX3_strike p0 p1 p2 p3 Y = _ from (if_neg e').trans (if_pos hq)]
      exact step_no h d10 rfl
    · rw [if_neg hq]
      by_cases hr : X.2.2.2.2.2.2.2.1 = 0
      · have hz : Y.2.2.2.2.2.2.2.2.1 = 0 := h.ra.trans hr
        refine ⟨⟨fun _ _ a => absurd hz a, fun _ _ a => absurd hz a, fun _ _ a => absurd hz a⟩, ?_⟩
        rw [if_pos hr, show fX3_strike p0 p1 p2 p3 Y = _ from (if_neg e').trans ((if_neg hq).trans (if_pos hz))]
        exact step_no h d20 rfl
      · have hz : ¬ Y.2.2.2.2.2.2.2.2.1 = 0 := fun a => hr (h.ra.symm.trans a)
        have ht := fly_turn (p0 := p0) (i := i) (by omega) (h.thr 0) hr (by omega)
        have hw := (win_br (i := i) (X0 := X) (kA := 9) (kS := 1) (kO := 9) (by omega) (h.thr 0) rfl hr).1
        rw [← ht] at hw
        refine ⟨⟨fun _ _ _ _ _ hn => one_of hw hn, fun _ _ _ _ _ hn => one_of hw hn, fun _ _ _ _ _ hn => one_sub hw hn⟩, ?_⟩
        rw [if_neg hr]
        have S : fX3_strike p0 p1 p2 p3 Y = _ := (if_neg e').trans ((if_neg hq).trans (if_neg hz))
        rcases look_br (i := i) (by omega) (h.thr 0) hr (p0 := p0) (by omega) with ⟨l1, B, l2, l3, l4⟩ | ⟨l1, l2, l3, l4⟩
        · rw [if_pos l1, l2, S]
          unfold thr at l3
          rw [l3, if_pos (show ((0 : Int32), sB (Y.1, Y.2.1, Y.2.2.1, Y.2.2.2.1, Y.2.2.2.2.1, Y.2.2.2.2.2.1, 0, Y.2.2.2.2.2.2.2) (c9 B) (mom B)).1 ≤ 0 from (by decide : (0 : Int32) ≤ 0))]
          exact strike_go hi (h.thr 0) rfl hr l4 hq
        · rw [if_neg (show ¬ fX2_isEndedBy p0 X = 0 by rw [l1]; exact d10), S]
          unfold thr at l2
          rw [l2, if_neg (show ¬ (en X.2.2.2.1, sB (Y.1, Y.2.1, Y.2.2.1, Y.2.2.2.1, Y.2.2.2.2.1, Y.2.2.2.2.2.1, 0, Y.2.2.2.2.2.2.2) (c9 X.2.2.2.1) (mom X.2.2.2.1)).1 ≤ 0 from l4)]
          exact (win_br (i := i) (X0 := X) (by omega) ((h.thr 0).sB (c9 X.2.2.2.1) (mom X.2.2.2.1)) rfl hr).2
