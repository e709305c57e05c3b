/-! looking ahead, both sides -/
theorem look_br {i : Nat} {X : Co} {Z : Mo} (hi : i ≤ 512) (h : Rel i X Z) (hr : ¬ X.2.2.2.2.2.2.2.1 = 0) {p0 : Int32} (hp : 0 ≤ p0.toInt) :
    (fX2_isEndedBy p0 X = 0 ∧ ∃ B : Ba, fX2_lookAhead p0 X = (X.1, X.2.1, X.2.2.1, X.2.2.2.1, B, X.2.2.2.2.2) ∧ fX3_flyOn p0 Z = (0, sB Z (c9 B) (mom B)) ∧ Fl i B) ∨
    (fX2_isEndedBy p0 X = 1 ∧ fX3_flyOn p0 Z = (en X.2.2.2.1, sB Z (c9 X.2.2.2.1) (mom X.2.2.2.1)) ∧ ¬ en X.2.2.2.1 = 0 ∧ ¬ en X.2.2.2.1 ≤ 0) := by
  obtain ⟨h1, h2, h3, hg, hs, hb⟩ := h.on hr
  have hf := flyOn_eq hi hg p0 Z hs
  have hl : fX2_lookAhead p0 X = (X.1, X.2.1, X.2.2.1, X.2.2.2.1, iterE p0.toInt.toNat X.2.2.1, X.2.2.2.2.2) := by
    unfold fX2_lookAhead fX0_become
    rw [fly_eq]
  have hk := (iter_br hi 1000 X.2.2.1 hg.fl).2.1
  rw [← hb] at hk
  rcases ended hi hg hp with ⟨a, b, c⟩ | ⟨a, b, c⟩
  · refine Or.inl ⟨?_, _, hl, by rw [hf, b], c⟩
    rw [← hb] at a
    exact if_pos a
  · rw [← hb] at a c
    rw [c] at b
    refine Or.inr ⟨if_neg a, by rw [hf, c], b, ?_⟩
    rcases hk with h | h | h | h
    · exact absurd h b
    · rw [h]; decide
    · rw [h]; decide
    · rw [h]; decide
theorem flight_br {i : Nat} {X : Co} {Y : Mo} (hi : i ≤ 512) (h : Rel i X Y) (p0 : Int32) (f : Ba → Int32) (f' : M9 → Int32) (hf : ∀ b, f b = f' (c9 b)) :
    kStep i X (if fX2_isLookAhead p0 = 0 then (1, 0, X) else if X.2.2.2.2.2.2.2.1 = 0 then (0, (-99), X) else if fX2_isEndedBy p0 X = 0 then (0, f (fX2_lookAhead p0 X).2.2.2.2.1, fX2_lookAhead p0 X) else (0, (-99), X)) 1 9 2
      (if fX3_isIn p0 0 60 = 0 then (0, thr Y 1) else if Y.2.2.2.2.2.2.2.2.1 = 0 then ((-99), thr Y 0) else if (fX3_flyOn p0 (thr Y 0)).1 = 0 then (f' (fX3_flyOn p0 (thr Y 0)).2.2.2.2.2.2.1, (fX3_flyOn p0 (thr Y 0)).2) else ((-99), (fX3_flyOn p0 (thr Y 0)).2)) := by
  have hq : fX2_isLookAhead p0 = fX3_isIn p0 0 60 := rfl
  rcases isIn_br p0 0 60 with ⟨e, _⟩ | ⟨e, a1, a2⟩
  · rw [hq, if_pos e, if_pos e]
    exact step_no h d10 rfl
  · have e' : ¬ fX3_isIn p0 0 60 = 0 := by rw [e]; exact d10
    rw [hq, if_neg e', if_neg e']
    by_cases hr : X.2.2.2.2.2.2.2.1 = 0
    · rw [if_pos hr, if_pos (h.ra.trans hr)]
      exact step_tell h rfl
    · rw [if_neg hr, if_neg (fun a => hr (h.ra.symm.trans a))]
      rcases look_br hi (h.thr 0) hr (by rw [n0] at a1; exact a1) with ⟨l1, B, l2, l3, l4⟩ | ⟨l1, l2, l3, l4⟩
      · rw [if_pos l1, l3, l2, if_pos (show ((0 : Int32), sB (thr Y 0) (c9 B) (mom B)).1 = 0 from rfl)]
        exact step_ok (hf B) rfl (((h.thr 0).sB _ _).look B X.2.2.2.2.2.1).mono
      · rw [if_neg (by rw [l1]; exact d10), l2, if_neg l3]
        exact step_ok rfl rfl ((h.thr 0).sB _ _).mono
theorem pr_flight {i : Nat} {X : Co} {Y : Mo} (p0 p1 : Int32) (hi : i < 512) (h : Rel i X Y) : kStep i X (gX2_flight p0 p1 X) 1 9 2 (gX3_flight p0 p1 Y) := by
  unfold gX2_flight gX3_flight
  by_cases c0 : p1 = 0
  · rw [if_pos c0, if_pos c0]
    exact flight_br (by omega) h p0 (fun b => b.1) (fun q => q.1) (fun _ => rfl)
  · rw [if_neg c0, if_neg c0]
    by_cases c1 : p1 = 1
    · rw [if_pos c1, if_pos c1]
      exact flight_br (by omega) h p0 (fun b => b.2.1) (fun q => q.2.1) (fun _ => rfl)
    · rw [if_neg c1, if_neg c1]
      by_cases c2 : p1 = 2
      · rw [if_pos c2, if_pos c2]
        exact flight_br (by omega) h p0 (fun b => b.2.2.1) (fun q => q.2.2.1) (fun _ => rfl)
      · rw [if_neg c2, if_neg c2]
        by_cases c3 : p1 = 3
        · rw [if_pos c3, if_pos c3]
          exact flight_br (by omega) h p0 (fun b => b.2.2.2.1) (fun q => q.2.2.2.1) (fun _ => rfl)
        · rw [if_neg c3, if_neg c3]
          by_cases c4 : p1 = 4
          · rw [if_pos c4, if_pos c4]
            exact flight_br (by omega) h p0 (fun b => b.2.2.2.2.1) (fun q => q.2.2.2.2.1) (fun _ => rfl)
          · rw [if_neg c4, if_neg c4]
            by_cases c5 : p1 = 5
            · rw [if_pos c5, if_pos c5]
              exact flight_br (by omega) h p0 (fun b => b.2.2.2.2.2.1) (fun q => q.2.2.2.2.2.1) (fun _ => rfl)
            · rw [if_neg c5, if_neg c5]
              by_cases c6 : p1 = 6
              · rw [if_pos c6, if_pos c6]
                exact flight_br (by omega) h p0 (fun b => b.2.2.2.2.2.2.1) (fun q => q.2.2.2.2.2.2.1) (fun _ => rfl)
              · rw [if_neg c6, if_neg c6]
                by_cases c7 : p1 = 7
                · rw [if_pos c7, if_pos c7]
                  exact flight_br (by omega) h p0 (fun b => b.2.2.2.2.2.2.2.1) (fun q => q.2.2.2.2.2.2.2.1) (fun _ => rfl)
                · rw [if_neg c7, if_neg c7]
                  by_cases c8 : p1 = 8
                  · rw [if_pos c8, if_pos c8]
                    exact flight_br (by omega) h p0 (fun b => b.2.2.2.2.2.2.2.2.1) (fun q => q.2.2.2.2.2.2.2.2) (fun _ => rfl)
                  · rw [if_neg c8, if_neg c8]
                    rw [keqI] at c0 c1 c2 c3 c4 c5 c6 c7 c8
                    rw [n0] at c0
                    rw [n1] at c1
                    rw [n2] at c2
                    rw [n3] at c3
                    rw [n4] at c4
                    rw [n5] at c5
                    rw [n6] at c6
                    rw [n7] at c7
                    rw [n8] at c8
                    unfold xX2_flight_bad fX3_flight_bad
                    have hq : fX2_isLookAhead p0 = fX3_isIn p0 0 60 := rfl
                    rw [hq]
                    by_cases e : fX3_isIn p0 0 60 = 0
                    · rw [if_pos e, if_pos e]
                      exact step_no h d10 rfl
                    · rw [if_neg e, if_neg e]
                      by_cases d0 : p1 < 0
                      · rw [if_pos d0]
                        exact step_no h d30 rfl
                      · rw [if_neg d0, if_neg (show ¬ p1 < 9 by rw [kltI, n0] at d0; rw [kltI, n9]; omega)]
                        exact step_no h d30 rfl
/-! a rally's end by the flight -/
theorem win_br {i : Nat} {X X0 : Co} {Z : Mo} {kA kS kO : Int32} (hi : i ≤ 512) (h : Rel i X Z) (hth : Z.2.2.2.2.2.2.1 = 0) (hr : ¬ X.2.2.2.2.2.2.2.1 = 0) :
    (Z.2.2.2.2.2.2.2.2.2.1 = 0 ∨ Z.2.2.2.2.2.2.2.2.2.1 = 1) ∧
    kStep i X0 (0, (fX2_winRally (fX2_winnerByFlight X) X).1, (fX2_winRally (fX2_winnerByFlight X) X).2) kA kS kO
      (if en X.2.2.2.1 = 3 then (if 1 - Z.2.2.2.2.2.2.2.2.2.1 = 0 then fX3_win_0 Z else fX3_win_1 Z) else (if Z.2.2.2.2.2.2.2.2.2.1 = 0 then fX3_win_0 Z else fX3_win_1 Z)) := by
  have ht := h.turn hi hr
  have hw : fX2_winnerByFlight X = if en X.2.2.2.1 = 3 then 1 - Z.2.2.2.2.2.2.2.2.2.1 else Z.2.2.2.2.2.2.2.2.2.1 := by
    unfold fX2_winnerByFlight fX2_otherSide
    rw [ht]
  rw [hw]
  obtain ⟨p1, g1, r1, k1, p2, g2, r2, k2, bs, be, ba, bt, sv, ra, sk, go, mw, wr, ws, le, wg, st, bl, th, tu, sk', is, mo, h1, h2, h3, h4, h5⟩ := h
  subst h1 h2
  rcases h5 with ⟨ha, hb⟩ | ⟨ha, hk, ⟨j, j1, j2, j3, j4⟩, hg, hst, hbe⟩
  · exact absurd ha hr
  · have ha' : ra = 1 := ha
    subst ha'
    have hk' : sk' = sk := hk
    subst hk'
    have hth' : th = 0 := hth
    subst hth'
    have h01 := turn_01 h3 j4
    refine ⟨h01, ?_⟩
    show kStep i X0 (0, (fX2_winRally (if en be = 3 then 1 - tu else tu) _).1, (fX2_winRally (if en be = 3 then 1 - tu else tu) _).2) kA kS kO (if en be = 3 then (if 1 - tu = 0 then fX3_win_0 _ else fX3_win_1 _) else (if tu = 0 then fX3_win_0 _ else fX3_win_1 _))
    have z1 : (1 : Int32) - 0 = 1 := by decide
    have z2 : (1 : Int32) - 1 = 0 := by decide
    by_cases he : en be = 3
    · rw [if_pos he, if_pos he]
      rcases h01 with h | h
      · have h : tu = 0 := h
        subst h
        rw [z1, if_neg d10]
        exact win1 h3 h4
      · have h : tu = 1 := h
        subst h
        rw [z2, if_pos rfl]
        exact win0 h3 h4
    · rw [if_neg he, if_neg he]
      rcases h01 with h | h
      · have h : tu = 0 := h
        subst h
        rw [if_pos rfl]
        exact win0 h3 h4
      · have h : tu = 1 := h
        subst h
        rw [if_neg d10]
        exact win1 h3 h4
theorem one_of {t : Int32} (h : t = 0 ∨ t = 1) (hn : ¬ t = 0) : t = 1 := by
  rcases h with h | h
  · exact absurd h hn
  · exact h
theorem one_sub {t : Int32} (h : t = 0 ∨ t = 1) (hn : ¬ 1 - t = 0) : 1 - t = 1 := by
  rcases h with h | h
  · rw [h]; decide
  · rw [h] at hn
    exact absurd (by decide) hn
theorem pr_leave {i : Nat} {X : Co} {Y : Mo} (hi : i < 512) (h : Rel i X Y) : NX3_leave Y ∧ kStep i X (xX2_leave X) 9 1 9 (fX3_leave Y) := by
  unfold NX3_leave xX2_leave fX3_leave
  by_cases hr : X.2.2.2.2.2.2.2.1 = 0
  · have hz : Y.2.2.2.2.2.2.2.2.1 = 0 := h.ra.trans hr
    refine ⟨⟨fun a => absurd hz a, fun a => absurd hz a, fun a => absurd hz a⟩, ?_⟩
    rw [if_pos hr, if_pos hz]
    exact step_no h d20 rfl
  · have hz : ¬ Y.2.2.2.2.2.2.2.2.1 = 0 := fun a => hr (h.ra.symm.trans a)
    obtain ⟨h1, h2, h3, hg, hs, hb⟩ := h.on hr
    obtain ⟨f1, f2⟩ := full_eq (i := i) (by omega) hg (thr Y 0) hs
    rw [← hb] at f2
    obtain ⟨w1, w2⟩ := win_br (X0 := X) (kA := 9) (kS := 1) (kO := 9) (by omega) ((h.thr 0).sB (c9 X.2.2.2.1) (mom X.2.2.2.1)) rfl hr
    unfold thr at f1 f2 w1 w2
    rw [if_neg hr, if_neg hz, f2]
    exact ⟨⟨fun _ => f1, fun _ _ hn => one_of w1 hn, fun _ _ hn => one_sub w1 hn⟩, w2⟩
