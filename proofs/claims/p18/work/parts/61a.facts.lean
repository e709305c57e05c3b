/-! what the two systems side by side say of the law's questions -/
theorem ft_wr {i : Nat} (hi : i ≤ 512) {X0 X : Co} {Z0 : Zs} {β0 : Option Lb} (h0 : Rel i X0 Z0 β0) (ht : Tr X0 X) : ¬ ((fX2_count_3 X) < (fX2_count_3 X0)) ∧ ((fX2_count_3 X) ≤ ((fX2_count_3 X0) + 1)) := by
  obtain ⟨p1, g1, r1, k1, p2, g2, r2, k2, bs, be, ba, bt, sv, ra, sk, go, mw, wr, ws, le, wg, tu, sk', is, h1, h2, h3, h4, h5, h6⟩ := h0
  subst h1 h2
  obtain ⟨c1, c2, c3, c4, c5, c6, c7, c8, c9⟩ := h6
  have e : (wr + 1).toInt = wr.toInt + 1 := by rw [kadd (by rw [n1]; omega) (by rw [n1]; omega), n1]
  have ht := ht.1
  unfold fX2_count_3
  generalize X.2.2.2.2.2.2.2.2.2.2.2.1 = q at ht
  have ht : q = wr ∨ q = wr + 1 := ht
  show ¬ q < wr ∧ q ≤ wr + 1
  rw [kltI, kleI, e]
  rcases ht with ht | ht <;> rw [ht]
  · omega
  · rw [e]; omega
theorem ft_tn {X0 X : Co} (ht : Tr X0 X) : ((fX2_told_03 X) + (fX2_told_13 X)) = (((fX2_told_03 X0) + (fX2_told_13 X0)) + 1) → ¬ (fX2_count_1 X0) < 0 → (fX2_count_2 X) = ((fX2_count_2 X0) + 1) ∧ (fX2_count_1 X) = ((1 : Int32) - (fX2_count_1 X0)) := by
  intro hp hn
  have hra : ¬ X0.2.2.2.2.2.2.2.1 = 0 := fun h => hn (by unfold fX2_count_1; rw [if_pos h]; decide)
  have e0 : fX2_count_1 X0 = fX2_sideToStrike X0 := if_neg hra
  rcases ht.2 hra with h | ⟨a, b, d⟩
  · have hp : X.1.2.2.2 + X.2.1.2.2.2 = X0.1.2.2.2 + X0.2.1.2.2.2 + 1 := hp
    rw [h] at hp
    exact absurd hp (fun h => by
      have h2 := congrArg Int32.toBitVec h
      generalize X0.1.2.2.2 + X0.2.1.2.2.2 = q at h2
      have h3 : q.toBitVec = q.toBitVec + 1 := h2
      have h4 : q.toBitVec - q.toBitVec = q.toBitVec + 1 - q.toBitVec := congrArg (fun z => z - q.toBitVec) h3
      rw [BitVec.sub_self, BitVec.add_comm, BitVec.add_sub_cancel] at h4
      exact absurd h4 (by decide))
  · refine ⟨b, ?_⟩
    rw [e0]
    show (if X.2.2.2.2.2.2.2.1 = 0 then (-1) else (fX2_sideToStrike X)) = _
    rw [if_neg (by rw [a]; decide)]
    exact d
theorem ft_sums {i : Nat} (hi : i ≤ 512) {X : Co} {Z : Zs} {β : Option Lb} (h : Rel i X Z β) : ¬ ((fX2_count_3 X) < ((fX2_told_02 X) + (fX2_told_12 X))) ∧ (((fX2_told_01 X) + (fX2_told_11 X)) ≤ (fX2_count_8 X)) := by
  obtain ⟨p1, g1, r1, k1, p2, g2, r2, k2, bs, be, ba, bt, sv, ra, sk, go, mw, wr, ws, le, wg, tu, sk', is, h1, h2, h3, h4, h5, h6⟩ := h
  subst h1 h2
  obtain ⟨c1, c2, c3, c4, c5, c6, c7, c8, c9⟩ := h6
  have hg : 0 ≤ g1.toInt ∧ 0 ≤ g2.toInt := by
    rcases h4.2.2.2.2.2 with ⟨a, b, c, d, e⟩ | ⟨a, b, c, d, _⟩ | ⟨a, b, c, d, _⟩
    · exact ⟨b, d⟩
    · exact ⟨by rw [b]; decide, c⟩
    · exact ⟨c, by rw [b]; decide⟩
  show ¬ wr < r1 + r2 ∧ g1 + g2 ≤ wg
  rw [kltI, kleI, kadd (by omega) (by omega), kadd (by omega) (by omega)]
  omega
theorem ft_sides {i : Nat} {X : Co} {Z : Zs} {β : Option Lb} (h : Rel i X Z β) : (¬ ((fX2_told_00 X) < 0) ∧ ¬ ((fX2_count_5 X) ≤ (fX2_told_00 X)) ∧ ¬ ((fX2_told_01 X) < 0) ∧ ¬ (3 < (fX2_told_01 X))) ∧ (¬ ((fX2_told_10 X) < 0) ∧ ¬ ((fX2_count_5 X) ≤ (fX2_told_10 X)) ∧ ¬ ((fX2_told_11 X) < 0) ∧ ¬ (3 < (fX2_told_11 X))) ∧ ((fX2_count_7 X) = 0 ↔ (fX2_told_01 X) = 3) ∧ ((fX2_count_7 X) = 1 ↔ (fX2_told_11 X) = 3) ∧ ¬ ((fX2_count_5 X) < 12) ∧ ¬ (16 < (fX2_count_5 X)) := by
  obtain ⟨p1, g1, r1, k1, p2, g2, r2, k2, bs, be, ba, bt, sv, ra, sk, go, mw, wr, ws, le, wg, tu, sk', is, h1, h2, h3, h4, h5, h6⟩ := h
  subst h1 h2
  obtain ⟨s1, s2, s3, s4, s5, s6⟩ := h4
  have hgo : ¬ go < 12 ∧ ¬ 16 < go := by
    rcases s1 with ⟨_, a⟩ | ⟨_, a | a | a | a⟩ <;> rw [a] <;> decide
  show (¬ p1 < 0 ∧ ¬ go ≤ p1 ∧ ¬ g1 < 0 ∧ ¬ 3 < g1) ∧ (¬ p2 < 0 ∧ ¬ go ≤ p2 ∧ ¬ g2 < 0 ∧ ¬ 3 < g2) ∧ (mw = 0 ↔ g1 = 3) ∧ (mw = 1 ↔ g2 = 3) ∧ ¬ go < 12 ∧ ¬ 16 < go
  have hg : (0 ≤ g1.toInt ∧ g1.toInt ≤ 3) ∧ (0 ≤ g2.toInt ∧ g2.toInt ≤ 3) ∧ (mw = 0 ↔ g1 = 3) ∧ (mw = 1 ↔ g2 = 3) := by
    rcases s6 with ⟨a, b, c, d, e⟩ | ⟨a, b, c, d, _⟩ | ⟨a, b, c, d, _⟩
    · refine ⟨⟨b, by omega⟩, ⟨d, by omega⟩, ?_, ?_⟩
      · rw [a, keqI (a := g1), n3]
        exact ⟨fun h => absurd h (by decide), fun h => by omega⟩
      · rw [a, keqI (a := g2), n3]
        exact ⟨fun h => absurd h (by decide), fun h => by omega⟩
    · refine ⟨⟨by rw [b]; decide, by rw [b]; decide⟩, ⟨c, by omega⟩, ⟨fun _ => b, fun _ => a⟩, ?_⟩
      rw [a, keqI (a := g2), n3]
      exact ⟨fun h => absurd h (by decide), fun h => by omega⟩
    · refine ⟨⟨c, by omega⟩, ⟨by rw [b]; decide, by rw [b]; decide⟩, ?_, ⟨fun _ => b, fun _ => a⟩⟩
      rw [a, keqI (a := g1), n3]
      exact ⟨fun h => absurd h (by decide), fun h => by omega⟩
  obtain ⟨⟨q1, q2⟩, ⟨q3, q4⟩, q5, q6⟩ := hg
  refine ⟨?_, ?_, q5, q6, hgo⟩
  · rw [kltI, kleI, kltI, kltI, n0, n3]; omega
  · rw [kltI, kleI, kltI, kltI, n0, n3]; omega
theorem ft_set {i : Nat} {X : Co} {Z : Zs} {β : Option Lb} (h : Rel i X Z β) : (fX2_count_6 X) = 1 → (fX2_told_00 X) = (fX2_told_10 X) ∧ (fX2_count_5 X) = 12 := by
  intro hc
  have hb : ¬ fX2_canBeSet X = 0 := fun h0 => by
    have e : fX2_count_6 X = 0 := if_pos h0
    rw [e] at hc
    exact absurd hc (by decide)
  unfold fX2_canBeSet at hb
  by_cases c1 : X.2.2.2.2.2.2.2.1 = 0
  · rw [if_pos c1] at hb
    by_cases c2 : X.2.2.2.2.2.2.2.2.2.1 = 12
    · rw [if_pos c2] at hb
      by_cases c3 : X.1.1 = X.2.1.1
      · exact ⟨c3, c2⟩
      · rw [if_neg c3] at hb; exact absurd rfl hb
    · rw [if_neg c2] at hb; exact absurd rfl hb
  · rw [if_neg c1] at hb; exact absurd rfl hb
theorem ft_off {i : Nat} {X : Co} {Z : Zs} (h : Rel i X Z none) : ¬ (0 ≤ (fX2_count_1 X)) ∧ (fX2_end_0 X) = 0 ∧ (fX2_count_2 X) = 0 := by
  have hr := h.off
  obtain ⟨p1, g1, r1, k1, p2, g2, r2, k2, bs, be, ba, bt, sv, ra, sk, go, mw, wr, ws, le, wg, tu, sk', is, h1, h2, h3, h4, h5, h6⟩ := h
  refine ⟨?_, if_pos hr, ?_⟩
  · rw [show fX2_count_1 X = -1 from if_pos hr]; decide
  · subst h1 h2
    rcases h5 with ⟨_, ha, _⟩ | ⟨_, _, _, _, _, _, hb⟩
    · exact ha
    · exact absurd hb (fun h => nomatch h)
/-- the flight that is told, and its end -/
theorem ft_end {i : Nat} (hi : i ≤ 512) {X : Co} {Z : Zs} {β : Option Lb} (h : Rel i X Z β) (hr : ¬ X.2.2.2.2.2.2.2.1 = 0) : ∃ T : Nat, 1 ≤ T ∧ T ≤ 512 ∧ ¬ en (iterE T X.2.2.1) = 0 ∧ (∀ k, k < T → en (iterE k X.2.2.1) = 0) ∧ X.2.2.2.1 = iterE T X.2.2.1 ∧ fX2_end_1 X = nI T ∧ (en X.2.2.2.1 = 0 ∨ en X.2.2.2.1 = 1 ∨ en X.2.2.2.1 = 2 ∨ en X.2.2.2.1 = 3) := by
  obtain ⟨o1, o2, o3, o4, o5⟩ := h.on hr
  obtain ⟨T, t1, t2, t3, t4, t5⟩ := end_at hi ⟨o2.fl, o3⟩
  have e : X.2.2.2.1 = iterE T X.2.2.1 := o4.trans (iterE_far t3 (by omega))
  refine ⟨T, t1, t2, t3, t4, e, ?_, ?_⟩
  · rw [show fX2_end_1 X = mom X.2.2.2.1 from if_neg hr, e, t5, o2.mom0]
    exact (Int32.zero_add _)
  · rw [e]
    exact (iter_fl hi T _ ⟨o2.fl, o3⟩).1
theorem ft_on {i : Nat} (hi : i ≤ 512) {X : Co} {Z : Zs} {β : Option Lb} (h : Rel i X Z β) (hr : ¬ X.2.2.2.2.2.2.2.1 = 0) : (0 ≤ (fX2_count_1 X)) ∧ ¬ (fX2_end_0 X) = 0 ∧ ¬ (fX2_count_2 X) = 0 ∧ ¬ ((fX2_end_0 X) ≤ 0) := by
  obtain ⟨T, t1, t2, t3, t4, t5, t6, t7⟩ := ft_end hi h hr
  have he : ¬ (fX2_end_0 X) = 0 := by
    rw [show fX2_end_0 X = en X.2.2.2.1 from if_neg hr, t5]
    exact t3
  refine ⟨?_, he, ?_, ?_⟩
  · rw [show fX2_count_1 X = fX2_sideToStrike X from if_neg hr, (h.turn hi hr).1]
    rcases (h.turn hi hr).2 with a | a <;> rw [a] <;> decide
  · obtain ⟨p1, g1, r1, k1, p2, g2, r2, k2, bs, be, ba, bt, sv, ra, sk, go, mw, wr, ws, le, wg, tu, sk', is, h1, h2, h3, h4, h5, h6⟩ := h
    subst h1 h2
    rcases h5 with ⟨ha, _⟩ | ⟨_, _, ⟨j, j1, j2, j3, _⟩, _⟩
    · exact absurd ha hr
    · show ¬ sk = 0
      rw [j1, keqI, n0, nI_toInt (by omega)]
      omega
  · rw [show fX2_end_0 X = en X.2.2.2.1 from if_neg hr]
    exact en_le t7 (by rw [t5]; exact t3)
theorem abs_pm {a b : Int32} (h1 : -2 ≤ b.toInt) (h2 : b.toInt ≤ 2) (h : a = b ∨ a = -b) : (if 0 ≤ a then a else 0 - a) = (if 0 ≤ b then b else 0 - b) := by
  rcases h with rfl | rfl
  · rfl
  · have e := kneg (a := b) (by omega)
    have z : ∀ x : Int32, 0 - x = -x := fun x => by simp
    by_cases c : 0 ≤ b
    · rw [if_pos c]
      rw [kleI, n0] at c
      by_cases c2 : 0 ≤ -b
      · rw [if_pos c2]
        rw [kleI, n0, e] at c2
        rw [keqI, e]; omega
      · rw [if_neg c2, z, Int32.neg_neg]
    · rw [if_neg c]
      rw [kleI, n0] at c
      rw [if_pos (by rw [kleI, n0, e]; omega), z]
/-- where the flight stood a moment before -/
def HI (T k : Nat) (bs : Ba) (ro tu bo fr : Int32) : Prop := ∃ P : Ba, P = iterE (min (k - 1) (T - 1)) bs ∧ ro = P.2.1 ∧ tu = P.2.2.2.2.2.2.2.2.1 ∧ bo = P.2.2.2.2.2.2.2.1 ∧ fr = P.2.2.2.2.2.2.1
theorem HI.first {i T : Nat} {bs : Ba} (hg : Good i bs) : HI T 0 bs bs.2.1 0 0 0 :=
  ⟨bs, by rw [Nat.zero_sub, Nat.zero_min]; rfl, rfl, (congrArg (fun z => z.2.2.1) hg.2.2.2.2.2).symm, (congrArg (fun z => z.2.1) hg.2.2.2.2.2).symm, (congrArg (fun z => z.1) hg.2.2.2.2.2).symm⟩
theorem HI.next {T k : Nat} {bs : Ba} (hk : k < T) : HI T (k + 1) bs (iterE k bs).2.1 (iterE k bs).2.2.2.2.2.2.2.2.1 (iterE k bs).2.2.2.2.2.2.2.1 (iterE k bs).2.2.2.2.2.2.1 :=
  ⟨iterE k bs, by rw [Nat.add_sub_cancel, Nat.min_eq_left (by omega)], rfl, rfl, rfl, rfl⟩
theorem HI.stay {T k : Nat} {bs : Ba} {ro tu bo fr : Int32} (h1 : 1 ≤ T) (hk : ¬ k < T) (h : HI T k bs ro tu bo fr) : HI T (k + 1) bs ro tu bo fr := by
  obtain ⟨P, e, r⟩ := h
  refine ⟨P, ?_, r⟩
  rw [e, show min (k - 1) (T - 1) = min (k + 1 - 1) (T - 1) by omega]
/-- a moment that is told -/
theorem ft_mom {i : Nat} (hi : i ≤ 512) {X : Co} {Z : Zs} {β : Option Lb} (h : Rel i X Z β) (hr : ¬ X.2.2.2.2.2.2.2.1 = 0) {T k : Nat} (hT : T ≤ 512) (ht : ∀ k, k < T → en (iterE k X.2.2.1) = 0) (hk : k < T) {ro tu bo fr : Int32} (hI : HI T k X.2.2.1 ro tu bo fr) {B : Ba} (hB : B = iterE k X.2.2.1) (t : Ba) :
    ¬ (B.2.2.1 = (-99)) ∧ ¬ (B.1 < 0) ∧ ¬ (11 < B.1) ∧ ¬ (B.2.1 < 0) ∧ ¬ (29 < B.2.1) ∧ ¬ (B.2.2.1 < 0) ∧ ¬ (2 < (if 0 ≤ (B.2.1 - ro) then (B.2.1 - ro) else 0 - (B.2.1 - ro))) ∧
    (if 0 ≤ B.2.2.2.1 then B.2.2.2.1 else 0 - B.2.2.2.1) = (if 0 ≤ (fX2_ball_3 (XX X B t)) then (fX2_ball_3 (XX X B t)) else 0 - (fX2_ball_3 (XX X B t))) ∧ (if 0 ≤ B.2.2.2.2.1 then B.2.2.2.2.1 else 0 - B.2.2.2.2.1) = (if 0 ≤ (fX2_ball_4 (XX X B t)) then (fX2_ball_4 (XX X B t)) else 0 - (fX2_ball_4 (XX X B t))) ∧
    ¬ (B.2.2.2.2.2.2.1 < fr) ∧ ¬ (B.2.2.2.2.2.2.2.1 < bo) ∧ ¬ (B.2.2.2.2.2.2.2.2.1 < tu) ∧ ¬ (1 < B.2.2.2.2.2.2.2.1) ∧ (B.2.2.2.2.2.2.2.1 = 1 → ¬ B.2.2.2.2.2.2.1 = 0) ∧ (¬ 2 ≤ B.1 → ¬ B.2.1 ≤ 9 → ¬ B.2.1 < 13) := by
  obtain ⟨o1, o2, o3, o4, o5⟩ := h.on hr
  have hF : FN i X.2.2.1 := ⟨o2.fl, o3⟩
  obtain ⟨i1, i2, i3, i4, i5⟩ := iter_fl hi k _ hF
  obtain ⟨⟨⟨hG, hE, hH, _⟩, hN⟩, _⟩ := i4 (ht k hk)
  obtain ⟨⟨cf, cb, cc, cx, cy, c5, c6, c7⟩, _⟩ := iter_cn hi o2 o3 k (by omega)
  obtain ⟨P, eP, r1, r2, r3, r4⟩ := hI
  have hU : Up P (iterE k X.2.2.1) := by
    rw [eP]
    rcases Nat.eq_zero_or_pos k with hz | hz
    · subst hz
      rw [show min (0 - 1) (T - 1) = 0 by omega]
      exact Up.refl _
    · have := (iter_cn hi o2 o3 (k - 1) (by omega)).2
      rw [show k - 1 + 1 = k by omega] at this
      rw [show min (k - 1) (T - 1) = k - 1 by omega]
      exact this
  rw [← hB] at hG hE hH hN cf cb cc cx cy c5 c6 c7 hU
  obtain ⟨g1, g2, g3, g4, g5, g6, g7, g8⟩ := hG
  obtain ⟨u1, u2, u3, u4, u5⟩ := hU
  obtain ⟨b1, b2, b3, b4, b5, b6, b7, b8⟩ := o2.1
  have n99 : ((-99 : Int32)).toInt = -99 := by decide
  refine ⟨?_, ?_, ?_, ?_, ?_, ?_, ?_, ?_, ?_, ?_, ?_, ?_, ?_, ?_, ?_⟩
  · have hH : 0 ≤ B.2.2.1.toInt := hH
    rw [keqI, n99]; omega
  · rw [kltI, n0]; omega
  · rw [kltI, n11]; omega
  · rw [kltI, n0]; omega
  · rw [kltI, n29]; omega
  · have hH : 0 ≤ B.2.2.1.toInt := hH
    rw [kltI, n0]; omega
  · subst r1
    have e : (B.2.1 - P.2.1).toInt = B.2.1.toInt - P.2.1.toInt := ksub (by omega) (by omega)
    by_cases c : 0 ≤ B.2.1 - P.2.1
    · rw [if_pos c, kltI, n2, e]; omega
    · rw [if_neg c, kltI, n2, ksub (by rw [n0, e]; omega) (by rw [n0, e]; omega), n0, e]; omega
  · rw [show fX2_ball_3 (XX X B t) = X.2.2.1.2.2.2.1 from if_neg hr]
    exact abs_pm (by omega) (by omega) cx
  · rw [show fX2_ball_4 (XX X B t) = X.2.2.1.2.2.2.2.1 from if_neg hr]
    exact abs_pm (by omega) (by omega) cy
  · subst r4; rw [kltI]; omega
  · subst r3; rw [kltI]; have u2 : P.2.2.2.2.2.2.2.1.toInt ≤ B.2.2.2.2.2.2.2.1.toInt := u2; omega
  · subst r2; rw [kltI]; omega
  · have c5 : B.2.2.2.2.2.2.2.1 = 0 ∨ B.2.2.2.2.2.2.2.1 = 1 ∧ ¬ B.2.2.2.2.2.2.1 = 0 := c5 hE
    rcases c5 with c5 | ⟨c5, _⟩ <;> rw [c5] <;> decide
  · intro h1
    have c5 : B.2.2.2.2.2.2.2.1 = 0 ∨ B.2.2.2.2.2.2.2.1 = 1 ∧ ¬ B.2.2.2.2.2.2.1 = 0 := c5 hE
    rcases c5 with c5 | ⟨_, c5⟩
    · rw [c5] at h1; exact absurd h1 (by decide)
    · exact c5
  · intro q1 q2 q3
    have hN : (if 1 < B.1 then (0 : Int32) else (if B.2.1 < 10 then 0 else (if 12 < B.2.1 then 0 else 1))) = 0 := hN
    have n13 : ((13 : Int32)).toInt = 13 := by decide
    rw [kleI, n2] at q1
    rw [kleI, n9] at q2
    rw [kltI, n13] at q3
    rw [if_neg (by rw [kltI, n1]; omega), if_neg (by rw [kltI, n10]; omega), if_neg (by rw [kltI, n12]; omega)] at hN
    exact absurd hN (by decide)
/-- behind the flight -/
theorem ft_last {i : Nat} (hi : i ≤ 512) {X : Co} {Z : Zs} {β : Option Lb} (h : Rel i X Z β) (hr : ¬ X.2.2.2.2.2.2.2.1 = 0) {T k : Nat} (h1 : 1 ≤ T) (hT : T ≤ 512) (he : X.2.2.2.1 = iterE T X.2.2.1) {ro tu bo fr : Int32} (hI : HI T k X.2.2.1 ro tu bo fr) (a t : Ba) :
    ((fX2_end_0 X) = 3 → ¬ fX2_end_2 X = 0 ∧ ¬ fX2_end_3 X = 0) ∧ ((fX2_end_0 X) = 2 → fX2_end_3 X = 0) ∧ ¬ ((fX2_end_2 (XX X a t)) < fr) ∧ ¬ ((fX2_end_3 (XX X a t)) < bo) ∧ ¬ ((fX2_end_4 (XX X a t)) < tu) := by
  obtain ⟨o1, o2, o3, o4, o5⟩ := h.on hr
  obtain ⟨⟨cf, cb, cc, cx, cy, c5, c6, c7⟩, _⟩ := iter_cn hi o2 o3 T (by omega)
  obtain ⟨P, eP, r1, r2, r3, r4⟩ := hI
  obtain ⟨m, hm⟩ : ∃ m, T = min (k - 1) (T - 1) + m := ⟨T - min (k - 1) (T - 1), by omega⟩
  have hu := iter_up hi o2 o3 (min (k - 1) (T - 1)) m (by omega)
  rw [← hm, ← eP, ← he] at hu
  rw [← he] at c6 c7
  have e0 : fX2_end_0 X = en X.2.2.2.1 := if_neg hr
  have e2 : fX2_end_2 X = X.2.2.2.1.2.2.2.2.2.2.1 := if_neg hr
  have e3 : fX2_end_3 X = X.2.2.2.1.2.2.2.2.2.2.2.1 := if_neg hr
  rw [show fX2_end_2 (XX X a t) = X.2.2.2.1.2.2.2.2.2.2.1 from if_neg hr, show fX2_end_3 (XX X a t) = X.2.2.2.1.2.2.2.2.2.2.2.1 from if_neg hr, show fX2_end_4 (XX X a t) = X.2.2.2.1.2.2.2.2.2.2.2.2.1 from if_neg hr, e0, e2, e3]
  refine ⟨c6, c7, ?_, ?_, ?_⟩
  · subst r4; rw [kltI]; omega
  · subst r3; rw [kltI]; have := hu.2.1; have this : P.2.2.2.2.2.2.2.1.toInt ≤ X.2.2.2.1.2.2.2.2.2.2.2.1.toInt := this; omega
  · subst r2; rw [kltI]; omega
/-- what a stroke would make of it, at a moment that is told -/
theorem ft_would {i : Nat} (hi : i < 512) {X : Co} {Z : Zs} {β : Option Lb} (h : Rel i X Z β) (hr : ¬ X.2.2.2.2.2.2.2.1 = 0) {k : Nat} (hk : k ≤ 60) (he : en (iterE k X.2.2.1) = 0) : ∃ w : Int32, (¬ nI k ≤ 0 → ∀ a t : Ba, ∃ a9 t9 : Ba, xX2_would (nI k) 0 (-2) 9 (XX X a t) = (0, w, XX X a9 t9)) ∧ (¬ nI k ≤ 0 → (w ≤ 0 ↔ (iterE k X.2.2.1).2.2.2.2.2.2.1 ≤ 0)) := by
  obtain ⟨f, P, hf, hP, hA, hB⟩ := place_br hi h hk
  have hq : Stk 0 (-2) 9 := ⟨by decide, by decide, by decide, by decide, by decide, by decide⟩
  refine ⟨_, fun _ a t => would_br hi hk hf hP hA hq a t, fun h0 => ?_⟩
  have hk0 : 0 < k := by
    rw [kleI, n0, nI_toInt (by omega)] at h0
    omega
  have hb := hB hr hk0 he
  rcases hf with rfl | rfl
  · rw [if_pos rfl]
    have h2 : ¬ ¬ (iterE k X.2.2.1).2.2.2.2.2.2.1 ≤ 0 := fun h => absurd (hb.mpr h) (by decide)
    exact ⟨fun _ => Classical.not_not.mp h2, fun _ => by decide⟩
  · rw [if_neg (by decide)]
    have hF := (La_good (hP rfl) hq).2
    have q1 := (iter_fl (i := i + 1) (by omega) 1000 _ hF)
    exact ⟨fun h => absurd h (en_le q1.1 (q1.2.2.2.2 (by omega))), fun h => absurd h (hb.mp rfl)⟩
/-- advice at a moment -/
theorem ft_adv {i : Nat} (hi : i < 512) {X : Co} {Z : Zs} {β : Option Lb} (h : Rel i X Z β) {k : Nat} (hk : k ≤ 60) : AdW (nI k) X := by
  obtain ⟨f, P, hf, hP, hA, hB⟩ := place_br hi h hk
  have hq : Stk 0 (-2) 9 := ⟨by decide, by decide, by decide, by decide, by decide, by decide⟩
  intro a t
  obtain ⟨v, a9, t9, e1, e2⟩ := advise_br hi hk hf hP hA a t
  refine ⟨v, a9, t9, e1, ?_, ?_⟩
  · rcases e2 with ⟨rfl, _⟩ | ⟨_, u, hu, rfl, _⟩
    · decide
    · rw [kltI, nI_toInt (by omega), show ((250 : Int32)).toInt = 250 from by decide]; omega
  · rcases e2 with ⟨rfl, e3⟩ | ⟨hf1, u, hu, rfl, e3⟩
    · right
      refine ⟨by decide, _, ?_, fun a t => would_br hi hk hf hP hA hq a t⟩
      rcases e3 with e3 | e3
      · rw [if_pos e3]; decide
      · by_cases c : f = 0
        · rw [if_pos c]; decide
        · rw [if_neg c]; exact e3
    · left
      obtain ⟨w1, w2, w3, _⟩ := way1 hu
      refine ⟨by rw [kltI, n0, nI_toInt (by omega)]; omega, fun a t => ?_⟩
      rw [w1, w2, w3]
      obtain ⟨a2, t2, e4⟩ := would_br hi hk hf hP hA (way2 hu) a t
      rw [if_neg (by rw [hf1]; decide), e3] at e4
      exact ⟨a2, t2, e4⟩
theorem ft_adv60 {i : Nat} (hi : i < 512) {X : Co} {Z : Zs} {β : Option Lb} (h : Rel i X Z β) : ∀ r : Int32, 1 ≤ r.toInt → r.toInt ≤ 60 → AdW r X := by
  intro r h1 h2
  obtain ⟨j, hj, rfl⟩ := nI_of (x := r) (by rw [kltI, n0]; omega)
  rw [nI_toInt hj] at h2
  exact ft_adv hi h (by omega)
theorem lg_cmp_self (x : Int64) : lg_cmp x x = 0 := by
  unfold lg_cmp
  rw [if_neg (by simp), if_pos rfl]
