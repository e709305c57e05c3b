/-! every stroke tried: both loops -/
theorem mom_b {i : Nat} (hi : i ≤ 512) {b : Ba} (hg : Good i b) : 1 ≤ (mom (iterE 1000 b)).toInt ∧ (mom (iterE 1000 b)).toInt ≤ 512 := by
  obtain ⟨T, t1, t2, t3, t4, t5⟩ := end_at hi 512 b hg.fl (Fl.low hi hg.fl).2.1
  have h1 : iterE 1000 b = iterE T b := iterE_far t3 (by omega)
  have h2 : (mom (iterE T b)).toInt = (T : Int) := by
    rw [t5, hg.mom0, Int32.zero_add]
    exact nIi (by omega)
  rw [h1, h2]
  omega
def cA (w : Nat) : Int32 := nI (w / 50) - 2
def cL (w : Nat) : Int32 := nI (w / 10 % 5) - 2
def cR (w : Nat) : Int32 := nI (w % 10)
theorem way1 {w : Nat} (h : w < 250) : nI w / 50 - 2 = cA w ∧ (nI w / 10 - nI w / 10 / 5 * 5) - 2 = cL w ∧ nI w - nI w / 10 * 10 = cR w ∧ 50 * (cA w + 2) + 10 * (cL w + 2) + cR w = nI w ∧ ¬ 9 < cR w ∧ ¬ nI w = -1 ∧ ¬ 250 ≤ nI w := by
  have h2 : ∀ w : Fin 250, nI w.val / 50 - 2 = cA w.val ∧ (nI w.val / 10 - nI w.val / 10 / 5 * 5) - 2 = cL w.val ∧ nI w.val - nI w.val / 10 * 10 = cR w.val ∧ 50 * (cA w.val + 2) + 10 * (cL w.val + 2) + cR w.val = nI w.val ∧ ¬ 9 < cR w.val ∧ ¬ nI w.val = -1 ∧ ¬ 250 ≤ nI w.val := by decide +kernel
  exact h2 ⟨w, h⟩
theorem way2 {w : Nat} (h : w < 250) : ¬ fX3_isStroke (cA w) (cL w) (cR w) = 0 := by
  have h2 : ∀ w : Fin 250, ((-2) ≤ (cA w.val).toInt ∧ (cA w.val).toInt ≤ 2) ∧ ((-2) ≤ (cL w.val).toInt ∧ (cL w.val).toInt ≤ 2) ∧ (0 ≤ (cR w.val).toInt ∧ (cR w.val).toInt ≤ 9) := by decide +kernel
  have h3 : ((-2) ≤ (cA w).toInt ∧ (cA w).toInt ≤ 2) ∧ ((-2) ≤ (cL w).toInt ∧ (cL w).toInt ≤ 2) ∧ (0 ≤ (cR w).toInt ∧ (cR w).toInt ≤ 9) := h2 ⟨w, h⟩
  obtain ⟨⟨a1, a2⟩, ⟨b1, b2⟩, c1, c2⟩ := h3
  unfold fX3_isStroke
  have e0 : fX3_isIn (cA w) (-2) 2 = 1 := by
    rcases isIn_br (cA w) (-2) 2 with ⟨_, e⟩ | ⟨e, _⟩
    · rw [nm2, n2] at e
      omega
    · exact e
  have e1 : fX3_isIn (cL w) (-2) 2 = 1 := by
    rcases isIn_br (cL w) (-2) 2 with ⟨_, e⟩ | ⟨e, _⟩
    · rw [nm2, n2] at e
      omega
    · exact e
  have e2 : fX3_isIn (cR w) 0 9 = 1 := by
    rcases isIn_br (cR w) 0 9 with ⟨_, e⟩ | ⟨e, _⟩
    · rw [n0, n9] at e
      omega
    · exact e
  rw [e0, e1, e2]
  decide
theorem way3 {w : Nat} (h : w < 249) (h9 : ¬ w % 10 = 9) : cR w + 1 = cR (w + 1) ∧ cL w = cL (w + 1) ∧ cA w = cA (w + 1) := by
  have h2 : ∀ w : Fin 249, ¬ w.val % 10 = 9 → cR w.val + 1 = cR (w.val + 1) ∧ cL w.val = cL (w.val + 1) ∧ cA w.val = cA (w.val + 1) := by decide +kernel
  exact h2 ⟨w, h⟩ h9
theorem way4 {w : Nat} (h : w < 249) (h9 : w % 10 = 9) (h5 : ¬ w % 50 = 49) : 9 < cR w + 1 ∧ ¬ 2 < cL w + 1 ∧ cL w + 1 = cL (w + 1) ∧ 0 = cR (w + 1) ∧ cA w = cA (w + 1) := by
  have h2 : ∀ w : Fin 249, w.val % 10 = 9 → ¬ w.val % 50 = 49 → 9 < cR w.val + 1 ∧ ¬ 2 < cL w.val + 1 ∧ cL w.val + 1 = cL (w.val + 1) ∧ 0 = cR (w.val + 1) ∧ cA w.val = cA (w.val + 1) := by decide +kernel
  exact h2 ⟨w, h⟩ h9 h5
theorem way5 {w : Nat} (h : w < 249) (h5 : w % 50 = 49) : 9 < cR w + 1 ∧ 2 < cL w + 1 ∧ ¬ 2 < cA w + 1 ∧ -2 = cL (w + 1) ∧ 0 = cR (w + 1) ∧ cA w + 1 = cA (w + 1) := by
  have h2 : ∀ w : Fin 249, w.val % 50 = 49 → 9 < cR w.val + 1 ∧ 2 < cL w.val + 1 ∧ ¬ 2 < cA w.val + 1 ∧ -2 = cL (w.val + 1) ∧ 0 = cR (w.val + 1) ∧ cA w.val + 1 = cA (w.val + 1) := by decide +kernel
  exact h2 ⟨w, h⟩ h5
theorem SD0 (n : Nat) (v1 v2 v3 v4 v5 : Int32) (X : Co) : LX2_shortestDeadStroke (n + 1) 0 v1 v2 v3 v4 v5 X = if 2 < v3 then some (v1, X) else LX2_shortestDeadStroke n 1 v1 v2 v3 (-2) 0 X := rfl
theorem SD1 (n : Nat) (v1 v2 v3 v4 v5 : Int32) (X : Co) : LX2_shortestDeadStroke (n + 1) 1 v1 v2 v3 v4 v5 X = if 2 < v4 then LX2_shortestDeadStroke n 0 v1 v2 (v3 + 1) 0 0 X else LX2_shortestDeadStroke n 2 v1 v2 v3 v4 0 X := rfl
theorem SD2 (n : Nat) (v1 v2 v3 v4 v5 : Int32) (X : Co) : LX2_shortestDeadStroke (n + 1) 2 v1 v2 v3 v4 v5 X = if 9 < v5 then LX2_shortestDeadStroke n 1 v1 v2 v3 (v4 + 1) 0 X
    else if en (fX2_tryStroke v3 v4 v5 v2 X).2.2.2.2.2.1 = 3 then LX2_shortestDeadStroke n 2 (((50 * (v3 + 2)) + (10 * (v4 + 2))) + v5) (mom (fX2_tryStroke v3 v4 v5 v2 X).2.2.2.2.2.1 - 1) v3 v4 (v5 + 1) (fX2_tryStroke v3 v4 v5 v2 X)
    else LX2_shortestDeadStroke n 2 v1 v2 v3 v4 (v5 + 1) (fX2_tryStroke v3 v4 v5 v2 X) := rfl
theorem lm2 : ¬ (2 : Int32) < -2 := by decide
/-- on to the next way -/
theorem way_on {w : Nat} (h : w < 249) : ∃ k : Nat, k ≤ 4 ∧ ∀ (n : Nat) (v1 v2 : Int32) (X : Co), LX2_shortestDeadStroke (n + k) 2 v1 v2 (cA w) (cL w) (cR w + 1) X = LX2_shortestDeadStroke n 2 v1 v2 (cA (w + 1)) (cL (w + 1)) (cR (w + 1)) X := by
  by_cases h9 : w % 10 = 9
  · by_cases h5 : w % 50 = 49
    · obtain ⟨a1, a2, a3, a4, a5, a6⟩ := way5 h h5
      refine ⟨4, by omega, fun n v1 v2 X => ?_⟩
      rw [SD2, if_pos a1, SD1, if_pos a2, SD0, if_neg a3, SD1, if_neg lm2, a6, ← a4, ← a5]
    · obtain ⟨a1, a2, a3, a4, a5⟩ := way4 h h9 h5
      refine ⟨2, by omega, fun n v1 v2 X => ?_⟩
      rw [SD2, if_pos a1, SD1, if_neg a2, a3, ← a4, a5]
  · obtain ⟨a1, a2, a3⟩ := way3 h h9
    refine ⟨0, by omega, fun n v1 v2 X => ?_⟩
    rw [a1, a2, a3]
    rfl
theorem way_end (n : Nat) (v1 v2 : Int32) (X : Co) : LX2_shortestDeadStroke (n + 3) 2 v1 v2 (cA 249) (cL 249) (cR 249 + 1) X = some (v1, X) := by
  rw [SD2, if_pos (by decide), SD1, if_pos (by decide), SD0, if_pos (by decide)]
def XX (X : Co) (a t : Ba) : Co := (X.1, X.2.1, X.2.2.1, X.2.2.2.1, a, t, X.2.2.2.2.2.2)
def Inv (v1 v2 v3 : Int32) : Prop := (v1 = -1 ∧ v2 = 1000000) ∨ (¬ v1 = -1 ∧ v2 = v3 - 1 ∧ 1 ≤ v3.toInt)
theorem B3_s (m : Nat) (p0 v1 v3 : Int32) {w : Nat} (hw : w < 250) (Z : Mo) (hN : NX3_endOf p0 (cA w) (cL w) (cR w) Z) :
    LX3_bestAt (m + 1) p0 v1 v3 (nI w) Z = (if (fX3_endOf p0 (cA w) (cL w) (cR w) Z).1 = 3 then (if v1 = -1 then LX3_bestAt m p0 (nI w) (fX3_endOf p0 (cA w) (cL w) (cR w) Z).2.2.2.2.2.2.2.2.2.2.2.2.2.2.2.2.2.2 (nI (w + 1)) (fX3_endOf p0 (cA w) (cL w) (cR w) Z).2
        else (if (fX3_endOf p0 (cA w) (cL w) (cR w) Z).2.2.2.2.2.2.2.2.2.2.2.2.2.2.2.2.2.2 < v3 then LX3_bestAt m p0 (nI w) (fX3_endOf p0 (cA w) (cL w) (cR w) Z).2.2.2.2.2.2.2.2.2.2.2.2.2.2.2.2.2.2 (nI (w + 1)) (fX3_endOf p0 (cA w) (cL w) (cR w) Z).2
          else LX3_bestAt m p0 v1 v3 (nI (w + 1)) (fX3_endOf p0 (cA w) (cL w) (cR w) Z).2))
      else LX3_bestAt m p0 v1 v3 (nI (w + 1)) (fX3_endOf p0 (cA w) (cL w) (cR w) Z).2) := by
  obtain ⟨a1, a2, a3, a4, a5, a6, a7⟩ := way1 hw
  rw [LX3_bestAt, if_neg a7, a1, a2, a3, nIs, if_pos hN]
theorem step_way {i : Nat} {X : Co} {Z : Mo} (hi : i < 512) (h : Rel i X Z) {p0 : Int32} (hp : 0 ≤ p0.toInt) {a : Ba} (hX : fX2_placeAhead p0 X = (1, (X.1, X.2.1, X.2.2.1, X.2.2.2.1, a, X.2.2.2.2.2))) {w : Nat} (hw : w < 250) {v1 v2 v3 : Int32} (hI : Inv v1 v2 v3) (t : Ba) :
    ∃ (v1' v2' v3' : Int32) (t' : Ba) (q' : M9) (m' : Int32), Inv v1' v2' v3' ∧
      (∀ n : Nat, LX2_shortestDeadStroke (n + 1) 2 v1 v2 (cA w) (cL w) (cR w) (XX X a t) = LX2_shortestDeadStroke n 2 v1' v2' (cA w) (cL w) (cR w + 1) (XX X a t')) ∧
      (∀ m : Nat, LX3_bestAt (m + 1) p0 v1 v3 (nI w) Z = LX3_bestAt m p0 v1' v3' (nI (w + 1)) (sB Z q' m')) := by
  obtain ⟨a', f, q, m0, c1, c2, c3, c4⟩ := place_br hi h (p0 := p0) hp
  rw [hX] at c1
  have hf : f = 1 := (congrArg Prod.fst c1).symm
  have ha : a' = a := (congrArg (fun z : Int32 × Co => z.2.2.2.2.2.1) c1).symm
  subst hf ha
  obtain ⟨b1, b2, b3, b4, b5, b6, b7⟩ := way1 hw
  have hq := way2 hw
  obtain ⟨u1, u2⟩ := endOf_br hi c2 c3 c4 hq
  rcases u2 with ⟨v, _⟩ | ⟨_, hG, hE⟩
  · exact absurd v d10
  · have S3 := fun m => B3_s m p0 v1 v3 hw Z u1
    have hT : fX2_tryStroke (cA w) (cL w) (cR w) v2 (XX X a' t) = XX X a' (iterE v2.toInt.toNat (La a' (cA w) (cL w) (cR w))) := by
      rw [← fly_eq]
      rfl
    have S2 : ∀ n : Nat, LX2_shortestDeadStroke (n + 1) 2 v1 v2 (cA w) (cL w) (cR w) (XX X a' t) = if en (iterE v2.toInt.toNat (La a' (cA w) (cL w) (cR w))) = 3 then LX2_shortestDeadStroke n 2 (nI w) (mom (iterE v2.toInt.toNat (La a' (cA w) (cL w) (cR w))) - 1) (cA w) (cL w) (cR w + 1) (XX X a' (iterE v2.toInt.toNat (La a' (cA w) (cL w) (cR w)))) else LX2_shortestDeadStroke n 2 v1 v2 (cA w) (cL w) (cR w + 1) (XX X a' (iterE v2.toInt.toNat (La a' (cA w) (cL w) (cR w)))) := by
      intro n
      rw [SD2, if_neg b5, hT, b4]
      rfl
    obtain ⟨mb1, mb2⟩ := mom_b (i := i + 1) (by omega) hG
    have hv2 : 0 ≤ v2.toInt := by
      rcases hI with ⟨_, e⟩ | ⟨_, e, e2⟩
      · rw [e, nmill]; omega
      · have h3 := Int32.toInt_lt v3
        rw [e, ksub (by rw [n1]; omega) (by rw [n1]; omega), n1]
        omega
    rw [hE] at S3
    generalize hL : La a' (cA w) (cL w) (cR w) = L at *
    rcases ended (i := i + 1) (by omega) hG hv2 with ⟨x1, x2, x3⟩ | ⟨x1, x2, x3⟩
    · -- not ended by then: no side takes it
      rw [kltI] at x1
      have hn : ¬ v1 = -1 := by
        intro e
        rcases hI with ⟨_, e2⟩ | ⟨e2, _⟩
        · rw [e2, nmill] at x1
          omega
        · exact e2 e
      have hlt : ¬ mom (iterE 1000 L) < v3 := by
        rcases hI with ⟨e, _⟩ | ⟨_, e, e2⟩
        · exact absurd e hn
        · have h3 := Int32.toInt_lt v3
          rw [e, ksub (by rw [n1]; omega) (by rw [n1]; omega), n1] at x1
          rw [kltI]
          omega
      refine ⟨v1, v2, v3, iterE v2.toInt.toNat L, c9 (iterE 1000 L), mom (iterE 1000 L), hI, fun n => ?_, fun m => ?_⟩
      · rw [S2, if_neg (by rw [x2]; decide)]
      · rw [S3, if_neg hn, if_neg (show ¬ (en (iterE 1000 L), sB Z (c9 (iterE 1000 L)) (mom (iterE 1000 L))).2.2.2.2.2.2.2.2.2.2.2.2.2.2.2.2.2.2 < v3 from hlt), ite_self]
    · rw [x3] at S2 x2
      by_cases h3 : en (iterE 1000 L) = 3
      · refine ⟨nI w, mom (iterE 1000 L) - 1, mom (iterE 1000 L), iterE 1000 L, c9 (iterE 1000 L), mom (iterE 1000 L), Or.inr ⟨b6, rfl, mb1⟩, fun n => ?_, fun m => ?_⟩
        · rw [S2, if_pos h3]
        · rw [S3, if_pos (show (en (iterE 1000 L), sB Z (c9 (iterE 1000 L)) (mom (iterE 1000 L))).1 = 3 from h3)]
          by_cases hn : v1 = -1
          · rw [if_pos hn]
            rfl
          · rw [if_neg hn]
            have hlt : mom (iterE 1000 L) < v3 := by
              rcases hI with ⟨e, _⟩ | ⟨_, e, e2⟩
              · exact absurd e hn
              · have h4 := Int32.toInt_lt v3
                rw [kltI, e, ksub (by rw [n1]; omega) (by rw [n1]; omega), n1] at x1
                rw [kltI]
                omega
            rw [if_pos (show (en (iterE 1000 L), sB Z (c9 (iterE 1000 L)) (mom (iterE 1000 L))).2.2.2.2.2.2.2.2.2.2.2.2.2.2.2.2.2.2 < v3 from hlt)]
            rfl
      · refine ⟨v1, v2, v3, iterE 1000 L, c9 (iterE 1000 L), mom (iterE 1000 L), hI, fun n => ?_, fun m => ?_⟩
        · rw [S2, if_neg h3]
        · rw [S3, if_neg (show ¬ (en (iterE 1000 L), sB Z (c9 (iterE 1000 L)) (mom (iterE 1000 L))).1 = 3 from h3)]
theorem loop_way {i : Nat} {X : Co} (hi : i < 512) {p0 : Int32} (hp : 0 ≤ p0.toInt) {a : Ba} (hX : fX2_placeAhead p0 X = (1, (X.1, X.2.1, X.2.2.1, X.2.2.2.1, a, X.2.2.2.2.2))) (r : Nat) : ∀ (w n m : Nat) (v1 v2 v3 : Int32) (t : Ba) (Z : Mo), w + r = 249 → 6 * r + 3 ≤ n → r + 1 ≤ m → Inv v1 v2 v3 → Rel i X Z →
    ∃ (v : Int32) (t' : Ba) (q' : M9) (m' : Int32), LX2_shortestDeadStroke n 2 v1 v2 (cA w) (cL w) (cR w + 1) (XX X a t) = some (v, XX X a t') ∧ LX3_bestAt m p0 v1 v3 (nI (w + 1)) Z = some (v, sB Z q' m') := by
  induction r with
  | zero =>
    intro w n m v1 v2 v3 t Z h1 h2 h3 h4 h5
    have hw : w = 249 := by omega
    subst hw
    obtain ⟨n, rfl⟩ : ∃ k, n = k + 3 := ⟨n - 3, by omega⟩
    obtain ⟨m, rfl⟩ : ∃ k, m = k + 1 := ⟨m - 1, by omega⟩
    refine ⟨v1, t, Z.2.2.2.2.2.1, Z.2.2.2.2.2.2.2.2.2.2.2.2.2.2.2.2.2, way_end n v1 v2 _, ?_⟩
    rw [LX3_bestAt, if_pos (by decide)]
    rfl
  | succ r ih =>
    intro w n m v1 v2 v3 t Z h1 h2 h3 h4 h5
    obtain ⟨k, k1, k2⟩ := way_on (w := w) (by omega)
    obtain ⟨n, rfl⟩ : ∃ j, n = j + 1 + k := ⟨n - 1 - k, by omega⟩
    obtain ⟨m, rfl⟩ : ∃ j, m = j + 1 := ⟨m - 1, by omega⟩
    obtain ⟨v1', v2', v3', t', q', m', s1, s2, s3⟩ := step_way hi h5 hp hX (w := w + 1) (by omega) h4 t
    rw [k2, s2, s3]
    obtain ⟨v, t2, q2, m2, r1, r2⟩ := ih (w + 1) n m v1' v2' v3' t' (sB Z q' m') (by omega) (by omega) (by omega) s1 (h5.sB q' m')
    exact ⟨v, t2, q2, m2, r1, r2⟩
/-- no ball to strike: nothing is best -/
theorem loop_no {i : Nat} {X : Co} (hi : i < 512) {p0 : Int32} (hp : 0 ≤ p0.toInt) (hX : (fX2_placeAhead p0 X).1 = 0) (r : Nat) : ∀ (w m : Nat) (Z : Mo), w + r = 250 → r + 1 ≤ m → Rel i X Z →
    ∃ (q' : M9) (m' : Int32), LX3_bestAt m p0 (-1) 0 (nI w) Z = some (-1, sB Z q' m') := by
  induction r with
  | zero =>
    intro w m Z h1 h3 h5
    have hw : w = 250 := by omega
    subst hw
    obtain ⟨m, rfl⟩ : ∃ k, m = k + 1 := ⟨m - 1, by omega⟩
    refine ⟨Z.2.2.2.2.2.1, Z.2.2.2.2.2.2.2.2.2.2.2.2.2.2.2.2.2, ?_⟩
    rw [LX3_bestAt, if_pos (by decide)]
    rfl
  | succ r ih =>
    intro w m Z h1 h3 h5
    obtain ⟨m, rfl⟩ : ∃ j, m = j + 1 := ⟨m - 1, by omega⟩
    obtain ⟨a', f, q, m0, c1, c2, c3, c4⟩ := place_br hi h5 (p0 := p0) hp
    rw [c1] at hX
    have hf : f = 0 := hX
    subst hf
    obtain ⟨u1, u2⟩ := endOf_br hi c2 c3 c4 (way2 (w := w) (by omega))
    rcases u2 with ⟨_, hE⟩ | ⟨v, _⟩
    · rw [B3_s m p0 (-1) 0 (by omega) Z u1, hE, if_neg (show ¬ ((-1 : Int32), sB Z q m0).1 = 3 from (by decide : ¬ (-1 : Int32) = 3))]
      obtain ⟨q', m', e⟩ := ih (w + 1) m (sB Z q m0) (by omega) (by omega) (h5.sB q m0)
      exact ⟨q', m', e⟩
    · exact absurd v.symm d10
theorem pr_advise {i : Nat} {X : Co} {Y : Mo} (p0 : Int32) (hi : i < 512) (h : Rel i X Y) : NX3_advise p0 Y ∧ kStep i X (xX2_advise p0 X) 1 9 9 (fX3_advise p0 Y) := by
  have hq0 : fX2_isLookAhead p0 = fX3_isIn p0 0 60 := rfl
  unfold NX3_advise xX2_advise fX3_advise
  rw [hq0]
  rcases isIn_br p0 0 60 with ⟨e, _⟩ | ⟨e, a1, a2⟩
  · refine ⟨fun a => absurd e a, ?_⟩
    rw [if_pos e, if_pos e]
    exact step_no h d10 rfl
  · have e' : ¬ fX3_isIn p0 0 60 = 0 := by rw [e]; exact d10
    rw [if_neg e', if_neg e']
    rw [n0] at a1
    have h0 := h.thr 0
    obtain ⟨a, f, q, m, c1, c2, c3, c4⟩ := place_br hi h0 (p0 := p0) a1
    rcases c3 with hf | hf
    · subst hf
      obtain ⟨q', m', b1⟩ := loop_no hi (p0 := p0) a1 (by rw [c1]) 250 0 300 (thr Y 0) (by omega) (by omega) h0
      have b2 : FX3_bestAt p0 (thr Y 0) = some (-1, sB (thr Y 0) q' m') := b1
      have b3 : fX3_bestAt p0 (thr Y 0) = (-1, sB (thr Y 0) q' m') := keps (d := (0, thr Y 0)) b2
      unfold thr at b2 b3
      refine ⟨fun _ => by unfold NX3_bestAt; rw [b2]; rfl, ?_⟩
      rw [c1, if_pos (show ((0 : Int32), _).1 = 0 from rfl), b3]
      exact step_ok rfl rfl ((h0.sB q' m').look a X.2.2.2.2.2.1).mono
    · subst hf
      obtain ⟨v1', v2', v3', t', q1, m1, s1, s2, s3⟩ := step_way hi h0 a1 c1 (w := 0) (by omega) (Or.inl ⟨rfl, rfl⟩ : Inv (-1) 1000000 0) X.2.2.2.2.2.1
      obtain ⟨v, t2, q2, m2, r1, r2⟩ := loop_way hi a1 c1 249 0 1997 299 v1' v2' v3' t' (sB (thr Y 0) q1 m1) (by omega) (by omega) (by omega) s1 (h0.sB q1 m1)
      have b2 : FX3_bestAt p0 (thr Y 0) = some (v, sB (thr Y 0) q2 m2) := (s3 299).trans r2
      have b3 : fX3_bestAt p0 (thr Y 0) = (v, sB (thr Y 0) q2 m2) := keps (d := (0, thr Y 0)) b2
      have e2 : FX2_shortestDeadStroke (XX X a X.2.2.2.2.2.1) = some (v, XX X a t2) := by
        unfold FX2_shortestDeadStroke
        rw [SD0, if_neg lm2, SD1, if_neg lm2]
        exact (s2 1997).trans r1
      have e3 : fX2_shortestDeadStroke (XX X a X.2.2.2.2.2.1) = (v, XX X a t2) := keps (d := (0, XX X a X.2.2.2.2.2.1)) e2
      unfold thr at b2 b3
      refine ⟨fun _ => by unfold NX3_bestAt; rw [b2]; rfl, ?_⟩
      rw [c1, if_neg (show ¬ ((1 : Int32), _).1 = 0 from d10), b3]
      show kStep i X (0, (fX2_shortestDeadStroke (XX X a X.2.2.2.2.2.1)).1, (fX2_shortestDeadStroke (XX X a X.2.2.2.2.2.1)).2) 1 9 9 _
      rw [e3]
      exact step_ok rfl rfl ((h0.sB q2 m2).look a t2).mono
