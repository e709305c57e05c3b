/-! numbers: what a comparison says; literals -/
theorem n0 : ((0 : Int32)).toInt = 0 := by decide
theorem n1 : ((1 : Int32)).toInt = 1 := by decide
theorem n2 : ((2 : Int32)).toInt = 2 := by decide
theorem n3 : ((3 : Int32)).toInt = 3 := by decide
theorem n4 : ((4 : Int32)).toInt = 4 := by decide
theorem n9 : ((9 : Int32)).toInt = 9 := by decide
theorem n10 : ((10 : Int32)).toInt = 10 := by decide
theorem n11 : ((11 : Int32)).toInt = 11 := by decide
theorem n12 : ((12 : Int32)).toInt = 12 := by decide
theorem n29 : ((29 : Int32)).toInt = 29 := by decide
theorem n30 : ((30 : Int32)).toInt = 30 := by decide
theorem n60 : ((60 : Int32)).toInt = 60 := by decide
theorem nm1 : ((-1 : Int32)).toInt = -1 := by decide
theorem nm2 : ((-2 : Int32)).toInt = -2 := by decide
theorem keqI {a b : Int32} : a = b ↔ a.toInt = b.toInt := Int32.toInt_inj.symm
theorem kadd {a b : Int32} (h1 : -2147483648 ≤ a.toInt + b.toInt) (h2 : a.toInt + b.toInt ≤ 2147483647) : (a + b).toInt = a.toInt + b.toInt := Jvm.Kit.i32_add (by omega) (by omega)
theorem ksub {a b : Int32} (h1 : -2147483648 ≤ a.toInt - b.toInt) (h2 : a.toInt - b.toInt ≤ 2147483647) : (a - b).toInt = a.toInt - b.toInt := Jvm.Kit.i32_sub (by omega) (by omega)
theorem kneg {a : Int32} (h : -2147483647 ≤ a.toInt) : (-a).toInt = -a.toInt := by
  have h2 := Int32.toInt_lt a
  have e : (-a) = 0 - a := by simp
  rw [e, ksub (by rw [n0]; omega) (by rw [n0]; omega), n0]
  omega
theorem keps {α : Type} {x : Option α} {r d : α} (h : x = some r) : @Classical.epsilon α ⟨d⟩ (fun y => x = some y) = r := by
  have h2 := Classical.epsilon_spec_aux (α := α) ⟨d⟩ (fun y => x = some y) ⟨r, h⟩
  exact Option.some.inj (h2.symm.trans h)
theorem isB_eq (p r : Int32) : fX0_isButtress p r = fX3_isButtress p r := by
  unfold fX0_isButtress fX3_isButtress fX3_isIn
  by_cases h : (1 : Int32) < p
  · have h' : (2 : Int32) ≤ p := by rw [kleI, n2]; rw [kltI, n1] at h; omega
    rw [if_pos h, if_pos h']
  · have h' : ¬ (2 : Int32) ≤ p := by rw [kleI, n2]; rw [kltI, n1] at h; omega
    rw [if_neg h, if_neg h']
    by_cases h2 : r < 10
    · rw [if_pos h2]; rfl
    · rw [if_neg h2]
      by_cases h3 : (12 : Int32) < r
      · rw [if_pos h3]; rfl
      · rw [if_neg h3]; rfl
/-- of the small ways both signs are one -/
theorem sg {x : Int32} (h0 : ¬ x.toInt = 0) (h1 : -2 ≤ x.toInt) (h2 : x.toInt ≤ 2) : fJ6_signum x = fX3_sign x ∧ ((0 < x.toInt ∧ (fX3_sign x).toInt = 1) ∨ (x.toInt < 0 ∧ (fX3_sign x).toInt = -1)) := by
  have h : x = -2 ∨ x = -1 ∨ x = 1 ∨ x = 2 := by
    simp only [keqI, nm2, nm1, n1, n2]
    omega
  rcases h with rfl | rfl | rfl | rfl <;> exact ⟨by decide, by decide⟩
/-- the model's state with another ball looked at -/
def sB (X : Mo) (q : M9) (m : Int32) : Mo := (X.1, X.2.1, X.2.2.1, X.2.2.2.1, X.2.2.2.2.1, q, X.2.2.2.2.2.2.1, X.2.2.2.2.2.2.2.1, X.2.2.2.2.2.2.2.2.1, X.2.2.2.2.2.2.2.2.2.1, X.2.2.2.2.2.2.2.2.2.2.1, X.2.2.2.2.2.2.2.2.2.2.2.1, X.2.2.2.2.2.2.2.2.2.2.2.2.1, X.2.2.2.2.2.2.2.2.2.2.2.2.2.1, X.2.2.2.2.2.2.2.2.2.2.2.2.2.2.1, X.2.2.2.2.2.2.2.2.2.2.2.2.2.2.2.1, X.2.2.2.2.2.2.2.2.2.2.2.2.2.2.2.2.1, m)
theorem sB_sB (X : Mo) (q q' : M9) (m m' : Int32) : sB (sB X q m) q' m' = sB X q' m' := rfl
theorem sB_self (X : Mo) : sB X X.2.2.2.2.2.1 X.2.2.2.2.2.2.2.2.2.2.2.2.2.2.2.2.2 = X := rfl
/-! one column -/
noncomputable def a1 (b : Ba) : Ba :=
  if (b.1 + (fJ6_signum b.2.2.2.1)) < 0 then (b.1, b.2.1, b.2.2.1, (-b.2.2.2.1), b.2.2.2.2.1, b.2.2.2.2.2.1, b.2.2.2.2.2.2.1, b.2.2.2.2.2.2.2.1, (b.2.2.2.2.2.2.2.2.1 + 1), b.2.2.2.2.2.2.2.2.2)
  else if 12 ≤ (b.1 + (fJ6_signum b.2.2.2.1)) then (b.1, b.2.1, b.2.2.1, (-b.2.2.2.1), b.2.2.2.2.1, b.2.2.2.2.2.1, b.2.2.2.2.2.2.1, b.2.2.2.2.2.2.2.1, (b.2.2.2.2.2.2.2.2.1 + 1), b.2.2.2.2.2.2.2.2.2)
  else if (fX0_isButtress (b.1 + (fJ6_signum b.2.2.2.1)) b.2.1) = 0 then ((b.1 + (fJ6_signum b.2.2.2.1)), b.2)
  else (b.1, b.2.1, b.2.2.1, (-b.2.2.2.1), b.2.2.2.2.1, b.2.2.2.2.2.1, b.2.2.2.2.2.2.1, b.2.2.2.2.2.2.2.1, (b.2.2.2.2.2.2.2.2.1 + 1), b.2.2.2.2.2.2.2.2.2)
noncomputable def am (q : M9) : M9 :=
  if (fX3_isIn (q.1 + (fX3_sign q.2.2.2.1)) 0 11) = 0 then (q.1, q.2.1, q.2.2.1, (-q.2.2.2.1), q.2.2.2.2.1, q.2.2.2.2.2.1, q.2.2.2.2.2.2.1, q.2.2.2.2.2.2.2.1, (q.2.2.2.2.2.2.2.2 + 1))
  else if (fX3_isButtress (q.1 + (fX3_sign q.2.2.2.1)) q.2.1) = 0 then ((q.1 + (fX3_sign q.2.2.2.1)), q.2)
  else (q.1, q.2.1, q.2.2.1, (-q.2.2.2.1), q.2.2.2.2.1, q.2.2.2.2.2.1, q.2.2.2.2.2.2.1, q.2.2.2.2.2.2.2.1, (q.2.2.2.2.2.2.2.2 + 1))
noncomputable def itr {α : Type} (f : α → α) : Nat → α → α
  | 0, b => b
  | k + 1, b => itr f k (f b)
theorem LX0_across_s (n : Nat) (n0 i0 : Int32) (b : Ba) : LX0_goAcross (n + 1) n0 i0 b = if n0 ≤ i0 then some b else LX0_goAcross n n0 (i0 + 1) (a1 b) := by
  rw [LX0_goAcross]
  unfold a1
  (repeat' split) <;> rfl
theorem LX3_across_s (n : Nat) (i0 : Int32) (X : Mo) (q : M9) (m : Int32) : LX3_goAcross (n + 1) i0 (sB X q m) = if i0 ≤ 0 then some (sB X q m) else LX3_goAcross n (i0 + (-1)) (sB X (am q) m) := by
  rw [LX3_goAcross]
  unfold am
  show (if i0 ≤ 0 then some (sB X q m) else if (fX3_isIn (q.1 + (fX3_sign q.2.2.2.1)) 0 11) = 0 then LX3_goAcross n (i0 + (-1)) (sB X (q.1, q.2.1, q.2.2.1, (-q.2.2.2.1), q.2.2.2.2.1, q.2.2.2.2.2.1, q.2.2.2.2.2.2.1, q.2.2.2.2.2.2.2.1, (q.2.2.2.2.2.2.2.2 + 1)) m) else if (fX3_isButtress (q.1 + (fX3_sign q.2.2.2.1)) q.2.1) = 0 then LX3_goAcross n (i0 + (-1)) (sB X ((q.1 + (fX3_sign q.2.2.2.1)), q.2) m) else LX3_goAcross n (i0 + (-1)) (sB X (q.1, q.2.1, q.2.2.1, (-q.2.2.2.1), q.2.2.2.2.1, q.2.2.2.2.2.1, q.2.2.2.2.2.2.1, q.2.2.2.2.2.2.2.1, (q.2.2.2.2.2.2.2.2 + 1)) m)) = _
  (repeat' split) <;> rfl
theorem LX0_across (k : Nat) : ∀ (n : Nat) (n0 i0 : Int32) (b : Ba), n0.toInt - i0.toInt = k → k < n → LX0_goAcross n n0 i0 b = some (itr a1 k b) := by
  induction k with
  | zero =>
    intro n n0 i0 b h1 h2
    obtain ⟨n, rfl⟩ : ∃ m, n = m + 1 := ⟨n - 1, by omega⟩
    rw [LX0_across_s, if_pos (by rw [kleI]; omega)]
    rfl
  | succ k ih =>
    intro n n0 i0 b h1 h2
    obtain ⟨n, rfl⟩ : ∃ m, n = m + 1 := ⟨n - 1, by omega⟩
    have h3 := Int32.toInt_lt n0
    rw [LX0_across_s, if_neg (by rw [kleI]; omega)]
    have e := kincI (a := i0) (m := n0.toInt) (by omega) (by omega)
    exact ih n n0 (i0 + 1) (a1 b) (by rw [e]; omega) (by omega)
theorem kdecI {a : Int32} (h : 0 < a.toInt) : (a + (-1)).toInt = a.toInt - 1 := by
  have h2 := Int32.toInt_lt a
  rw [kadd (by rw [nm1]; omega) (by rw [nm1]; omega), nm1]
  omega
theorem LX3_across (k : Nat) : ∀ (n : Nat) (i0 : Int32) (X : Mo) (q : M9) (m : Int32), i0.toInt = k → k < n → LX3_goAcross n i0 (sB X q m) = some (sB X (itr am k q) m) := by
  induction k with
  | zero =>
    intro n i0 X q m h1 h2
    obtain ⟨n, rfl⟩ : ∃ m, n = m + 1 := ⟨n - 1, by omega⟩
    rw [LX3_across_s, if_pos (by rw [kleI, n0]; omega)]
    rfl
  | succ k ih =>
    intro n i0 X q m h1 h2
    obtain ⟨n, rfl⟩ : ∃ m, n = m + 1 := ⟨n - 1, by omega⟩
    rw [LX3_across_s, if_neg (by rw [kleI, n0]; omega)]
    exact ih n (i0 + (-1)) X (am q) m (by rw [kdecI (by omega)]; omega) (by omega)
/-- one column of both: alike; what it keeps -/
theorem a1_br {b : Ba} (h0 : ¬ b.2.2.2.1.toInt = 0) (h1 : -2 ≤ b.2.2.2.1.toInt) (h2 : b.2.2.2.1.toInt ≤ 2) (h3 : 0 ≤ b.1.toInt) (h4 : b.1.toInt ≤ 11) :
    c9 (a1 b) = am (c9 b) ∧ 0 ≤ (a1 b).1.toInt ∧ (a1 b).1.toInt ≤ 11 ∧ ((a1 b).2.2.2.1.toInt = b.2.2.2.1.toInt ∨ (a1 b).2.2.2.1.toInt = -b.2.2.2.1.toInt) ∧ (a1 b).2.1 = b.2.1 ∧ (a1 b).2.2.1 = b.2.2.1 ∧ (a1 b).2.2.2.2.1 = b.2.2.2.2.1 ∧ (a1 b).2.2.2.2.2.1 = b.2.2.2.2.2.1 ∧ (a1 b).2.2.2.2.2.2.1 = b.2.2.2.2.2.2.1 ∧ (a1 b).2.2.2.2.2.2.2.1 = b.2.2.2.2.2.2.2.1 ∧ (a1 b).2.2.2.2.2.2.2.2.2 = b.2.2.2.2.2.2.2.2.2 := by
  obtain ⟨e1, e2⟩ := sg h0 h1 h2
  have hn : (-b.2.2.2.1).toInt = -b.2.2.2.1.toInt := kneg (by omega)
  have hs : (b.1 + fX3_sign b.2.2.2.1).toInt = b.1.toInt + (fX3_sign b.2.2.2.1).toInt := kadd (by omega) (by omega)
  unfold a1 am fX3_isIn
  rw [e1, isB_eq]
  show c9 _ = (if (if (b.1 + fX3_sign b.2.2.2.1) < 0 then 0 else if 11 < (b.1 + fX3_sign b.2.2.2.1) then 0 else (1 : Int32)) = 0 then _ else if fX3_isButtress (b.1 + fX3_sign b.2.2.2.1) b.2.1 = 0 then _ else _) ∧ _
  generalize hnx : b.1 + fX3_sign b.2.2.2.1 = nx at hs ⊢
  by_cases c1 : nx < 0
  · rw [if_pos c1, if_pos c1, if_pos rfl]
    exact ⟨rfl, h3, h4, Or.inr hn, rfl, rfl, rfl, rfl, rfl, rfl, rfl⟩
  · rw [if_neg c1, if_neg c1]
    by_cases c2 : (12 : Int32) ≤ nx
    · have c2' : (11 : Int32) < nx := by rw [kltI, n11]; rw [kleI, n12] at c2; omega
      rw [if_pos c2, if_pos c2', if_pos rfl]
      exact ⟨rfl, h3, h4, Or.inr hn, rfl, rfl, rfl, rfl, rfl, rfl, rfl⟩
    · have c2' : ¬ (11 : Int32) < nx := by rw [kltI, n11]; rw [kleI, n12] at c2; omega
      rw [if_neg c2, if_neg c2', if_neg (by decide : ¬ (1 : Int32) = 0)]
      by_cases c3 : fX3_isButtress nx b.2.1 = 0
      · rw [if_pos c3, if_pos c3]
        rw [kltI, n0] at c1
        rw [kleI, n12] at c2
        exact ⟨rfl, by show 0 ≤ nx.toInt; omega, by show nx.toInt ≤ 11; omega, Or.inl rfl, rfl, rfl, rfl, rfl, rfl, rfl, rfl⟩
      · rw [if_neg c3, if_neg c3]
        exact ⟨rfl, h3, h4, Or.inr hn, rfl, rfl, rfl, rfl, rfl, rfl, rfl⟩
theorem itr_br (k : Nat) : ∀ (b : Ba), ¬ b.2.2.2.1.toInt = 0 → -2 ≤ b.2.2.2.1.toInt → b.2.2.2.1.toInt ≤ 2 → 0 ≤ b.1.toInt → b.1.toInt ≤ 11 →
    c9 (itr a1 k b) = itr am k (c9 b) ∧ 0 ≤ (itr a1 k b).1.toInt ∧ (itr a1 k b).1.toInt ≤ 11 ∧ -2 ≤ (itr a1 k b).2.2.2.1.toInt ∧ (itr a1 k b).2.2.2.1.toInt ≤ 2 ∧ (itr a1 k b).2.1 = b.2.1 ∧ (itr a1 k b).2.2.1 = b.2.2.1 ∧ (itr a1 k b).2.2.2.2.1 = b.2.2.2.2.1 ∧ (itr a1 k b).2.2.2.2.2.1 = b.2.2.2.2.2.1 ∧ (itr a1 k b).2.2.2.2.2.2.1 = b.2.2.2.2.2.2.1 ∧ (itr a1 k b).2.2.2.2.2.2.2.1 = b.2.2.2.2.2.2.2.1 ∧ (itr a1 k b).2.2.2.2.2.2.2.2.2 = b.2.2.2.2.2.2.2.2.2 := by
  induction k with
  | zero => intro b h0 h1 h2 h3 h4; exact ⟨rfl, h3, h4, h1, h2, rfl, rfl, rfl, rfl, rfl, rfl, rfl⟩
  | succ k ih =>
    intro b h0 h1 h2 h3 h4
    obtain ⟨g1, g2, g3, g4, g5, g6, g7, g8, g9, g10, g11⟩ := a1_br h0 h1 h2 h3 h4
    obtain ⟨f1, f2, f3, f4, f5, f6, f7, f8, f9, f10, f11, f12⟩ := ih (a1 b) (by omega) (by omega) (by omega) g2 g3
    refine ⟨?_, f2, f3, f4, f5, f6.trans g5, f7.trans g6, f8.trans g7, f9.trans g8, f10.trans g9, f11.trans g10, f12.trans g11⟩
    show c9 (itr a1 k (a1 b)) = itr am k (am (c9 b))
    rw [f1, g1]
theorem kabs {x : Int32} (h1 : -2 ≤ x.toInt) (h2 : x.toInt ≤ 2) : ∃ k : Nat, k ≤ 2 ∧ (if 0 ≤ x then x else 0 - x).toInt = k ∧ (k = 0 ↔ x.toInt = 0) := by
  by_cases h : 0 ≤ x
  · rw [if_pos h]
    rw [kleI, n0] at h
    exact ⟨x.toInt.toNat, by omega, by omega, by omega⟩
  · rw [if_neg h]
    rw [kleI, n0] at h
    refine ⟨(-x.toInt).toNat, by omega, ?_, by omega⟩
    rw [ksub (by rw [n0]; omega) (by rw [n0]; omega), n0]
    omega
/-- across: both balls alike -/
theorem across_br (X : Mo) (m : Int32) {b : Ba} (h1 : -2 ≤ b.2.2.2.1.toInt) (h2 : b.2.2.2.1.toInt ≤ 2) (h3 : 0 ≤ b.1.toInt) (h4 : b.1.toInt ≤ 11) :
    ∃ B : Ba, fX0_goAcross b = B ∧ fX3_goAcross (sB X (c9 b) m) = sB X (c9 B) m ∧ 0 ≤ B.1.toInt ∧ B.1.toInt ≤ 11 ∧ -2 ≤ B.2.2.2.1.toInt ∧ B.2.2.2.1.toInt ≤ 2 ∧ B.2.1 = b.2.1 ∧ B.2.2.1 = b.2.2.1 ∧ B.2.2.2.2.1 = b.2.2.2.2.1 ∧ B.2.2.2.2.2.1 = b.2.2.2.2.2.1 ∧ B.2.2.2.2.2.2.1 = b.2.2.2.2.2.2.1 ∧ B.2.2.2.2.2.2.2.1 = b.2.2.2.2.2.2.2.1 ∧ B.2.2.2.2.2.2.2.2.2 = b.2.2.2.2.2.2.2.2.2 := by
  obtain ⟨k, hk, e, hz⟩ := kabs h1 h2
  have e0 : fX0_goAcross b = itr a1 k b := keps (d := b) (LX0_across k _ _ 0 b (by rw [e, n0]; omega) (by omega))
  have e3 : fX3_goAcross (sB X (c9 b) m) = sB X (itr am k (c9 b)) m := keps (d := sB X (c9 b) m) (LX3_across k _ _ X (c9 b) m e (by omega))
  by_cases h0 : b.2.2.2.1.toInt = 0
  · have : k = 0 := hz.mpr h0
    subst this
    exact ⟨b, e0, e3, h3, h4, h1, h2, rfl, rfl, rfl, rfl, rfl, rfl, rfl⟩
  · obtain ⟨f1, f2⟩ := itr_br k b h0 h1 h2 h3 h4
    exact ⟨_, e0, by rw [e3, f1], f2⟩
