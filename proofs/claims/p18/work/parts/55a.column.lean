/-! one column, both balls -/
theorem free_br (x y : Int32) : (fX3_isFree x y = 0 ∧ (x < 0 ∨ 12 ≤ x ∨ ¬ fX0_isButtress x y = 0)) ∨ (fX3_isFree x y = 1 ∧ ¬ x < 0 ∧ ¬ 12 ≤ x ∧ fX0_isButtress x y = 0) := by
  unfold fX3_isFree fX0_isButtress
  by_cases h1 : x < 0
  · rw [if_pos h1]; exact Or.inl ⟨rfl, Or.inl h1⟩
  · rw [if_neg h1]
    by_cases h2 : 12 ≤ x
    · rw [if_pos h2]; exact Or.inl ⟨rfl, Or.inr (Or.inl h2)⟩
    · rw [if_neg h2]
      by_cases h3 : 1 < x
      · rw [if_pos h3, if_pos h3]; exact Or.inr ⟨rfl, h1, h2, rfl⟩
      · rw [if_neg h3, if_neg h3]
        by_cases h4 : y < 10
        · rw [if_pos h4, if_pos h4]; exact Or.inr ⟨rfl, h1, h2, rfl⟩
        · rw [if_neg h4, if_neg h4]
          by_cases h5 : y ≤ 12
          · have h6 : ¬ 12 < y := by rw [kltI]; rw [kleI] at h5; omega
            rw [if_pos h5, if_neg h6]; exact Or.inl ⟨rfl, Or.inr (Or.inr (by decide))⟩
          · have h6 : 12 < y := by rw [kltI]; rw [kleI] at h5; omega
            rw [if_neg h5, if_pos h6]; exact Or.inr ⟨rfl, h1, h2, rfl⟩
/-- of the small ways the sign -/
theorem sg {x : Int32} (h0 : ¬ x.toInt = 0) (h1 : -2 ≤ x.toInt) (h2 : x.toInt ≤ 2) : (0 < x.toInt ∧ fJ6_signum x = 1) ∨ (x.toInt < 0 ∧ fJ6_signum x = -1) := by
  have h : x = -2 ∨ x = -1 ∨ x = 1 ∨ x = 2 := by
    simp only [keqI, nm2, nm1, n1, n2]
    omega
  rcases h with rfl | rfl | rfl | rfl <;> first | exact Or.inl ⟨by decide, by decide⟩ | exact Or.inr ⟨by decide, by decide⟩
theorem add_m1 (x : Int32) : x + (-1) = x - 1 := (Int32.sub_eq_add_neg x 1).symm

noncomputable def a1 (b : Ba) : Ba :=
  if (b.1 + (fJ6_signum b.2.2.2.1)) < 0 then (b.1, b.2.1, b.2.2.1, (-b.2.2.2.1), b.2.2.2.2.1, b.2.2.2.2.2.1, b.2.2.2.2.2.2.1, b.2.2.2.2.2.2.2.1, (b.2.2.2.2.2.2.2.2.1 + 1), b.2.2.2.2.2.2.2.2.2)
  else if 12 ≤ (b.1 + (fJ6_signum b.2.2.2.1)) then (b.1, b.2.1, b.2.2.1, (-b.2.2.2.1), b.2.2.2.2.1, b.2.2.2.2.2.1, b.2.2.2.2.2.2.1, b.2.2.2.2.2.2.2.1, (b.2.2.2.2.2.2.2.2.1 + 1), b.2.2.2.2.2.2.2.2.2)
  else if (fX0_isButtress (b.1 + (fJ6_signum b.2.2.2.1)) b.2.1) = 0 then ((b.1 + (fJ6_signum b.2.2.2.1)), b.2)
  else (b.1, b.2.1, b.2.2.1, (-b.2.2.2.1), b.2.2.2.2.1, b.2.2.2.2.2.1, b.2.2.2.2.2.2.1, b.2.2.2.2.2.2.2.1, (b.2.2.2.2.2.2.2.2.1 + 1), b.2.2.2.2.2.2.2.2.2)

/-- one column by hand -/
noncomputable def al1 (b : Lb) : Lb :=
  if b.2.2.2.1 ≤ 0 then (if (fX3_isFree (b.1 - 1) b.2.1) = 0 then (b.1, b.2.1, b.2.2.1, (-b.2.2.2.1), b.2.2.2.2.1, b.2.2.2.2.2.1, b.2.2.2.2.2.2.1, b.2.2.2.2.2.2.2.1, (b.2.2.2.2.2.2.2.2.1 + 1), b.2.2.2.2.2.2.2.2.2) else ((b.1 - 1), b.2))
  else (if (fX3_isFree (b.1 + 1) b.2.1) = 0 then (b.1, b.2.1, b.2.2.1, (-b.2.2.2.1), b.2.2.2.2.1, b.2.2.2.2.2.1, b.2.2.2.2.2.2.1, b.2.2.2.2.2.2.2.1, (b.2.2.2.2.2.2.2.2.1 + 1), b.2.2.2.2.2.2.2.2.2) else ((b.1 + 1), b.2))

noncomputable def itr {α : Type} (f : α → α) : Nat → α → α
  | 0, b => b
  | k + 1, b => itr f k (f b)
theorem LX0_across_s (n : Nat) (n0 i0 : Int32) (b : Ba) : LX0_goAcross (n + 1) n0 i0 b = if n0 ≤ i0 then some b else LX0_goAcross n n0 (i0 + 1) (a1 b) := by
  rw [LX0_goAcross]
  unfold a1
  (repeat' split) <;> rfl

/-- the second loop from its head -/
noncomputable def L1 (n : Nat) (b : Lb) : Option (Int32 × Lb) := if 0 ≤ b.2.2.2.2.1 then LX3_go n 1 b.2.2.2.2.1 0 b else LX3_go n 1 (-b.2.2.2.2.1) 0 b
theorem LX3_across_s (n : Nat) (n0 i0 : Int32) (b : Lb) : LX3_go (n + 1) 0 n0 i0 b = if n0 ≤ i0 then L1 n b else LX3_go n 0 n0 (i0 + 1) (al1 b) := by
  show (if n0 ≤ i0 then _ else _) = _
  unfold al1 L1
  by_cases c : n0 ≤ i0
  · rw [if_pos c, if_pos c]
  · rw [if_neg c, if_neg c]
    (repeat' split) <;> rfl

theorem LX0_across (k : Nat) : ∀ (n : Nat) (n0 i0 : Int32) (b : Ba), n0.toInt - i0.toInt = k → k < n → LX0_goAcross n n0 i0 b = some (itr a1 k b) := by
  induction k with
  | zero =>
    intro n n0 i0 b h1 h2
    obtain ⟨n, rfl⟩ : ∃ m, n = m + 1 := ⟨n - 1, by omega⟩
    rw [LX0_across_s, if_pos (by rw [kleI]; omega)]
    rfl
  | succ k ih =>
    intro n n0 i0 b h1 h2
    obtain ⟨n, rfl⟩ : ∃ m, n = m + 1 := ⟨n - 1, by omega⟩
    have h3 := Int32.toInt_lt n0
    rw [LX0_across_s, if_neg (by rw [kleI]; omega)]
    have e := kincI (a := i0) (m := n0.toInt) (by omega) (by omega)
    exact ih n n0 (i0 + 1) (a1 b) (by rw [e]; omega) (by omega)

theorem LX3_across (k : Nat) : ∀ (n : Nat) (n0 i0 : Int32) (b : Lb), n0.toInt - i0.toInt = k → LX3_go (n + 1 + k) 0 n0 i0 b = L1 n (itr al1 k b) := by
  induction k with
  | zero =>
    intro n n0 i0 b h1
    show LX3_go (n + 1) 0 n0 i0 b = _
    rw [LX3_across_s, if_pos (by rw [kleI]; omega)]
    rfl
  | succ k ih =>
    intro n n0 i0 b h1
    have h3 := Int32.toInt_lt n0
    show LX3_go ((n + 1 + k) + 1) 0 n0 i0 b = _
    rw [LX3_across_s, if_neg (by rw [kleI]; omega)]
    have e := kincI (a := i0) (m := n0.toInt) (by omega) (by omega)
    exact ih n n0 (i0 + 1) (al1 b) (by rw [e]; omega)
/-- one column of both: alike; what it keeps -/
theorem a1_br {b : Ba} (h0 : ¬ b.2.2.2.1.toInt = 0) (h1 : -2 ≤ b.2.2.2.1.toInt) (h2 : b.2.2.2.1.toInt ≤ 2) (h3 : 0 ≤ b.1.toInt) (h4 : b.1.toInt ≤ 11) (hN : NB b) :
    c10 (a1 b) = al1 (c10 b) ∧ 0 ≤ (a1 b).1.toInt ∧ (a1 b).1.toInt ≤ 11 ∧ NB (a1 b) ∧ ((a1 b).2.2.2.1 = b.2.2.2.1 ∨ (a1 b).2.2.2.1 = -b.2.2.2.1) ∧ (a1 b).2.1 = b.2.1 ∧ (a1 b).2.2.1 = b.2.2.1 ∧ (a1 b).2.2.2.2.1 = b.2.2.2.2.1 ∧ (a1 b).2.2.2.2.2.1 = b.2.2.2.2.2.1 ∧ (a1 b).2.2.2.2.2.2.1 = b.2.2.2.2.2.2.1 ∧ (a1 b).2.2.2.2.2.2.2.1 = b.2.2.2.2.2.2.2.1 ∧ (a1 b).2.2.2.2.2.2.2.2.2 = b.2.2.2.2.2.2.2.2.2 ∧ (∃ d : Nat, d ≤ 1 ∧ (a1 b).2.2.2.2.2.2.2.2.1 = b.2.2.2.2.2.2.2.2.1 + nI d) := by
  have key : ∀ nx : Int32, nx = b.1 + fJ6_signum b.2.2.2.1 → al1 (c10 b) = (if fX3_isFree nx b.2.1 = 0 then c10 (b.1, b.2.1, b.2.2.1, (-b.2.2.2.1), b.2.2.2.2.1, b.2.2.2.2.2.1, b.2.2.2.2.2.2.1, b.2.2.2.2.2.2.2.1, (b.2.2.2.2.2.2.2.2.1 + 1), b.2.2.2.2.2.2.2.2.2) else c10 (nx, b.2)) := by
    intro nx hnx
    unfold al1
    rcases sg h0 h1 h2 with ⟨e1, e2⟩ | ⟨e1, e2⟩
    · rw [e2] at hnx
      rw [if_neg (show ¬ (c10 b).2.2.2.1 ≤ 0 by rw [kleI, n0]; show ¬ b.2.2.2.1.toInt ≤ 0; omega), hnx]
    · rw [e2, add_m1] at hnx
      rw [if_pos (show (c10 b).2.2.2.1 ≤ 0 by rw [kleI, n0]; show b.2.2.2.1.toInt ≤ 0; omega), hnx]
  unfold a1
  generalize hnx : b.1 + fJ6_signum b.2.2.2.1 = nx at key ⊢
  rw [key nx rfl]
  rcases free_br nx b.2.1 with ⟨e, h⟩ | ⟨e, f1, f2, f3⟩
  · rw [if_pos e]
    have hB : (if nx < 0 then (b.1, b.2.1, b.2.2.1, (-b.2.2.2.1), b.2.2.2.2.1, b.2.2.2.2.2.1, b.2.2.2.2.2.2.1, b.2.2.2.2.2.2.2.1, (b.2.2.2.2.2.2.2.2.1 + 1), b.2.2.2.2.2.2.2.2.2)
  else if 12 ≤ nx then (b.1, b.2.1, b.2.2.1, (-b.2.2.2.1), b.2.2.2.2.1, b.2.2.2.2.2.1, b.2.2.2.2.2.2.1, b.2.2.2.2.2.2.2.1, (b.2.2.2.2.2.2.2.2.1 + 1), b.2.2.2.2.2.2.2.2.2)
  else if (fX0_isButtress nx b.2.1) = 0 then (nx, b.2)
  else (b.1, b.2.1, b.2.2.1, (-b.2.2.2.1), b.2.2.2.2.1, b.2.2.2.2.2.1, b.2.2.2.2.2.2.1, b.2.2.2.2.2.2.2.1, (b.2.2.2.2.2.2.2.2.1 + 1), b.2.2.2.2.2.2.2.2.2)) = (b.1, b.2.1, b.2.2.1, (-b.2.2.2.1), b.2.2.2.2.1, b.2.2.2.2.2.1, b.2.2.2.2.2.2.1, b.2.2.2.2.2.2.2.1, (b.2.2.2.2.2.2.2.2.1 + 1), b.2.2.2.2.2.2.2.2.2) := by
      by_cases c1 : nx < 0
      · rw [if_pos c1]
      · rw [if_neg c1]
        by_cases c2 : 12 ≤ nx
        · rw [if_pos c2]
        · rw [if_neg c2]
          rcases h with h | h | h
          · exact absurd h c1
          · exact absurd h c2
          · rw [if_neg h]
    rw [hB]
    exact ⟨rfl, h3, h4, hN, Or.inr rfl, rfl, rfl, rfl, rfl, rfl, rfl, rfl, 1, Nat.le_refl _, rfl⟩
  · rw [if_neg (show ¬ fX3_isFree nx b.2.1 = 0 by rw [e]; decide), if_neg f1, if_neg f2, if_pos f3]
    rw [kltI, n0] at f1
    rw [kleI, n12] at f2
    exact ⟨rfl, by show 0 ≤ nx.toInt; omega, by show nx.toInt ≤ 11; omega, f3, Or.inl rfl, rfl, rfl, rfl, rfl, rfl, rfl, rfl, 0, Nat.zero_le _, (Int32.add_zero _).symm⟩
theorem neg_neg32 (x : Int32) : - -x = x := Int32.neg_neg
theorem pm_trans {a b c : Int32} (h1 : b = a ∨ b = -a) (h2 : c = b ∨ c = -b) : c = a ∨ c = -a := by
  rcases h1 with rfl | rfl <;> rcases h2 with rfl | rfl
  · exact Or.inl rfl
  · exact Or.inr rfl
  · exact Or.inr rfl
  · exact Or.inl (neg_neg32 _)
theorem pm_b {a b : Int32} (h1 : -2 ≤ a.toInt) (h2 : a.toInt ≤ 2) (h : b = a ∨ b = -a) : (b.toInt = a.toInt ∨ b.toInt = -a.toInt) := by
  rcases h with rfl | rfl
  · exact Or.inl rfl
  · exact Or.inr (kneg (by omega))
theorem itr_br (k : Nat) : ∀ (b : Ba), ¬ b.2.2.2.1.toInt = 0 → -2 ≤ b.2.2.2.1.toInt → b.2.2.2.1.toInt ≤ 2 → 0 ≤ b.1.toInt → b.1.toInt ≤ 11 → NB b →
    c10 (itr a1 k b) = itr al1 k (c10 b) ∧ 0 ≤ (itr a1 k b).1.toInt ∧ (itr a1 k b).1.toInt ≤ 11 ∧ NB (itr a1 k b) ∧ ((itr a1 k b).2.2.2.1 = b.2.2.2.1 ∨ (itr a1 k b).2.2.2.1 = -b.2.2.2.1) ∧ (itr a1 k b).2.1 = b.2.1 ∧ (itr a1 k b).2.2.1 = b.2.2.1 ∧ (itr a1 k b).2.2.2.2.1 = b.2.2.2.2.1 ∧ (itr a1 k b).2.2.2.2.2.1 = b.2.2.2.2.2.1 ∧ (itr a1 k b).2.2.2.2.2.2.1 = b.2.2.2.2.2.2.1 ∧ (itr a1 k b).2.2.2.2.2.2.2.1 = b.2.2.2.2.2.2.2.1 ∧ (itr a1 k b).2.2.2.2.2.2.2.2.2 = b.2.2.2.2.2.2.2.2.2 ∧ (∃ d : Nat, d ≤ k ∧ (itr a1 k b).2.2.2.2.2.2.2.2.1 = b.2.2.2.2.2.2.2.2.1 + nI d) := by
  induction k with
  | zero => intro b h0 h1 h2 h3 h4 h5; exact ⟨rfl, h3, h4, h5, Or.inl rfl, rfl, rfl, rfl, rfl, rfl, rfl, rfl, 0, Nat.le_refl _, (Int32.add_zero _).symm⟩
  | succ k ih =>
    intro b h0 h1 h2 h3 h4 h5
    obtain ⟨g1, g2, g3, gN, g4, g5, g6, g7, g8, g9, g10, g11, d1, g12, g13⟩ := a1_br h0 h1 h2 h3 h4 h5
    have gb := pm_b h1 h2 g4
    obtain ⟨f1, f2, f3, fN, f4, f6, f7, f8, f9, f10, f11, f12, d2, f13, f14⟩ := ih (a1 b) (by omega) (by omega) (by omega) g2 g3 gN
    refine ⟨?_, f2, f3, fN, pm_trans g4 f4, f6.trans g5, f7.trans g6, f8.trans g7, f9.trans g8, f10.trans g9, f11.trans g10, f12.trans g11, d1 + d2, by omega, ?_⟩
    · show c10 (itr a1 k (a1 b)) = itr al1 k (al1 (c10 b))
      rw [f1, g1]
    · refine f14.trans ?_
      rw [g13, Int32.add_assoc, nI_add]
theorem kabs {x : Int32} (h1 : -2 ≤ x.toInt) (h2 : x.toInt ≤ 2) : ∃ k : Nat, k ≤ 2 ∧ (if 0 ≤ x then x else 0 - x).toInt = k ∧ (if 0 ≤ x then x else -x) = (if 0 ≤ x then x else 0 - x) ∧ (k = 0 ↔ x.toInt = 0) := by
  have e : (-x) = 0 - x := by simp
  by_cases h : 0 ≤ x
  · rw [if_pos h, if_pos h]
    rw [kleI, n0] at h
    exact ⟨x.toInt.toNat, by omega, by omega, rfl, by omega⟩
  · rw [if_neg h, if_neg h]
    rw [kleI, n0] at h
    refine ⟨(-x.toInt).toNat, by omega, ?_, e, by omega⟩
    rw [ksub (by rw [n0]; omega) (by rw [n0]; omega), n0]
    omega
/-- across: both balls alike -/
theorem across_br {b : Ba} (h1 : -2 ≤ b.2.2.2.1.toInt) (h2 : b.2.2.2.1.toInt ≤ 2) (h3 : 0 ≤ b.1.toInt) (h4 : b.1.toInt ≤ 11) (h5 : NB b) :
    ∃ B : Ba, fX0_goAcross b = B ∧ (∃ n : Nat, 4294967000 ≤ n ∧ LX3_go 4294967300 0 (if 0 ≤ b.2.2.2.1 then b.2.2.2.1 else -b.2.2.2.1) 0 (c10 b) = L1 n (c10 B)) ∧ 0 ≤ B.1.toInt ∧ B.1.toInt ≤ 11 ∧ NB B ∧ (B.2.2.2.1 = b.2.2.2.1 ∨ B.2.2.2.1 = -b.2.2.2.1) ∧ B.2.1 = b.2.1 ∧ B.2.2.1 = b.2.2.1 ∧ B.2.2.2.2.1 = b.2.2.2.2.1 ∧ B.2.2.2.2.2.1 = b.2.2.2.2.2.1 ∧ B.2.2.2.2.2.2.1 = b.2.2.2.2.2.2.1 ∧ B.2.2.2.2.2.2.2.1 = b.2.2.2.2.2.2.2.1 ∧ B.2.2.2.2.2.2.2.2.2 = b.2.2.2.2.2.2.2.2.2 ∧ (∃ d : Nat, d ≤ 2 ∧ B.2.2.2.2.2.2.2.2.1 = b.2.2.2.2.2.2.2.2.1 + nI d) := by
  obtain ⟨k, hk, e, e', hz⟩ := kabs h1 h2
  have e0 : fX0_goAcross b = itr a1 k b := keps (d := b) (LX0_across k _ _ 0 b (by rw [e, n0]; omega) (by omega))
  have e3 : LX3_go 4294967300 0 (if 0 ≤ b.2.2.2.1 then b.2.2.2.1 else -b.2.2.2.1) 0 (c10 b) = L1 (4294967299 - k) (itr al1 k (c10 b)) := by
    have := LX3_across k (4294967299 - k) (if 0 ≤ b.2.2.2.1 then b.2.2.2.1 else -b.2.2.2.1) 0 (c10 b) (by rw [e', e, n0]; omega)
    rw [show 4294967299 - k + 1 + k = 4294967300 by omega] at this
    exact this
  by_cases h0 : b.2.2.2.1.toInt = 0
  · have : k = 0 := hz.mpr h0
    subst this
    exact ⟨b, e0, ⟨4294967299 - 0, by omega, e3⟩, h3, h4, h5, Or.inl rfl, rfl, rfl, rfl, rfl, rfl, rfl, rfl, 0, by omega, (Int32.add_zero _).symm⟩
  · obtain ⟨f1, f2, f3, fN, f4, f6, f7, f8, f9, f10, f11, f12, d2, f13, f14⟩ := itr_br k b h0 h1 h2 h3 h4 h5
    exact ⟨_, e0, ⟨4294967299 - k, by omega, by rw [e3, f1]⟩, f2, f3, fN, f4, f6, f7, f8, f9, f10, f11, f12, d2, by omega, f14⟩
