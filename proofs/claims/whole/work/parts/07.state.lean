/-! what the cells hold: pure words for the two systems -/
abbrev Ba : Type := Int32 × Int32 × Int32 × Int32 × Int32 × Int32 × Int32 × Int32 × Int32 × Int32 × Int32
abbrev Sd : Type := Int32 × Int32 × Int32 × Int32
abbrev M9 : Type := Int32 × Int32 × Int32 × Int32 × Int32 × Int32 × Int32 × Int32 × Int32
abbrev P2 : Type := Int32 × Int32
abbrev Co : Type := Sd × Sd × Ba × Ba × Ba × Ba × Int32 × Int32 × Int32 × Int32 × Int32 × Int32 × Int32 × Int32 × Int32
abbrev Mo : Type := M9 × P2 × P2 × P2 × P2 × M9 × Int32 × Int32 × Int32 × Int32 × Int32 × Int32 × Int32 × Int32 × Int32 × Int32 × Int32 × Int32
abbrev I9 : Type := Int32 × Int32 × Int32 × Int32 × Int32 × Int32 × Int32 × Int32 × Int32
abbrev I12 : Type := Int32 × Int32 × Int32 × Int32 × Int32 × Int32 × Int32 × Int32 × Int32 × Int32 × Int32 × Int32
abbrev cB (b : Ba) : va_E := .inr (0, [.int b.1, .int b.2.1, .int b.2.2.1, .int b.2.2.2.1, .int b.2.2.2.2.1, .int b.2.2.2.2.2.1, .int b.2.2.2.2.2.2.1, .int b.2.2.2.2.2.2.2.1, .int b.2.2.2.2.2.2.2.2.1, .int b.2.2.2.2.2.2.2.2.2.1, .int b.2.2.2.2.2.2.2.2.2.2])
abbrev cS (b : Sd) : va_E := .inr (1, [.int b.1, .int b.2.1, .int b.2.2.1, .int b.2.2.2])
abbrev cF (a1 a2 a3 a4 a5 a6 : Nat) (t : I9) : va_E := .inr (2, [.ref a1, .ref a2, .ref a3, .ref a4, .ref a5, .ref a6, .int t.1, .int t.2.1, .int t.2.2.1, .int t.2.2.2.1, .int t.2.2.2.2.1, .int t.2.2.2.2.2.1, .int t.2.2.2.2.2.2.1, .int t.2.2.2.2.2.2.2.1, .int t.2.2.2.2.2.2.2.2])
abbrev cM (b1 b2 b3 b4 b5 b6 : Nat) (t : I12) : va_E := .inr (3, [.int t.1, .int t.2.1, .int t.2.2.1, .int t.2.2.2.1, .int t.2.2.2.2.1, .ref b1, .ref b2, .ref b3, .ref b4, .ref b5, .int t.2.2.2.2.2.1, .int t.2.2.2.2.2.2.1, .int t.2.2.2.2.2.2.2.1, .int t.2.2.2.2.2.2.2.2.1, .int t.2.2.2.2.2.2.2.2.2.1, .int t.2.2.2.2.2.2.2.2.2.2.1, .ref b6, .int t.2.2.2.2.2.2.2.2.2.2.2])
def ar9 (q : M9) : Nat → Int32 := fun i => match i with
  | 0 => q.1
  | 1 => q.2.1
  | 2 => q.2.2.1
  | 3 => q.2.2.2.1
  | 4 => q.2.2.2.2.1
  | 5 => q.2.2.2.2.2.1
  | 6 => q.2.2.2.2.2.2.1
  | 7 => q.2.2.2.2.2.2.2.1
  | 8 => q.2.2.2.2.2.2.2.2
  | _ => 0
def ar2 (q : P2) : Nat → Int32 := fun i => match i with
  | 0 => q.1
  | 1 => q.2
  | _ => 0
abbrev cA9 (cI : ClassId) (q : M9) : va_E := .inl (cI, 9, .inl (ar9 q))
abbrev cA2 (cI : ClassId) (q : P2) : va_E := .inl (cI, 2, .inl (ar2 q))
theorem ar9_s0 (q : M9) (v : Int32) : upd (ar9 q) (Int32.toNatClampNeg 0) v = ar9 (v, q.2) := by
  funext j
  show (if j = 0 then v else ar9 q j) = _
  by_cases h : j = 0
  · subst h; rfl
  · rw [if_neg h]
    match j, h with
    | 0, h => exact absurd rfl h
    | 1, h => rfl
    | 2, h => rfl
    | 3, h => rfl
    | 4, h => rfl
    | 5, h => rfl
    | 6, h => rfl
    | 7, h => rfl
    | 8, h => rfl
    | _ + 9, _ => rfl
theorem ar9_s1 (q : M9) (v : Int32) : upd (ar9 q) (Int32.toNatClampNeg 1) v = ar9 (q.1, v, q.2.2) := by
  funext j
  show (if j = 1 then v else ar9 q j) = _
  by_cases h : j = 1
  · subst h; rfl
  · rw [if_neg h]
    match j, h with
    | 0, h => rfl
    | 1, h => exact absurd rfl h
    | 2, h => rfl
    | 3, h => rfl
    | 4, h => rfl
    | 5, h => rfl
    | 6, h => rfl
    | 7, h => rfl
    | 8, h => rfl
    | _ + 9, _ => rfl
theorem ar9_s2 (q : M9) (v : Int32) : upd (ar9 q) (Int32.toNatClampNeg 2) v = ar9 (q.1, q.2.1, v, q.2.2.2) := by
  funext j
  show (if j = 2 then v else ar9 q j) = _
  by_cases h : j = 2
  · subst h; rfl
  · rw [if_neg h]
    match j, h with
    | 0, h => rfl
    | 1, h => rfl
    | 2, h => exact absurd rfl h
    | 3, h => rfl
    | 4, h => rfl
    | 5, h => rfl
    | 6, h => rfl
    | 7, h => rfl
    | 8, h => rfl
    | _ + 9, _ => rfl
theorem ar9_s3 (q : M9) (v : Int32) : upd (ar9 q) (Int32.toNatClampNeg 3) v = ar9 (q.1, q.2.1, q.2.2.1, v, q.2.2.2.2) := by
  funext j
  show (if j = 3 then v else ar9 q j) = _
  by_cases h : j = 3
  · subst h; rfl
  · rw [if_neg h]
    match j, h with
    | 0, h => rfl
    | 1, h => rfl
    | 2, h => rfl
    | 3, h => exact absurd rfl h
    | 4, h => rfl
    | 5, h => rfl
    | 6, h => rfl
    | 7, h => rfl
    | 8, h => rfl
    | _ + 9, _ => rfl
theorem ar9_s4 (q : M9) (v : Int32) : upd (ar9 q) (Int32.toNatClampNeg 4) v = ar9 (q.1, q.2.1, q.2.2.1, q.2.2.2.1, v, q.2.2.2.2.2) := by
  funext j
  show (if j = 4 then v else ar9 q j) = _
  by_cases h : j = 4
  · subst h; rfl
  · rw [if_neg h]
    match j, h with
    | 0, h => rfl
    | 1, h => rfl
    | 2, h => rfl
    | 3, h => rfl
    | 4, h => exact absurd rfl h
    | 5, h => rfl
    | 6, h => rfl
    | 7, h => rfl
    | 8, h => rfl
    | _ + 9, _ => rfl
theorem ar9_s5 (q : M9) (v : Int32) : upd (ar9 q) (Int32.toNatClampNeg 5) v = ar9 (q.1, q.2.1, q.2.2.1, q.2.2.2.1, q.2.2.2.2.1, v, q.2.2.2.2.2.2) := by
  funext j
  show (if j = 5 then v else ar9 q j) = _
  by_cases h : j = 5
  · subst h; rfl
  · rw [if_neg h]
    match j, h with
    | 0, h => rfl
    | 1, h => rfl
    | 2, h => rfl
    | 3, h => rfl
    | 4, h => rfl
    | 5, h => exact absurd rfl h
    | 6, h => rfl
    | 7, h => rfl
    | 8, h => rfl
    | _ + 9, _ => rfl
theorem ar9_s6 (q : M9) (v : Int32) : upd (ar9 q) (Int32.toNatClampNeg 6) v = ar9 (q.1, q.2.1, q.2.2.1, q.2.2.2.1, q.2.2.2.2.1, q.2.2.2.2.2.1, v, q.2.2.2.2.2.2.2) := by
  funext j
  show (if j = 6 then v else ar9 q j) = _
  by_cases h : j = 6
  · subst h; rfl
  · rw [if_neg h]
    match j, h with
    | 0, h => rfl
    | 1, h => rfl
    | 2, h => rfl
    | 3, h => rfl
    | 4, h => rfl
    | 5, h => rfl
    | 6, h => exact absurd rfl h
    | 7, h => rfl
    | 8, h => rfl
    | _ + 9, _ => rfl
theorem ar9_s7 (q : M9) (v : Int32) : upd (ar9 q) (Int32.toNatClampNeg 7) v = ar9 (q.1, q.2.1, q.2.2.1, q.2.2.2.1, q.2.2.2.2.1, q.2.2.2.2.2.1, q.2.2.2.2.2.2.1, v, q.2.2.2.2.2.2.2.2) := by
  funext j
  show (if j = 7 then v else ar9 q j) = _
  by_cases h : j = 7
  · subst h; rfl
  · rw [if_neg h]
    match j, h with
    | 0, h => rfl
    | 1, h => rfl
    | 2, h => rfl
    | 3, h => rfl
    | 4, h => rfl
    | 5, h => rfl
    | 6, h => rfl
    | 7, h => exact absurd rfl h
    | 8, h => rfl
    | _ + 9, _ => rfl
theorem ar9_s8 (q : M9) (v : Int32) : upd (ar9 q) (Int32.toNatClampNeg 8) v = ar9 (q.1, q.2.1, q.2.2.1, q.2.2.2.1, q.2.2.2.2.1, q.2.2.2.2.2.1, q.2.2.2.2.2.2.1, q.2.2.2.2.2.2.2.1, v) := by
  funext j
  show (if j = 8 then v else ar9 q j) = _
  by_cases h : j = 8
  · subst h; rfl
  · rw [if_neg h]
    match j, h with
    | 0, h => rfl
    | 1, h => rfl
    | 2, h => rfl
    | 3, h => rfl
    | 4, h => rfl
    | 5, h => rfl
    | 6, h => rfl
    | 7, h => rfl
    | 8, h => exact absurd rfl h
    | _ + 9, _ => rfl
theorem ar2_s0 (q : P2) (v : Int32) : upd (ar2 q) (Int32.toNatClampNeg 0) v = ar2 (v, q.2) := by
  funext j
  show (if j = 0 then v else ar2 q j) = _
  by_cases h : j = 0
  · subst h; rfl
  · rw [if_neg h]
    match j, h with
    | 0, h => exact absurd rfl h
    | 1, h => rfl
    | _ + 2, _ => rfl
theorem ar2_s1 (q : P2) (v : Int32) : upd (ar2 q) (Int32.toNatClampNeg 1) v = ar2 (q.1, v) := by
  funext j
  show (if j = 1 then v else ar2 q j) = _
  by_cases h : j = 1
  · subst h; rfl
  · rw [if_neg h]
    match j, h with
    | 0, h => rfl
    | 1, h => exact absurd rfl h
    | _ + 2, _ => rfl
theorem ar9_cp (q r : M9) : va_cpy (ar9 q) (ar9 r) (Int32.toNatClampNeg 0) (Int32.toNatClampNeg 0) (Int32.toNatClampNeg 9) = ar9 q := by
  funext j
  show (if 0 ≤ j ∧ j < 0 + 9 then ar9 q (0 + (j - 0)) else ar9 r j) = ar9 q j
  by_cases h : j < 9
  · rw [if_pos ⟨Nat.zero_le _, by omega⟩]
    congr 1
    omega
  · rw [if_neg (by omega)]
    match j, h with
    | j + 9, _ => rfl
    | 0, h => exact absurd (by decide) h
    | 1, h => exact absurd (by decide) h
    | 2, h => exact absurd (by decide) h
    | 3, h => exact absurd (by decide) h
    | 4, h => exact absurd (by decide) h
    | 5, h => exact absurd (by decide) h
    | 6, h => exact absurd (by decide) h
    | 7, h => exact absurd (by decide) h
    | 8, h => exact absurd (by decide) h
abbrev wB (h : Nat) (b : Ba) : va_W := [(h, cB b)]
abbrev wS (h : Nat) (b : Sd) : va_W := [(h, cS b)]
abbrev wC (a0 a1 a2 a3 a4 a5 a6 : Nat) (X : Co) : va_W := [(a0, cF a1 a2 a3 a4 a5 a6 X.2.2.2.2.2.2), (a1, cS X.1), (a2, cS X.2.1), (a3, cB X.2.2.1), (a4, cB X.2.2.2.1), (a5, cB X.2.2.2.2.1), (a6, cB X.2.2.2.2.2.1)]
abbrev wM (cI : ClassId) (b0 b1 b2 b3 b4 b5 b6 : Nat) (Y : Mo) : va_W := [(b0, cM b1 b2 b3 b4 b5 b6 Y.2.2.2.2.2.2), (b1, cA9 cI Y.1), (b2, cA2 cI Y.2.1), (b3, cA2 cI Y.2.2.1), (b4, cA2 cI Y.2.2.2.1), (b5, cA2 cI Y.2.2.2.2.1), (b6, cA9 cI Y.2.2.2.2.2.1)]
