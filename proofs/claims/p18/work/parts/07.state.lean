/-! what the cells hold: pure words for the two systems -/
abbrev Ba : Type := Int32 × Int32 × Int32 × Int32 × Int32 × Int32 × Int32 × Int32 × Int32 × Int32 × Int32
abbrev Sd : Type := Int32 × Int32 × Int32 × Int32
abbrev Co : Type := Sd × Sd × Ba × Ba × Ba × Ba × Int32 × Int32 × Int32 × Int32 × Int32 × Int32 × Int32 × Int32 × Int32
abbrev I9 : Type := Int32 × Int32 × Int32 × Int32 × Int32 × Int32 × Int32 × Int32 × Int32
abbrev Lb : Type := Int32 × Int32 × Int32 × Int32 × Int32 × Int32 × Int32 × Int32 × Int32 × Int32
abbrev Zs : Type := Sd × Sd × Int32 × Int32 × Int32 × Int32 × Int32 × Int32 × Int32 × Int32 × Int32
abbrev cB (b : Ba) : va_E := .inr (0, [.int b.1, .int b.2.1, .int b.2.2.1, .int b.2.2.2.1, .int b.2.2.2.2.1, .int b.2.2.2.2.2.1, .int b.2.2.2.2.2.2.1, .int b.2.2.2.2.2.2.2.1, .int b.2.2.2.2.2.2.2.2.1, .int b.2.2.2.2.2.2.2.2.2.1, .int b.2.2.2.2.2.2.2.2.2.2])
abbrev cS (b : Sd) : va_E := .inr (1, [.int b.1, .int b.2.1, .int b.2.2.1, .int b.2.2.2])
abbrev cF (a1 a2 a3 a4 a5 a6 : Nat) (t : I9) : va_E := .inr (2, [.ref a1, .ref a2, .ref a3, .ref a4, .ref a5, .ref a6, .int t.1, .int t.2.1, .int t.2.2.1, .int t.2.2.2.1, .int t.2.2.2.2.1, .int t.2.2.2.2.2.1, .int t.2.2.2.2.2.2.1, .int t.2.2.2.2.2.2.2.1, .int t.2.2.2.2.2.2.2.2])
abbrev cL (b : Lb) : va_E := .inr (3, [.int b.1, .int b.2.1, .int b.2.2.1, .int b.2.2.2.1, .int b.2.2.2.2.1, .int b.2.2.2.2.2.1, .int b.2.2.2.2.2.2.1, .int b.2.2.2.2.2.2.2.1, .int b.2.2.2.2.2.2.2.2.1, .int b.2.2.2.2.2.2.2.2.2])
abbrev cZ (bf : Value) (z1 : Nat) (t : I9) : va_E := .inr (4, [.int t.1, .int t.2.1, .int t.2.2.1, bf, .ref z1, .int t.2.2.2.1, .int t.2.2.2.2.1, .int t.2.2.2.2.2.1, .int t.2.2.2.2.2.2.1, .int t.2.2.2.2.2.2.2.1, .int t.2.2.2.2.2.2.2.2])
def ar4 (q : Sd) : Nat → Int32 := fun i => match i with
  | 0 => q.1
  | 1 => q.2.1
  | 2 => q.2.2.1
  | 3 => q.2.2.2
  | _ => 0
def fq (z2 z3 : Nat) : Nat → Option Nat := fun i => match i with
  | 0 => some z2
  | 1 => some z3
  | _ => none
def ar9 (q : I9) : Nat → Int32 := fun i => match i with
  | 0 => q.1
  | 1 => q.2.1
  | 2 => q.2.2.1
  | 3 => q.2.2.2.1
  | 4 => q.2.2.2.2.1
  | 5 => q.2.2.2.2.2.1
  | 6 => q.2.2.2.2.2.2.1
  | 7 => q.2.2.2.2.2.2.2.1
  | 8 => q.2.2.2.2.2.2.2.2
  | _ => 0
abbrev cA9 (cI : ClassId) (q : I9) : va_E := .inl (cI, 9, .inl (ar9 q))
abbrev cA4 (cI : ClassId) (q : Sd) : va_E := .inl (cI, 4, .inl (ar4 q))
abbrev cQ (cJ : ClassId) (z2 z3 : Nat) : va_E := .inl (cJ, 2, .inr (.inr (.inr (.inr (fq z2 z3)))))
theorem ar4_s0 (q : Sd) (v : Int32) : upd (ar4 q) (Int32.toNatClampNeg 0) v = ar4 (v, q.2) := by
  funext j
  show (if j = 0 then v else ar4 q j) = _
  by_cases h : j = 0
  · subst h; rfl
  · rw [if_neg h]
    match j, h with
    | 0, h => exact absurd rfl h
    | 1, h => rfl
    | 2, h => rfl
    | 3, h => rfl
    | _ + 4, _ => rfl
theorem ar4_s1 (q : Sd) (v : Int32) : upd (ar4 q) (Int32.toNatClampNeg 1) v = ar4 (q.1, v, q.2.2) := by
  funext j
  show (if j = 1 then v else ar4 q j) = _
  by_cases h : j = 1
  · subst h; rfl
  · rw [if_neg h]
    match j, h with
    | 0, h => rfl
    | 1, h => exact absurd rfl h
    | 2, h => rfl
    | 3, h => rfl
    | _ + 4, _ => rfl
theorem ar4_s2 (q : Sd) (v : Int32) : upd (ar4 q) (Int32.toNatClampNeg 2) v = ar4 (q.1, q.2.1, v, q.2.2.2) := by
  funext j
  show (if j = 2 then v else ar4 q j) = _
  by_cases h : j = 2
  · subst h; rfl
  · rw [if_neg h]
    match j, h with
    | 0, h => rfl
    | 1, h => rfl
    | 2, h => exact absurd rfl h
    | 3, h => rfl
    | _ + 4, _ => rfl
theorem ar4_s3 (q : Sd) (v : Int32) : upd (ar4 q) (Int32.toNatClampNeg 3) v = ar4 (q.1, q.2.1, q.2.2.1, v) := by
  funext j
  show (if j = 3 then v else ar4 q j) = _
  by_cases h : j = 3
  · subst h; rfl
  · rw [if_neg h]
    match j, h with
    | 0, h => rfl
    | 1, h => rfl
    | 2, h => rfl
    | 3, h => exact absurd rfl h
    | _ + 4, _ => rfl
theorem ar9_s0 (q : I9) (v : Int32) : upd (ar9 q) (Int32.toNatClampNeg 0) v = ar9 (v, q.2) := by
  funext j
  show (if j = 0 then v else ar9 q j) = _
  by_cases h : j = 0
  · subst h; rfl
  · rw [if_neg h]
    match j, h with
    | 0, h => exact absurd rfl h
    | 1, h => rfl
    | 2, h => rfl
    | 3, h => rfl
    | 4, h => rfl
    | 5, h => rfl
    | 6, h => rfl
    | 7, h => rfl
    | 8, h => rfl
    | _ + 9, _ => rfl
theorem ar9_s1 (q : I9) (v : Int32) : upd (ar9 q) (Int32.toNatClampNeg 1) v = ar9 (q.1, v, q.2.2) := by
  funext j
  show (if j = 1 then v else ar9 q j) = _
  by_cases h : j = 1
  · subst h; rfl
  · rw [if_neg h]
    match j, h with
    | 0, h => rfl
    | 1, h => exact absurd rfl h
    | 2, h => rfl
    | 3, h => rfl
    | 4, h => rfl
    | 5, h => rfl
    | 6, h => rfl
    | 7, h => rfl
    | 8, h => rfl
    | _ + 9, _ => rfl
theorem ar9_s2 (q : I9) (v : Int32) : upd (ar9 q) (Int32.toNatClampNeg 2) v = ar9 (q.1, q.2.1, v, q.2.2.2) := by
  funext j
  show (if j = 2 then v else ar9 q j) = _
  by_cases h : j = 2
  · subst h; rfl
  · rw [if_neg h]
    match j, h with
    | 0, h => rfl
    | 1, h => rfl
    | 2, h => exact absurd rfl h
    | 3, h => rfl
    | 4, h => rfl
    | 5, h => rfl
    | 6, h => rfl
    | 7, h => rfl
    | 8, h => rfl
    | _ + 9, _ => rfl
theorem ar9_s3 (q : I9) (v : Int32) : upd (ar9 q) (Int32.toNatClampNeg 3) v = ar9 (q.1, q.2.1, q.2.2.1, v, q.2.2.2.2) := by
  funext j
  show (if j = 3 then v else ar9 q j) = _
  by_cases h : j = 3
  · subst h; rfl
  · rw [if_neg h]
    match j, h with
    | 0, h => rfl
    | 1, h => rfl
    | 2, h => rfl
    | 3, h => exact absurd rfl h
    | 4, h => rfl
    | 5, h => rfl
    | 6, h => rfl
    | 7, h => rfl
    | 8, h => rfl
    | _ + 9, _ => rfl
theorem ar9_s4 (q : I9) (v : Int32) : upd (ar9 q) (Int32.toNatClampNeg 4) v = ar9 (q.1, q.2.1, q.2.2.1, q.2.2.2.1, v, q.2.2.2.2.2) := by
  funext j
  show (if j = 4 then v else ar9 q j) = _
  by_cases h : j = 4
  · subst h; rfl
  · rw [if_neg h]
    match j, h with
    | 0, h => rfl
    | 1, h => rfl
    | 2, h => rfl
    | 3, h => rfl
    | 4, h => exact absurd rfl h
    | 5, h => rfl
    | 6, h => rfl
    | 7, h => rfl
    | 8, h => rfl
    | _ + 9, _ => rfl
theorem ar9_s5 (q : I9) (v : Int32) : upd (ar9 q) (Int32.toNatClampNeg 5) v = ar9 (q.1, q.2.1, q.2.2.1, q.2.2.2.1, q.2.2.2.2.1, v, q.2.2.2.2.2.2) := by
  funext j
  show (if j = 5 then v else ar9 q j) = _
  by_cases h : j = 5
  · subst h; rfl
  · rw [if_neg h]
    match j, h with
    | 0, h => rfl
    | 1, h => rfl
    | 2, h => rfl
    | 3, h => rfl
    | 4, h => rfl
    | 5, h => exact absurd rfl h
    | 6, h => rfl
    | 7, h => rfl
    | 8, h => rfl
    | _ + 9, _ => rfl
theorem ar9_s6 (q : I9) (v : Int32) : upd (ar9 q) (Int32.toNatClampNeg 6) v = ar9 (q.1, q.2.1, q.2.2.1, q.2.2.2.1, q.2.2.2.2.1, q.2.2.2.2.2.1, v, q.2.2.2.2.2.2.2) := by
  funext j
  show (if j = 6 then v else ar9 q j) = _
  by_cases h : j = 6
  · subst h; rfl
  · rw [if_neg h]
    match j, h with
    | 0, h => rfl
    | 1, h => rfl
    | 2, h => rfl
    | 3, h => rfl
    | 4, h => rfl
    | 5, h => rfl
    | 6, h => exact absurd rfl h
    | 7, h => rfl
    | 8, h => rfl
    | _ + 9, _ => rfl
theorem ar9_s7 (q : I9) (v : Int32) : upd (ar9 q) (Int32.toNatClampNeg 7) v = ar9 (q.1, q.2.1, q.2.2.1, q.2.2.2.1, q.2.2.2.2.1, q.2.2.2.2.2.1, q.2.2.2.2.2.2.1, v, q.2.2.2.2.2.2.2.2) := by
  funext j
  show (if j = 7 then v else ar9 q j) = _
  by_cases h : j = 7
  · subst h; rfl
  · rw [if_neg h]
    match j, h with
    | 0, h => rfl
    | 1, h => rfl
    | 2, h => rfl
    | 3, h => rfl
    | 4, h => rfl
    | 5, h => rfl
    | 6, h => rfl
    | 7, h => exact absurd rfl h
    | 8, h => rfl
    | _ + 9, _ => rfl
theorem ar9_s8 (q : I9) (v : Int32) : upd (ar9 q) (Int32.toNatClampNeg 8) v = ar9 (q.1, q.2.1, q.2.2.1, q.2.2.2.1, q.2.2.2.2.1, q.2.2.2.2.2.1, q.2.2.2.2.2.2.1, q.2.2.2.2.2.2.2.1, v) := by
  funext j
  show (if j = 8 then v else ar9 q j) = _
  by_cases h : j = 8
  · subst h; rfl
  · rw [if_neg h]
    match j, h with
    | 0, h => rfl
    | 1, h => rfl
    | 2, h => rfl
    | 3, h => rfl
    | 4, h => rfl
    | 5, h => rfl
    | 6, h => rfl
    | 7, h => rfl
    | 8, h => exact absurd rfl h
    | _ + 9, _ => rfl
abbrev wB (h : Nat) (b : Ba) : va_W := [(h, cB b)]
abbrev wS (h : Nat) (b : Sd) : va_W := [(h, cS b)]
abbrev wC (a0 a1 a2 a3 a4 a5 a6 : Nat) (X : Co) : va_W := [(a0, cF a1 a2 a3 a4 a5 a6 X.2.2.2.2.2.2), (a1, cS X.1), (a2, cS X.2.1), (a3, cB X.2.2.1), (a4, cB X.2.2.2.1), (a5, cB X.2.2.2.2.1), (a6, cB X.2.2.2.2.2.1)]
abbrev wZ (cI cJ : ClassId) (z0 z1 z2 z3 : Nat) (bf : Value) (Z : Zs) : va_W := [(z0, cZ bf z1 Z.2.2), (z1, cQ cJ z2 z3), (z2, cA4 cI Z.1), (z3, cA4 cI Z.2.1)]
