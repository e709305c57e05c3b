/-! the two systems side by side: what holds of them behind i calls; every call keeps it, and answers alike -/
theorem kleI {a b : Int32} : a ≤ b ↔ a.toInt ≤ b.toInt := Int32.le_iff_toInt_le

abbrev en (b : Ba) : Int32 := b.2.2.2.2.2.2.2.2.2.2
/-- a flight of so many moments at most -/
noncomputable def iterE : Nat → Ba → Ba
  | 0, b => b
  | k + 1, b => if en b = 0 then iterE k (fX0_passMoment b) else b

/-- the ball by hand beside the court's -/
abbrev c10 (b : Ba) : Lb := (b.1, b.2.1, b.2.2.1, b.2.2.2.1, b.2.2.2.2.1, b.2.2.2.2.2.1, b.2.2.2.2.2.2.1, b.2.2.2.2.2.2.2.1, b.2.2.2.2.2.2.2.2.1, b.2.2.2.2.2.2.2.2.2.1)

/-- within the court, its ways small -/
def Geo (b : Ba) : Prop := 0 ≤ b.1.toInt ∧ b.1.toInt ≤ 11 ∧ 0 ≤ b.2.1.toInt ∧ b.2.1.toInt ≤ 29 ∧ -2 ≤ b.2.2.2.1.toInt ∧ b.2.2.2.1.toInt ≤ 2 ∧ -2 ≤ b.2.2.2.2.1.toInt ∧ b.2.2.2.2.1.toInt ≤ 2
/-- a ball just struck, in a game of i calls -/
def Good (i : Nat) (b : Ba) : Prop := Geo b ∧ 1 ≤ b.2.2.1.toInt ∧ b.2.2.1.toInt ≤ 8000 + 45 * (i : Int) ∧ 0 ≤ b.2.2.2.2.2.1.toInt ∧ b.2.2.2.2.2.1.toInt ≤ 9 ∧ b.2.2.2.2.2.2 = (0, 0, 0, 0, 0)
def RelS (p1 g1 p2 g2 ra go mw is : Int32) : Prop :=
  ((is = 0 ∧ go = 12) ∨ (is = 1 ∧ (go = 13 ∨ go = 14 ∨ go = 15 ∨ go = 16))) ∧ 0 ≤ p1.toInt ∧ p1.toInt < go.toInt ∧ 0 ≤ p2.toInt ∧ p2.toInt < go.toInt ∧
  ((mw = -1 ∧ 0 ≤ g1.toInt ∧ g1.toInt ≤ 2 ∧ 0 ≤ g2.toInt ∧ g2.toInt ≤ 2) ∨ (mw = 0 ∧ g1 = 3 ∧ 0 ≤ g2.toInt ∧ g2.toInt ≤ 2 ∧ p1 = 0 ∧ p2 = 0 ∧ ra = 0 ∧ go = 12) ∨ (mw = 1 ∧ g2 = 3 ∧ 0 ≤ g1.toInt ∧ g1.toInt ≤ 2 ∧ p1 = 0 ∧ p2 = 0 ∧ ra = 0 ∧ go = 12))

/-- not in the buttress -/
def NB (b : Ba) : Prop := fX0_isButtress b.1 b.2.1 = 0
def RelR (i : Nat) (bs be : Ba) (sv ra sk tu sk' : Int32) (β : Option Lb) : Prop :=
  (ra = 0 ∧ sk = 0 ∧ tu = -1 ∧ β = none) ∨ (ra = 1 ∧ sk' = sk ∧ (∃ j : Nat, sk = nI j ∧ 1 ≤ j ∧ j ≤ i ∧ tu = (if j % 2 = 0 then sv else 1 - sv)) ∧ Good i bs ∧ NB bs ∧ be = iterE 1000 bs ∧ β = some (c10 bs))
def RelC (i : Nat) (g1 r1 g2 r2 sk wr ws wg : Int32) : Prop :=
  0 ≤ r1.toInt ∧ 0 ≤ r2.toInt ∧ r1.toInt + r2.toInt ≤ wr.toInt ∧ wr.toInt ≤ (i : Int) ∧ g1.toInt + g2.toInt ≤ wg.toInt ∧ wg.toInt ≤ (i : Int) ∧ 0 ≤ ws.toInt ∧ 0 ≤ sk.toInt ∧ ws.toInt + sk.toInt ≤ (i : Int)
def Rel (i : Nat) (X : Co) (Z : Zs) (β : Option Lb) : Prop :=
  ∃ (p1 g1 r1 k1 p2 g2 r2 k2 : Int32) (bs be ba bt : Ba) (sv ra sk go mw wr ws le wg tu sk' is : Int32),
    X = ((p1, g1, r1, k1), (p2, g2, r2, k2), bs, be, ba, bt, sv, ra, sk, go, mw, wr, ws, le, wg) ∧
    Z = ((p1, g1, r1, k1), (p2, g2, r2, k2), sv, tu, sk', wr, le, wg, go, is, ws) ∧
    (sv = 0 ∨ sv = 1) ∧ RelS p1 g1 p2 g2 ra go mw is ∧ RelR i bs be sv ra sk tu sk' β ∧ RelC i g1 r1 g2 r2 sk wr ws wg

/-! numbers: what a comparison says; literals -/
theorem n0 : ((0 : Int32)).toInt = 0 := by decide
theorem n1 : ((1 : Int32)).toInt = 1 := by decide
theorem n2 : ((2 : Int32)).toInt = 2 := by decide
theorem n3 : ((3 : Int32)).toInt = 3 := by decide
theorem n4 : ((4 : Int32)).toInt = 4 := by decide
theorem n9 : ((9 : Int32)).toInt = 9 := by decide
theorem n10 : ((10 : Int32)).toInt = 10 := by decide
theorem n11 : ((11 : Int32)).toInt = 11 := by decide
theorem n12 : ((12 : Int32)).toInt = 12 := by decide
theorem n29 : ((29 : Int32)).toInt = 29 := by decide
theorem n30 : ((30 : Int32)).toInt = 30 := by decide
theorem n60 : ((60 : Int32)).toInt = 60 := by decide
theorem nm1 : ((-1 : Int32)).toInt = -1 := by decide
theorem nm2 : ((-2 : Int32)).toInt = -2 := by decide
theorem keqI {a b : Int32} : a = b ↔ a.toInt = b.toInt := Int32.toInt_inj.symm
theorem kadd {a b : Int32} (h1 : -2147483648 ≤ a.toInt + b.toInt) (h2 : a.toInt + b.toInt ≤ 2147483647) : (a + b).toInt = a.toInt + b.toInt := Jvm.Kit.i32_add (by omega) (by omega)
theorem ksub {a b : Int32} (h1 : -2147483648 ≤ a.toInt - b.toInt) (h2 : a.toInt - b.toInt ≤ 2147483647) : (a - b).toInt = a.toInt - b.toInt := Jvm.Kit.i32_sub (by omega) (by omega)
theorem kneg {a : Int32} (h : -2147483647 ≤ a.toInt) : (-a).toInt = -a.toInt := by
  have h2 := Int32.toInt_lt a
  have e : (-a) = 0 - a := by simp
  rw [e, ksub (by rw [n0]; omega) (by rw [n0]; omega), n0]
  omega
theorem keps {α : Type} {x : Option α} {r d : α} (h : x = some r) : @Classical.epsilon α ⟨d⟩ (fun y => x = some y) = r := by
  have h2 := Classical.epsilon_spec_aux (α := α) ⟨d⟩ (fun y => x = some y) ⟨r, h⟩
  exact Option.some.inj (h2.symm.trans h)
