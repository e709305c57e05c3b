/-! the two systems side by side: what holds of them behind i calls; every call keeps it, and answers alike -/
abbrev en (b : Ba) : Int32 := b.2.2.2.2.2.2.2.2.2.2
/-- a flight of so many moments at most -/
noncomputable def iterE : Nat → Ba → Ba
  | 0, b => b
  | k + 1, b => if en b = 0 then iterE k (fX0_passMoment b) else b
abbrev c9 (b : Ba) : M9 := (b.1, b.2.1, b.2.2.1, b.2.2.2.1, b.2.2.2.2.1, b.2.2.2.2.2.1, b.2.2.2.2.2.2.1, b.2.2.2.2.2.2.2.1, b.2.2.2.2.2.2.2.2.1)
/-- within the court, its ways small -/
def Geo (b : Ba) : Prop := 0 ≤ b.1.toInt ∧ b.1.toInt ≤ 11 ∧ 0 ≤ b.2.1.toInt ∧ b.2.1.toInt ≤ 29 ∧ -2 ≤ b.2.2.2.1.toInt ∧ b.2.2.2.1.toInt ≤ 2 ∧ -2 ≤ b.2.2.2.2.1.toInt ∧ b.2.2.2.2.1.toInt ≤ 2
/-- a ball just struck, in a game of i calls -/
def Good (i : Nat) (b : Ba) : Prop := Geo b ∧ 1 ≤ b.2.2.1.toInt ∧ b.2.2.1.toInt ≤ 8000 + 45 * (i : Int) ∧ 0 ≤ b.2.2.2.2.2.1.toInt ∧ b.2.2.2.2.2.1.toInt ≤ 9 ∧ b.2.2.2.2.2.2 = (0, 0, 0, 0, 0)
def RelS (p1 g1 p2 g2 ra go mw is : Int32) : Prop :=
  ((is = 0 ∧ go = 12) ∨ (is = 1 ∧ (go = 13 ∨ go = 14 ∨ go = 15 ∨ go = 16))) ∧ 0 ≤ p1.toInt ∧ p1.toInt < go.toInt ∧ 0 ≤ p2.toInt ∧ p2.toInt < go.toInt ∧
  ((mw = -1 ∧ 0 ≤ g1.toInt ∧ g1.toInt ≤ 2 ∧ 0 ≤ g2.toInt ∧ g2.toInt ≤ 2) ∨ (mw = 0 ∧ g1 = 3 ∧ 0 ≤ g2.toInt ∧ g2.toInt ≤ 2 ∧ p1 = 0 ∧ p2 = 0 ∧ ra = 0 ∧ go = 12) ∨ (mw = 1 ∧ g2 = 3 ∧ 0 ≤ g1.toInt ∧ g1.toInt ≤ 2 ∧ p1 = 0 ∧ p2 = 0 ∧ ra = 0 ∧ go = 12))
def RelR (i : Nat) (bs be : Ba) (sv ra sk : Int32) (st : M9) (tu sk' : Int32) : Prop :=
  (ra = 0 ∧ sk = 0) ∨ (ra = 1 ∧ sk' = sk ∧ (∃ j : Nat, sk = nI j ∧ 1 ≤ j ∧ j ≤ i ∧ tu = (if j % 2 = 0 then sv else 1 - sv)) ∧ Good i bs ∧ st = c9 bs ∧ be = iterE 1000 bs)
def Rel (i : Nat) (X : Co) (Y : Mo) : Prop :=
  ∃ (p1 g1 r1 k1 p2 g2 r2 k2 : Int32) (bs be ba bt : Ba) (sv ra sk go mw wr ws le wg : Int32) (st bl : M9) (th tu sk' is mo : Int32),
    X = ((p1, g1, r1, k1), (p2, g2, r2, k2), bs, be, ba, bt, sv, ra, sk, go, mw, wr, ws, le, wg) ∧
    Y = (st, (p1, p2), (g1, g2), (r1, r2), (k1, k2), bl, th, sv, ra, tu, sk', wr, le, wg, go, is, ws, mo) ∧
    (sv = 0 ∨ sv = 1) ∧ RelS p1 g1 p2 g2 ra go mw is ∧ RelR i bs be sv ra sk st tu sk'
/-- what one call owes: the same exception or the same answer, and the relation again -/
def kStep (i : Nat) (X : Co) (S : Int32 × Int32 × Co) (kA kS kO : Int32) (T : Int32 × Mo) : Prop :=
  fX3_thrown T.2 = kK S.1 kA kS kO ∧ (S.1 = 0 → S.2.1 = T.1) ∧ Rel (i + 1) (if S.1 = 0 then S.2.2 else X) T.2
theorem Rel_0 : Rel 0 X0co Y0mo :=
  ⟨0, 0, 0, 0, 0, 0, 0, 0, _, _, _, _, 0, 0, 0, 12, -1, 0, 0, 0, 0, _, _, 0, 0, 0, 0, 0, rfl, rfl, Or.inl rfl, ⟨Or.inl ⟨rfl, rfl⟩, by decide, by decide, by decide, by decide, Or.inl ⟨rfl, by decide, by decide, by decide, by decide⟩⟩, Or.inl ⟨rfl, rfl⟩⟩
theorem Good.mono {i : Nat} {b : Ba} (h : Good i b) : Good (i + 1) b := ⟨h.1, h.2.1, by have := h.2.2.1; omega, h.2.2.2⟩
theorem RelR.mono {i : Nat} {bs be : Ba} {sv ra sk : Int32} {st : M9} {tu sk' : Int32} (h : RelR i bs be sv ra sk st tu sk') : RelR (i + 1) bs be sv ra sk st tu sk' := by
  rcases h with h | ⟨h1, h2, ⟨j, h3, h4, h5, h6⟩, h7, h8, h9⟩
  · exact Or.inl h
  · exact Or.inr ⟨h1, h2, ⟨j, h3, h4, by omega, h6⟩, h7.mono, h8, h9⟩
theorem Rel.mono {i : Nat} {X : Co} {Y : Mo} (h : Rel i X Y) : Rel (i + 1) X Y := by
  obtain ⟨p1, g1, r1, k1, p2, g2, r2, k2, bs, be, ba, bt, sv, ra, sk, go, mw, wr, ws, le, wg, st, bl, th, tu, sk', is, mo, h1, h2, h3, h4, h5⟩ := h
  exact ⟨p1, g1, r1, k1, p2, g2, r2, k2, bs, be, ba, bt, sv, ra, sk, go, mw, wr, ws, le, wg, st, bl, th, tu, sk', is, mo, h1, h2, h3, h4, h5.mono⟩
/-- the answers' register and the ball that is looked at are nobody's business -/
theorem Rel.touch {i : Nat} {X : Co} {Y : Mo} (h : Rel i X Y) (bl : M9) (th mo : Int32) : Rel i X (Y.1, Y.2.1, Y.2.2.1, Y.2.2.2.1, Y.2.2.2.2.1, bl, th, Y.2.2.2.2.2.2.2.1, Y.2.2.2.2.2.2.2.2.1, Y.2.2.2.2.2.2.2.2.2.1, Y.2.2.2.2.2.2.2.2.2.2.1, Y.2.2.2.2.2.2.2.2.2.2.2.1, Y.2.2.2.2.2.2.2.2.2.2.2.2.1, Y.2.2.2.2.2.2.2.2.2.2.2.2.2.1, Y.2.2.2.2.2.2.2.2.2.2.2.2.2.2.1, Y.2.2.2.2.2.2.2.2.2.2.2.2.2.2.2.1, Y.2.2.2.2.2.2.2.2.2.2.2.2.2.2.2.2.1, mo) := by
  obtain ⟨p1, g1, r1, k1, p2, g2, r2, k2, bs, be, ba, bt, sv, ra, sk, go, mw, wr, ws, le, wg, st, bl0, th0, tu, sk', is, mo0, h1, h2, h3, h4, h5⟩ := h
  subst h2
  exact ⟨p1, g1, r1, k1, p2, g2, r2, k2, bs, be, ba, bt, sv, ra, sk, go, mw, wr, ws, le, wg, st, bl, th, tu, sk', is, mo, h1, rfl, h3, h4, h5⟩

