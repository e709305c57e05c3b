/-! a flight ends: half the squares of the rise and the height -/
theorem sq_step (r : Int) : (r - 1) * (r - 1 + 1) = r * (r + 1) - 2 * r := by
  rw [Int.sub_add_cancel, Int.sub_mul, Int.mul_add]
  omega
theorem sq_pos (r : Int) : 0 ≤ r * (r + 1) := by
  by_cases h : 0 ≤ r
  · exact Int.mul_nonneg h (by omega)
  · have := Int.mul_nonneg (a := -r) (b := -(r + 1)) (by omega) (by omega)
    rwa [Int.neg_mul_neg] at this
theorem sq_low {r n : Int} (hn : 1 ≤ n) (h : r ≤ -n) : n * (n - 1) ≤ r * (r + 1) := by
  have := Int.mul_le_mul (a := n) (b := n - 1) (c := -r) (d := -(r + 1)) (by omega) (by omega) (by omega) (by omega)
  rwa [Int.neg_mul_neg] at this
theorem sq_high {r n : Int} (h0 : 0 ≤ r) (h : r ≤ n) : r * (r + 1) ≤ n * (n + 1) :=
  Int.mul_le_mul h (by omega) (by omega) (by omega)
abbrev hei (b : Ba) : Int32 := b.2.2.1
abbrev ris (b : Ba) : Int32 := b.2.2.2.2.2.1
abbrev bou (b : Ba) : Int32 := b.2.2.2.2.2.2.2.1
abbrev mom (b : Ba) : Int32 := b.2.2.2.2.2.2.2.2.2.1
def Fl (i : Nat) (b : Ba) : Prop := Geo b ∧ en b = 0 ∧ 0 ≤ (hei b).toInt ∧
  (((bou b).toInt = 0 ∧ (ris b).toInt ≤ 9 ∧ -249 ≤ (ris b).toInt ∧ 2 * (hei b).toInt + (ris b).toInt * ((ris b).toInt + 1) ≤ 16090 + 90 * (i : Int)) ∨
    ((bou b).toInt = 1 ∧ (ris b).toInt ≤ 125 ∧ -126 ≤ (ris b).toInt ∧ 2 * (hei b).toInt + (ris b).toInt * ((ris b).toInt + 1) ≤ 15750))
def lef (b : Ba) : Int := if (bou b).toInt = 0 then (ris b).toInt + 503 else (ris b).toInt + 127
theorem Good.fl {i : Nat} {b : Ba} (h : Good i b) : Fl i b := by
  obtain ⟨h1, h2, h3, h4, h5, h6⟩ := h
  obtain ⟨co, ro, he, ac, al, ri, fr, bo, to, mo, e⟩ := b
  have e1 : fr = 0 := congrArg Prod.fst h6
  have e2 : bo = 0 := congrArg (fun z => z.2.1) h6
  have e3 : e = 0 := congrArg (fun z => z.2.2.2.2) h6
  subst e1 e2 e3
  have h4' : 0 ≤ ri.toInt := h4
  have h5' : ri.toInt ≤ 9 := h5
  have h3' : he.toInt ≤ 8000 + 45 * (i : Int) := h3
  have h2' : 1 ≤ he.toInt := h2
  have := sq_high h4' h5'
  exact ⟨h1, rfl, by show 0 ≤ he.toInt; omega, Or.inl ⟨n0, h5', by show -249 ≤ ri.toInt; omega, by show 2 * he.toInt + ri.toInt * (ri.toInt + 1) ≤ _; omega⟩⟩
theorem Fl.low {i : Nat} {b : Ba} (hi : i ≤ 512) (h : Fl i b) : 1 ≤ lef b ∧ lef b ≤ 512 ∧ 0 ≤ (bou b).toInt ∧ (hei b).toInt ≤ 8000 + 45 * (i + 1) := by
  obtain ⟨h1, h2, h3, h4⟩ := h
  have hp := sq_pos (ris b).toInt
  unfold lef
  rcases h4 with ⟨h4, h5, h6, h7⟩ | ⟨h4, h5, h6, h7⟩
  · rw [if_pos h4]
    omega
  · rw [if_neg (by omega)]
    omega
theorem Fl.step {i : Nat} {b B : Ba} (hi : i ≤ 512) (h : Fl i b) (hG : Geo B) (hm : Mom b B) (he : en B = 0) : Fl i B ∧ lef B ≤ lef b - 1 := by
  obtain ⟨h1, h2, h3, h4⟩ := h
  have hp := sq_pos (ris b).toInt
  have hs := sq_step (ris b).toInt
  have hr : -249 ≤ (ris b).toInt ∧ (ris b).toInt ≤ 125 := by
    rcases h4 with ⟨h4, h5, h6, h7⟩ | ⟨h4, h5, h6, h7⟩ <;> omega
  have hh : (hei b).toInt ≤ 50000 := by
    rcases h4 with ⟨h4, h5, h6, h7⟩ | ⟨h4, h5, h6, h7⟩ <;> omega
  have a1 : (hei b + ris b).toInt = (hei b).toInt + (ris b).toInt := kadd (by omega) (by omega)
  have a2 : (ris b - 1).toInt = (ris b).toInt - 1 := by
    have := ksub (a := ris b) (b := 1) (by rw [n1]; omega) (by rw [n1]; omega)
    rwa [n1] at this
  rcases hm with hm | ⟨_, m1, m2, m3, m4⟩ | ⟨_, m1, m2, m3, m4, m5, m6⟩
  · exact absurd he hm
  · have m1' : (hei B).toInt = (hei b).toInt + (ris b).toInt := by rw [← a1]; exact congrArg _ m1
    have m2' : (ris B).toInt = (ris b).toInt - 1 := by rw [← a2]; exact congrArg _ m2
    have m3' : (bou B).toInt = (bou b).toInt := congrArg _ m3
    have m4' : 0 ≤ (hei B).toInt := by
      rcases m4 with m4 | m4
      · have m4 : 0 < hei B := m4
        rw [kltI, n0] at m4
        omega
      · have m4 : 0 ≤ ris B := m4
        rw [kleI, n0] at m4
        omega
    have hE : 2 * (hei B).toInt + (ris B).toInt * ((ris B).toInt + 1) = 2 * (hei b).toInt + (ris b).toInt * ((ris b).toInt + 1) := by
      rw [m1', m2', hs]
      omega
    constructor
    · refine ⟨hG, he, m4', ?_⟩
      rcases h4 with ⟨h4, h5, h6, h7⟩ | ⟨h4, h5, h6, h7⟩
      · refine Or.inl ⟨by omega, by omega, ?_, by omega⟩
        by_cases hc : -249 ≤ (ris B).toInt
        · exact hc
        · have := sq_low (r := (ris B).toInt) (n := 250) (by omega) (by omega)
          omega
      · refine Or.inr ⟨by omega, by omega, ?_, by omega⟩
        by_cases hc : -126 ≤ (ris B).toInt
        · exact hc
        · have := sq_low (r := (ris B).toInt) (n := 127) (by omega) (by omega)
          omega
    · unfold lef
      rw [m3', m2']
      split <;> omega
  · have c1 : ¬ 0 < hei b + ris b := m4
    have c2 : ¬ 0 ≤ ris b - 1 := m5
    rw [kltI, n0] at c1
    rw [kleI, n0] at c2
    have b0 : (bou b + 1).toInt = (bou b).toInt + 1 := kincI (m := 5) (by rcases h4 with ⟨h4, _⟩ | ⟨h4, _⟩ <;> omega) (by omega)
    have b1 : (bou B).toInt = (bou b).toInt + 1 := by rw [← b0]; exact congrArg _ m3
    have b2 : ¬ bou B = 2 := m6
    rw [keqI, n2] at b2
    have h4' : (bou b).toInt = 0 := by rcases h4 with ⟨h4, _⟩ | ⟨h4, _⟩ <;> omega
    have g1 : (-(ris b - 1)).toInt = -(ris b - 1).toInt := kneg (by omega)
    have g2 : (ris B).toInt = (1 - (ris b).toInt).tdiv 2 := by
      have g3 : ((-(ris b - 1)) / 2).toInt = (-(ris b - 1)).toInt.tdiv (2 : Int32).toInt := Jvm.Kit.i32_div (by rw [n2]; omega)
      rw [g1, a2, n2] at g3
      have g4 : (ris B).toInt = ((-(ris b - 1)) / 2).toInt := congrArg _ m2
      rw [g4, g3]
      congr 1
      omega
    rw [Int.tdiv_eq_ediv_of_nonneg (by omega)] at g2
    have g5 : 0 ≤ (ris B).toInt ∧ (ris B).toInt ≤ 125 := by omega
    have g6 : (hei B).toInt = 0 := by
      have : (hei B).toInt = (0 : Int32).toInt := congrArg _ m1
      rw [this, n0]
    have := sq_high g5.1 g5.2
    refine ⟨⟨hG, he, by omega, Or.inr ⟨by omega, by omega, by omega, by omega⟩⟩, ?_⟩
    unfold lef
    rw [if_neg (by omega), if_pos h4']
    omega
/-! so many moments -/
theorem iterE_0 (b : Ba) : iterE 0 b = b := rfl
theorem iterE_s (k : Nat) (b : Ba) : iterE (k + 1) b = if en b = 0 then iterE k (fX0_passMoment b) else b := rfl
theorem iterE_end {b : Ba} (h : ¬ en b = 0) (k : Nat) : iterE k b = b := by
  cases k with
  | zero => rfl
  | succ k => rw [iterE_s, if_neg h]
theorem iterE_add (k : Nat) : ∀ (m : Nat) (b : Ba), iterE (k + m) b = iterE m (iterE k b) := by
  induction k with
  | zero => intro m b; rw [Nat.zero_add]; rfl
  | succ k ih =>
    intro m b
    by_cases h : en b = 0
    · rw [show k + 1 + m = (k + m) + 1 by omega, iterE_s, if_pos h, iterE_s, if_pos h]
      exact ih m _
    · rw [iterE_end h, iterE_end h, iterE_end h]

/-- a flying ball, in the court -/
def FN (i : Nat) (b : Ba) : Prop := Fl i b ∧ NB b
theorem Fl.bou {i : Nat} {b : Ba} (h : Fl i b) : b.2.2.2.2.2.2.2.1.toInt = 0 ∨ b.2.2.2.2.2.2.2.1.toInt = 1 := by
  rcases h.2.2.2 with ⟨h, _⟩ | ⟨h, _⟩
  · exact Or.inl h
  · exact Or.inr h
theorem mom_fl {i : Nat} (hi : i ≤ 512) {b : Ba} (h : FN i b) :
    ∃ B : Ba, fX0_passMoment b = B ∧ fX3_go (c10 b) = (en B, c10 B) ∧ Geo B ∧ NB B ∧ mom B = mom b + 1 ∧ (en B = 0 ∨ en B = 1 ∨ en B = 2 ∨ en B = 3) ∧ Ext b B ∧ (en B = 0 → FN i B ∧ lef B ≤ lef b - 1) := by
  obtain ⟨B, e1, e2, e3, eN, e4, e5, e6, e7⟩ := mom_br h.1.1 h.2 h.1.2.1 h.1.bou
  exact ⟨B, e1, e2, e3, eN, e4, e5, e7, fun he => ⟨⟨(Fl.step hi h.1 e3 e6 he).1, eN⟩, (Fl.step hi h.1 e3 e6 he).2⟩⟩
theorem iter_fl {i : Nat} (hi : i ≤ 512) (k : Nat) : ∀ (b : Ba), FN i b →
    (en (iterE k b) = 0 ∨ en (iterE k b) = 1 ∨ en (iterE k b) = 2 ∨ en (iterE k b) = 3) ∧ Geo (iterE k b) ∧ NB (iterE k b) ∧
    (en (iterE k b) = 0 → FN i (iterE k b) ∧ lef (iterE k b) ≤ lef b - k ∧ mom (iterE k b) = mom b + nI k) ∧ (512 ≤ k → ¬ en (iterE k b) = 0) := by
  induction k with
  | zero =>
    intro b h
    refine ⟨Or.inl h.1.2.1, h.1.1, h.2, fun _ => ⟨h, ?_, ?_⟩, fun h => absurd h (by omega)⟩
    · rw [iterE_0]; omega
    · rw [iterE_0]; exact (Int32.add_zero _).symm
  | succ k ih =>
    intro b h
    obtain ⟨q1, q2, q3, q4⟩ := Fl.low hi h.1
    obtain ⟨B, e1, e2, e3, eN, e4, e5, e6, e7⟩ := mom_fl hi h
    rw [iterE_s, if_pos h.1.2.1, e1]
    by_cases he : en B = 0
    · obtain ⟨s1, s2⟩ := e7 he
      obtain ⟨f2, f1, fN, f3, f4⟩ := ih B s1
      refine ⟨f2, f1, fN, fun hz => ?_, fun hk hz => ?_⟩
      · obtain ⟨t1, t2, t3⟩ := f3 hz
        refine ⟨t1, by omega, ?_⟩
        rw [t3, e4, Int32.add_assoc, Int32.add_comm 1]
        exact congrArg (fun z => mom b + z) (nI_1 k)
      · obtain ⟨t1, t2, t3⟩ := f3 hz
        have := (Fl.low hi t1.1).1
        omega
    · rw [iterE_end he]
      exact ⟨e5, e3, eN, fun hz => absurd hz he, fun _ => he⟩
theorem iterE_1 (k : Nat) (b : Ba) : iterE (k + 1) b = if en (iterE k b) = 0 then fX0_passMoment (iterE k b) else iterE k b := by
  rw [iterE_add k 1]
  rfl
theorem nIi {j : Nat} (h : j < 2500) : (nI j).toInt = (j : Int) := nI_toInt (by omega)
theorem nIs (j : Nat) : nI j + 1 = nI (j + 1) := nI_1 j
/-- front touches, bounces, touches of a ball just struck, behind k moments -/
def Cn (i k : Nat) (bs b : Ba) : Prop :=
  (0 ≤ b.2.2.2.2.2.2.1.toInt ∧ b.2.2.2.2.2.2.1.toInt ≤ 2 * (k : Int)) ∧ (0 ≤ b.2.2.2.2.2.2.2.2.1.toInt ∧ b.2.2.2.2.2.2.2.2.1.toInt ≤ 4 * (k : Int)) ∧ (0 ≤ (bou b).toInt ∧ (bou b).toInt ≤ 2) ∧
  (b.2.2.2.1 = bs.2.2.2.1 ∨ b.2.2.2.1 = -bs.2.2.2.1) ∧ (b.2.2.2.2.1 = bs.2.2.2.2.1 ∨ b.2.2.2.2.1 = -bs.2.2.2.2.1) ∧
  (en b = 0 → bou b = 0 ∨ (bou b = 1 ∧ ¬ b.2.2.2.2.2.2.1 = 0)) ∧ (en b = 3 → ¬ b.2.2.2.2.2.2.1 = 0 ∧ ¬ bou b = 0) ∧ (en b = 2 → bou b = 0)
/-- one moment more -/
def Up (b B : Ba) : Prop := b.2.2.2.2.2.2.1.toInt ≤ B.2.2.2.2.2.2.1.toInt ∧ (bou b).toInt ≤ (bou B).toInt ∧ b.2.2.2.2.2.2.2.2.1.toInt ≤ B.2.2.2.2.2.2.2.2.1.toInt ∧ B.2.1.toInt - b.2.1.toInt ≤ 2 ∧ b.2.1.toInt - B.2.1.toInt ≤ 2
theorem Up.refl (b : Ba) : Up b b := ⟨Int.le_refl _, Int.le_refl _, Int.le_refl _, by omega, by omega⟩
theorem cn_step {i k : Nat} (hk : k ≤ 600) {bs b B : Ba} (h : Cn i k bs b) (he : en b = 0) (hf : Fl i b) (x : Ext b B) (h5 : en B = 0 ∨ en B = 1 ∨ en B = 2 ∨ en B = 3) : Cn i (k + 1) bs B ∧ Up b B := by
  obtain ⟨⟨a1, a2⟩, ⟨b1, b2⟩, ⟨c1, c2⟩, ac, al, d1, d2, d3⟩ := h
  obtain ⟨x1, x2, x3, x4, ⟨u, u1, u2⟩, ⟨v, v1, v2⟩, x5, x6, x7, x8⟩ := x
  have hu : B.2.2.2.2.2.2.1.toInt = b.2.2.2.2.2.2.1.toInt + u := by
    rw [u2, kadd (by rw [nIi (by omega)]; omega) (by rw [nIi (by omega)]; omega), nIi (by omega)]
  have hv : B.2.2.2.2.2.2.2.2.1.toInt = b.2.2.2.2.2.2.2.2.1.toInt + v := by
    rw [v2, kadd (by rw [nIi (by omega)]; omega) (by rw [nIi (by omega)]; omega), nIi (by omega)]
  have hb1 : (bou b + 1).toInt = (bou b).toInt + 1 := kincI (m := 5) (by omega) (by omega)
  have hb01 := hf.bou
  have hbB : (bou B).toInt = (bou b).toInt ∨ (bou B).toInt = (bou b).toInt + 1 := by
    rcases x5 with h | h
    · exact Or.inl (congrArg Int32.toInt h)
    · refine Or.inr ?_
      rw [← hb1]
      exact congrArg Int32.toInt h
  have hb01' : (bou b).toInt = 0 ∨ (bou b).toInt = 1 := hb01
  have fz : ∀ {x : Int32}, ¬ x = 0 → ¬ x.toInt = 0 := fun h h2 => h (by rw [keqI, n0]; exact h2)
  have zf : ∀ {x : Int32}, ¬ x.toInt = 0 → ¬ x = 0 := fun h h2 => h (by rw [h2]; exact n0)
  refine ⟨⟨⟨by omega, by omega⟩, ⟨by omega, by omega⟩, ⟨by omega, by omega⟩, pm_trans ac x3, pm_trans al x4, fun hz => ?_, fun hz => ?_, fun hz => ?_⟩, by omega, by omega, by omega, x1, x2⟩
  · rcases x6 hz with h | ⟨h, h2, h9⟩
    · rcases d1 he with h3 | ⟨h3, h4⟩
      · exact Or.inl (h.trans h3)
      · refine Or.inr ⟨h.trans h3, zf ?_⟩
        have := fz h4
        omega
    · right
      refine ⟨?_, h2⟩
      rcases d1 he with h3 | ⟨h3, h4⟩
      · have h : bou B = bou b + 1 := h
        rw [h, h3]
        decide
      · exfalso
        have h : bou B = bou b + 1 := h
        rw [h3] at h
        exact h9 (by show bou B = 2; rw [h]; decide)
  · rcases x7 hz with ⟨h, h2⟩ | ⟨h, h2⟩
    · rcases d1 he with h3 | ⟨h3, h4⟩
      · exact absurd h3 h
      · refine ⟨zf ?_, ?_⟩
        · have := fz h4
          omega
        · have h2 : bou B = bou b := h2
          rw [h2]
          exact h
    · refine ⟨h, zf ?_⟩
      have : (bou B).toInt = (bou b + 1).toInt := congrArg Int32.toInt h2
      omega
  · have := x8 hz
    exact this.2.trans this.1
