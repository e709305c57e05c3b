/-! both sides fly alike -/
theorem LX0_fly_k (k : Nat) : ∀ (n : Nat) (p0 i0 : Int32) (b : Ba), (p0.toInt - i0.toInt).toNat = k → k < n → LX0_fly n p0 i0 b = some (iterE k b) := by
  induction k with
  | zero =>
    intro n p0 i0 b h1 h2
    obtain ⟨n, rfl⟩ : ∃ m, n = m + 1 := ⟨n - 1, by omega⟩
    rw [LX0_fly, if_pos (by rw [kleI]; omega)]
    rfl
  | succ k ih =>
    intro n p0 i0 b h1 h2
    obtain ⟨n, rfl⟩ : ∃ m, n = m + 1 := ⟨n - 1, by omega⟩
    have h3 := Int32.toInt_lt p0
    have e := kincI (a := i0) (m := p0.toInt) (by omega) (by omega)
    rw [LX0_fly, if_neg (by rw [kleI]; omega)]
    show (if en b = 0 then LX0_fly n p0 (i0 + 1) (fX0_passMoment b) else some b) = some (if en b = 0 then iterE k (fX0_passMoment b) else b)
    by_cases he : en b = 0
    · rw [if_pos he, if_pos he]
      exact ih n p0 (i0 + 1) _ (by rw [e]; omega) (by omega)
    · rw [if_neg he, if_neg he]
theorem fly_eq (p0 : Int32) (b : Ba) : fX0_fly p0 b = iterE p0.toInt.toNat b :=
  keps (d := b) (LX0_fly_k p0.toInt.toNat _ p0 0 b (by rw [n0, Int.sub_zero]) (by have := Int32.toInt_lt p0; omega))
theorem LX3_flyOn_k (X : Mo) {i : Nat} (hi : i ≤ 512) (k : Nat) : ∀ (n : Nat) (p0 i0 : Int32) (b : Ba), Fl i b → (p0.toInt - i0.toInt).toNat = k → k < n →
    LX3_flyOn n p0 i0 (sB X (c9 b) (mom b)) = some (en (iterE k b), sB X (c9 (iterE k b)) (mom (iterE k b))) := by
  induction k with
  | zero =>
    intro n p0 i0 b h h1 h2
    obtain ⟨n, rfl⟩ : ∃ m, n = m + 1 := ⟨n - 1, by omega⟩
    rw [LX3_flyOn, if_pos (by rw [kleI]; omega), iterE_0, h.2.1]
  | succ k ih =>
    intro n p0 i0 b h h1 h2
    obtain ⟨n, rfl⟩ : ∃ m, n = m + 1 := ⟨n - 1, by omega⟩
    have h3 := Int32.toInt_lt p0
    have e := kincI (a := i0) (m := p0.toInt) (by omega) (by omega)
    obtain ⟨q1, q2, q3, q4⟩ := Fl.low hi h
    obtain ⟨B, e1, e2, e3, e4, e5, e6⟩ := mom_br X (mom b) h.1 h.2.1 q3
    have e4' : mom b + 1 = mom B := e4.symm
    rw [LX3_flyOn, if_neg (by rw [kleI]; omega), e2, e4', iterE_s, if_pos h.2.1, e1]
    show (if en B ≤ 0 then LX3_flyOn n p0 (i0 + 1) (sB X (c9 B) (mom B)) else some (en B, sB X (c9 B) (mom B))) = _
    by_cases he : en B = 0
    · rw [if_pos (by rw [he]; decide)]
      exact ih n p0 (i0 + 1) B (Fl.step hi h e3 e6 he).1 (by rw [e]; omega) (by omega)
    · have he' : ¬ en B ≤ 0 := by
        rcases e5 with h | h | h | h
        · exact absurd h he
        · rw [h]; decide
        · rw [h]; decide
        · rw [h]; decide
      rw [if_neg he', iterE_end he]
theorem Good.mom0 {i : Nat} {b : Ba} (h : Good i b) : mom b = 0 := congrArg (fun z => z.2.2.2.1) h.2.2.2.2.2
theorem flyOn_eq {i : Nat} (hi : i ≤ 512) {bs : Ba} (hg : Good i bs) (p0 : Int32) (Y : Mo) (hs : Y.1 = c9 bs) :
    fX3_flyOn p0 Y = (en (iterE p0.toInt.toNat bs), sB Y (c9 (iterE p0.toInt.toNat bs)) (mom (iterE p0.toInt.toNat bs))) := by
  have hl : fX3_look Y = sB Y (c9 bs) (mom bs) := by
    rw [hg.mom0, ← hs]
    rfl
  have := LX3_flyOn_k Y hi p0.toInt.toNat 2147483649 p0 0 bs hg.fl (by rw [n0, Int.sub_zero]) (by have := Int32.toInt_lt p0; omega)
  rw [← hl] at this
  exact keps (d := (0, Y)) this
theorem LX3_finish_k (X : Mo) {i : Nat} (hi : i ≤ 512) (k : Nat) : ∀ (n : Nat) (b : Ba), Fl i b → lef b ≤ k → k + 1 < n →
    LX3_finish n 0 (sB X (c9 b) (mom b)) = some (en (iterE k b), sB X (c9 (iterE k b)) (mom (iterE k b))) := by
  induction k with
  | zero =>
    intro n b h h1 h2
    have := (Fl.low hi h).1
    omega
  | succ k ih =>
    intro n b h h1 h2
    obtain ⟨n, rfl⟩ : ∃ m, n = m + 1 := ⟨n - 1, by omega⟩
    obtain ⟨q1, q2, q3, q4⟩ := Fl.low hi h
    obtain ⟨B, e1, e2, e3, e4, e5, e6⟩ := mom_br X (mom b) h.1 h.2.1 q3
    have e4' : mom b + 1 = mom B := e4.symm
    rw [LX3_finish, if_pos rfl, e2, e4', iterE_s, if_pos h.2.1, e1]
    show LX3_finish n (en B) (sB X (c9 B) (mom B)) = _
    by_cases he : en B = 0
    · obtain ⟨s1, s2⟩ := Fl.step hi h e3 e6 he
      rw [he]
      exact ih n B s1 (by omega) (by omega)
    · obtain ⟨n, rfl⟩ : ∃ m, n = m + 1 := ⟨n - 1, by omega⟩
      rw [LX3_finish, if_neg he, iterE_end he]
theorem finish_some {i : Nat} (hi : i ≤ 512) (X : Mo) {b : Ba} (h : Fl i b) : FX3_finish (sB X (c9 b) (mom b)) = some (en (iterE 1000 b), sB X (c9 (iterE 1000 b)) (mom (iterE 1000 b))) :=
  LX3_finish_k X hi 1000 1000000 b h (by have := (Fl.low hi h).2.1; omega) (by omega)
theorem finish_eq {i : Nat} (hi : i ≤ 512) (X : Mo) {b : Ba} (h : Fl i b) : fX3_finish (sB X (c9 b) (mom b)) = (en (iterE 1000 b), sB X (c9 (iterE 1000 b)) (mom (iterE 1000 b))) :=
  keps (d := (0, sB X (c9 b) (mom b))) (finish_some hi X h)
theorem finish_N {i : Nat} (hi : i ≤ 512) (X : Mo) {b : Ba} (h : Fl i b) : NX3_finish (sB X (c9 b) (mom b)) := by
  unfold NX3_finish
  rw [finish_some hi X h]
  rfl
theorem full_eq {i : Nat} (hi : i ≤ 512) {bs : Ba} (hg : Good i bs) (Y : Mo) (hs : Y.1 = c9 bs) :
    NX3_fullFlight Y ∧ fX3_fullFlight Y = (en (iterE 1000 bs), sB Y (c9 (iterE 1000 bs)) (mom (iterE 1000 bs))) := by
  have hl : fX3_look Y = sB Y (c9 bs) (mom bs) := by
    rw [hg.mom0, ← hs]
    rfl
  unfold NX3_fullFlight fX3_fullFlight
  rw [hl, finish_eq hi Y hg.fl]
  exact ⟨finish_N hi Y hg.fl, rfl⟩
theorem nIi {j : Nat} (h : j < 600) : (nI j).toInt = (j : Int) := by
  have h2 : ∀ j : Fin 600, (nI j.val).toInt = (j.val : Int) := by decide +kernel
  exact h2 ⟨j, h⟩
theorem nIs (j : Nat) : nI j + 1 = nI (j + 1) := Int32.ofNat_succ j
theorem end_at {i : Nat} (hi : i ≤ 512) (t : Nat) : ∀ (b : Ba), Fl i b → lef b ≤ t →
    ∃ T : Nat, 1 ≤ T ∧ T ≤ t ∧ ¬ en (iterE T b) = 0 ∧ (∀ k, k < T → en (iterE k b) = 0) ∧ mom (iterE T b) = mom b + nI T := by
  induction t with
  | zero =>
    intro b h h1
    have := (Fl.low hi h).1
    omega
  | succ t ih =>
    intro b h h1
    obtain ⟨q1, q2, q3, q4⟩ := Fl.low hi h
    obtain ⟨B, e1, e2, e3, e4, e5, e6⟩ := mom_br Y0mo 0 h.1 h.2.1 q3
    have e4' : mom B = mom b + 1 := e4
    have hit : ∀ k, iterE (k + 1) b = iterE k B := fun k => by rw [iterE_s, if_pos h.2.1, e1]
    by_cases he : en B = 0
    · obtain ⟨s1, s2⟩ := Fl.step hi h e3 e6 he
      obtain ⟨T, t1, t2, t3, t4, t5⟩ := ih B s1 (by omega)
      refine ⟨T + 1, by omega, by omega, by rw [hit]; exact t3, fun k hk => ?_, ?_⟩
      · cases k with
        | zero => exact h.2.1
        | succ k => rw [hit]; exact t4 k (by omega)
      · rw [hit, t5, e4', Int32.add_assoc, Int32.add_comm 1, nIs]
    · refine ⟨1, by omega, by omega, by rw [hit]; exact he, fun k hk => ?_, ?_⟩
      · have : k = 0 := by omega
        subst this
        exact h.2.1
      · rw [hit]
        exact e4'
theorem iterE_far {T : Nat} {b : Ba} (h : ¬ en (iterE T b) = 0) {k : Nat} (hk : T ≤ k) : iterE k b = iterE T b := by
  obtain ⟨m, rfl⟩ : ∃ m, k = T + m := ⟨k - T, by omega⟩
  rw [iterE_add, iterE_end h]
theorem nmill : ((1000000 : Int32)).toInt = 1000000 := by decide
theorem fly_all {i : Nat} (hi : i ≤ 512) {b : Ba} (h : Fl i b) : fX0_fly 1000000 b = iterE 1000 b ∧ ¬ en (iterE 1000 b) = 0 := by
  obtain ⟨T, t1, t2, t3, t4, t5⟩ := end_at hi 512 b h (Fl.low hi h).2.1
  have h1 : iterE 1000 b = iterE T b := iterE_far t3 (by omega)
  have h2 : iterE ((1000000 : Int32)).toInt.toNat b = iterE T b := iterE_far t3 (by rw [nmill]; omega)
  rw [fly_eq, h2, h1]
  exact ⟨rfl, t3⟩
/-- by some moment: still flying, or ended -/
theorem ended {i : Nat} (hi : i ≤ 512) {bs : Ba} (hg : Good i bs) {m : Int32} (hm : 0 ≤ m.toInt) :
    (m < mom (iterE 1000 bs) ∧ en (iterE m.toInt.toNat bs) = 0 ∧ Fl i (iterE m.toInt.toNat bs)) ∨ (¬ m < mom (iterE 1000 bs) ∧ ¬ en (iterE m.toInt.toNat bs) = 0 ∧ iterE m.toInt.toNat bs = iterE 1000 bs) := by
  obtain ⟨T, t1, t2, t3, t4, t5⟩ := end_at hi 512 bs hg.fl (Fl.low hi hg.fl).2.1
  have h1 : iterE 1000 bs = iterE T bs := iterE_far t3 (by omega)
  have h2 : (mom (iterE T bs)).toInt = (T : Int) := by
    rw [t5, hg.mom0, Int32.zero_add]
    exact nIi (by omega)
  by_cases hc : m.toInt < (T : Int)
  · have h3 := t4 m.toInt.toNat (by omega)
    exact Or.inl ⟨by rw [h1, kltI, h2]; exact hc, h3, ((iter_br hi m.toInt.toNat bs hg.fl).2.2.1 h3).1⟩
  · have h3 : iterE m.toInt.toNat bs = iterE T bs := iterE_far t3 (by omega)
    exact Or.inr ⟨by rw [h1, kltI, h2]; exact hc, by rw [h3]; exact t3, by rw [h3, h1]⟩
