/-! the ball: a moment, a flight -/
theorem kSome {α : Type} {x : Option α} (d : α) (h : x.isSome = true) : x = some (@Classical.epsilon α ⟨d⟩ (fun r => x = some r)) := by
  refine Classical.epsilon_spec_aux ⟨d⟩ (fun r => x = some r) ?_
  cases x with
  | none => cases h
  | some y => exact ⟨y, rfl⟩
theorem kincI {a : Int32} {m : Int} (h : a.toInt < m) (hm : m ≤ 2147483647) : (a + 1).toInt = a.toInt + 1 := by
  have h1 : ((1 : Int32)).toInt = 1 := by decide
  have h2 := Int32.le_toInt a
  rw [Jvm.Kit.i32_add (by rw [h1]; omega) (by rw [h1]; omega), h1]
theorem kinc {a b : Int32} {n : Nat} (c : ¬ a ≤ b) (h : (a.toInt - b.toInt).toNat < n + 1) : (a.toInt - (b + 1).toInt).toNat < n := by
  have h1 : b.toInt < a.toInt := by
    have := Int32.not_le.mp c
    exact Int32.lt_iff_toInt_lt.mp this
  have h2 := Int32.toInt_lt a
  rw [kincI h1 (by omega)]
  omega
theorem kdec {a : Int32} {n : Nat} (c : ¬ a ≤ 0) (h : a.toInt.toNat < n + 1) : (a + (-1)).toInt.toNat < n := by
  have h1 : 0 < a.toInt := by
    have := Int32.not_le.mp c
    simpa using Int32.lt_iff_toInt_lt.mp this
  have h2 := Int32.toInt_lt a
  have h3 : ((-1 : Int32)).toInt = -1 := by decide
  rw [Jvm.Kit.i32_add (by rw [h3]; omega) (by rw [h3]; omega), h3]
  omega
theorem kfuel (a b : Int32) (hb : b = 0) : (a.toInt - b.toInt).toNat < 2147483649 := by
  subst hb
  have h2 := Int32.toInt_lt a
  have h3 : ((0 : Int32)).toInt = 0 := by decide
  rw [h3]
  omega
theorem kfueld (a : Int32) : a.toInt.toNat < 2147483649 := by
  have h2 := Int32.toInt_lt a
  omega

theorem tX0_goAcross : ∀ (n : Nat) (n0 i0 : Int32) (b : Ba), (n0.toInt - i0.toInt).toNat < n → (LX0_goAcross n n0 i0 b).isSome = true := by
  intro n
  induction n with
  | zero => intro n0 i0 b h; exact absurd h (Nat.not_lt_zero _)
  | succ n ih =>
    intro n0 i0 b h
    unfold LX0_goAcross
    by_cases c : n0 ≤ i0
    · rw [if_pos c]; rfl
    · rw [if_neg c]
      have hs := kinc c h
      (repeat' split) <;> first | rfl | exact ih _ _ _ hs
theorem tX0_goAlong : ∀ (n : Nat) (n0 i0 : Int32) (b : Ba), (n0.toInt - i0.toInt).toNat < n → (LX0_goAlong n n0 i0 b).isSome = true := by
  intro n
  induction n with
  | zero => intro n0 i0 b h; exact absurd h (Nat.not_lt_zero _)
  | succ n ih =>
    intro n0 i0 b h
    unfold LX0_goAlong
    by_cases c : n0 ≤ i0
    · rw [if_pos c]; rfl
    · rw [if_neg c]
      have hs := kinc c h
      (repeat' split) <;> first | rfl | exact ih _ _ _ hs
noncomputable def fX0_goAcross (b : Ba) : Ba := @Classical.epsilon (Ba) ⟨b⟩ (fun r => FX0_goAcross b = some r)
theorem mX0_goAcross (l : Launch) (D : va_G) (cI cJ : ClassId) (h : Nat)  (b : Ba)  : kCv l D cI cJ yX0_goAcross (.code yX0_goAcross cX0_goAcross 4 none) { frames := 1, cells := 0, slots := 0, locals := 21 } [.ref h] [(h, cB b)] [(h, cB (fX0_goAcross b))] :=
  moX0_goAcross l D cI cJ h b _ (kSome (b) (tX0_goAcross _ _ _ _ (kfuel _ _ rfl)))

noncomputable def fX0_goAlong (b : Ba) : Ba := @Classical.epsilon (Ba) ⟨b⟩ (fun r => FX0_goAlong b = some r)
theorem mX0_goAlong (l : Launch) (D : va_G) (cI cJ : ClassId) (h : Nat)  (b : Ba)  : kCv l D cI cJ yX0_goAlong (.code yX0_goAlong cX0_goAlong 3 none) { frames := 2, cells := 0, slots := 0, locals := 42 } [.ref h] [(h, cB b)] [(h, cB (fX0_goAlong b))] :=
  moX0_goAlong l D cI cJ h b _ (kSome (b) (tX0_goAlong _ _ _ _ (kfuel _ _ rfl)))

theorem hdX0_passMoment : yX0_passMoment.cls ≠ "java/lang/invoke/MethodHandle" ∧ yX0_passMoment.cls ≠ "java/lang/invoke/VarHandle" ∧ (parseMethodDescriptor yX0_passMoment.desc).map (fun d => d.parameters.length) = some 0 := by decide +kernel
noncomputable def fX0_passMoment (b : Ba) : Ba :=
  if (fX0_goAlong (fX0_goAcross (b.1, b.2.1, b.2.2.1, b.2.2.2.1, b.2.2.2.2.1, b.2.2.2.2.2.1, b.2.2.2.2.2.2.1, b.2.2.2.2.2.2.2.1, b.2.2.2.2.2.2.2.2.1, (b.2.2.2.2.2.2.2.2.2.1 + 1), b.2.2.2.2.2.2.2.2.2.2))).2.2.2.2.2.2.2.2.2.2 = 0 then (fX0_goUpOrDown (fX0_goAlong (fX0_goAcross (b.1, b.2.1, b.2.2.1, b.2.2.2.1, b.2.2.2.2.1, b.2.2.2.2.2.1, b.2.2.2.2.2.2.1, b.2.2.2.2.2.2.2.1, b.2.2.2.2.2.2.2.2.1, (b.2.2.2.2.2.2.2.2.2.1 + 1), b.2.2.2.2.2.2.2.2.2.2))))
  else (fX0_goAlong (fX0_goAcross (b.1, b.2.1, b.2.2.1, b.2.2.2.1, b.2.2.2.2.1, b.2.2.2.2.2.1, b.2.2.2.2.2.2.1, b.2.2.2.2.2.2.2.1, b.2.2.2.2.2.2.2.2.1, (b.2.2.2.2.2.2.2.2.2.1 + 1), b.2.2.2.2.2.2.2.2.2.2)))
set_option maxHeartbeats 4000000 in
set_option maxRecDepth 100000 in
theorem mX0_passMoment (l : Launch) (D : va_G) (cI cJ : ClassId) (h : Nat) (b : Ba)  : kCv l D cI cJ yX0_passMoment (.code yX0_passMoment cX0_passMoment 1 none) { frames := 3, cells := 0, slots := 0, locals := 64 } [.ref h] [(h, cB b)] [(h, cB (fX0_passMoment b))] := by
  refine fun sz => k_of (lv := [(0, .ref h)]) (by decide) sz (by exact Nat.le_of_ble_eq_true rfl) rfl ?_
  intro p e s m args below meth c hsz C
  refine k_aload_n C dX0_passMoment_0 0 rfl ?_
  refine k_dup C rfl dX0_passMoment_1 ?_
  refine k_getX0 C 0 9 rfl (by decide) rfl q95 rfl dX0_passMoment_2 ?_
  refine k_iconst C 1 (by decide) dX0_passMoment_5 ?_
  refine k_iadd C dX0_passMoment_6 ?_
  refine k_putX0 C [(h, cB (b.1, b.2.1, b.2.2.1, b.2.2.2.1, b.2.2.2.2.1, b.2.2.2.2.2.1, b.2.2.2.2.2.2.1, b.2.2.2.2.2.2.2.1, b.2.2.2.2.2.2.2.2.1, (b.2.2.2.2.2.2.2.2.2.1 + 1), b.2.2.2.2.2.2.2.2.2.2))] 0 9 rfl rfl (by decide) q95 rfl rfl fdI rfl rfl (Nat.le_of_ble_eq_true rfl) dX0_passMoment_7 ?_
  refine k_aload_n C dX0_passMoment_10 0 rfl ?_
  refine k_callV_v C (mX0_goAcross l D cI cJ h (b.1, b.2.1, b.2.2.1, b.2.2.2.1, b.2.2.2.2.1, b.2.2.2.2.2.1, b.2.2.2.2.2.2.1, b.2.2.2.2.2.2.2.1, b.2.2.2.2.2.2.2.2.1, (b.2.2.2.2.2.2.2.2.2.1 + 1), b.2.2.2.2.2.2.2.2.2.2)) (cwV 0 C.2.2.2.2.1 (kGV q320 q322 q11 q37 q323) rfl rfl rfl ⟨rfl, hdX0_goAcross⟩ ⟨Nat.le_of_ble_eq_true rfl, Nat.le_of_ble_eq_true rfl⟩) [0] [] [0] [] ([(h, cB (fX0_goAcross (b.1, b.2.1, b.2.2.1, b.2.2.2.1, b.2.2.2.2.1, b.2.2.2.2.2.1, b.2.2.2.2.2.2.1, b.2.2.2.2.2.2.2.1, b.2.2.2.2.2.2.2.2.1, (b.2.2.2.2.2.2.2.2.2.1 + 1), b.2.2.2.2.2.2.2.2.2.2)))]) rfl rfl rfl rfl (by decide) [h] rfl rfl rfl rfl 0 0 rfl rfl rfl (Nat.le_of_ble_eq_true rfl) ⟨Nat.zero_le _, Nat.zero_le _⟩ rfl dX0_passMoment_11 ?_
  generalize ezz1 : fX0_goAcross (b.1, b.2.1, b.2.2.1, b.2.2.2.1, b.2.2.2.2.1, b.2.2.2.2.2.1, b.2.2.2.2.2.2.1, b.2.2.2.2.2.2.2.1, b.2.2.2.2.2.2.2.2.1, (b.2.2.2.2.2.2.2.2.2.1 + 1), b.2.2.2.2.2.2.2.2.2.2) = zz1
  refine k_aload_n C dX0_passMoment_14 0 rfl ?_
  refine k_callV_v C (mX0_goAlong l D cI cJ h zz1) (cwV 0 C.2.2.2.2.1 (kGV q333 q335 q12 q37 q336) rfl rfl rfl ⟨rfl, hdX0_goAlong⟩ ⟨Nat.le_of_ble_eq_true rfl, Nat.le_of_ble_eq_true rfl⟩) [0] [] [0] [] ([(h, cB (fX0_goAlong zz1))]) rfl rfl rfl rfl (by decide) [h] rfl rfl rfl rfl 0 0 rfl rfl rfl (Nat.le_of_ble_eq_true rfl) ⟨Nat.zero_le _, Nat.zero_le _⟩ rfl dX0_passMoment_15 ?_
  generalize ezz2 : fX0_goAlong zz1 = zz2
  refine k_aload_n C dX0_passMoment_18 0 rfl ?_
  refine k_getX0 C 0 10 rfl (by decide) rfl q97 rfl dX0_passMoment_19 ?_
  refine k_if_ne C 29 (by decide) dX0_passMoment_22 (fun c3 => ?_) (fun c3 => ?_)
  ·
    have hL : fX0_passMoment b = zz2 := by subst ezz2; subst ezz1; exact (if_neg c3).trans rfl
    exact k_vret C rfl (by rw [hL]) dX0_passMoment_29
  ·
    refine k_aload_n C dX0_passMoment_25 0 rfl ?_
    refine k_callV_v C (mX0_goUpOrDown l D cI cJ h zz2) (cwV 0 C.2.2.2.2.1 (kGV q345 q347 q15 q37 q348) rfl rfl rfl ⟨rfl, hdX0_goUpOrDown⟩ ⟨Nat.le_of_ble_eq_true rfl, Nat.le_of_ble_eq_true rfl⟩) [0] [] [0] [] ([(h, cB (fX0_goUpOrDown zz2))]) rfl rfl rfl rfl (by decide) [h] rfl rfl rfl rfl 0 0 rfl rfl rfl (Nat.le_of_ble_eq_true rfl) ⟨Nat.zero_le _, Nat.zero_le _⟩ rfl dX0_passMoment_26 ?_
    generalize ezz4 : fX0_goUpOrDown zz2 = zz4
    have hL : fX0_passMoment b = zz4 := by subst ezz4; subst ezz2; subst ezz1; exact (if_pos c3).trans rfl
    exact k_vret C rfl (by rw [hL]) dX0_passMoment_29

theorem hdX0_fly : yX0_fly.cls ≠ "java/lang/invoke/MethodHandle" ∧ yX0_fly.cls ≠ "java/lang/invoke/VarHandle" ∧ (parseMethodDescriptor yX0_fly.desc).map (fun d => d.parameters.length) = some 1 := by decide +kernel
noncomputable def LX0_fly (n : Nat) (p0 : Int32) (i0 : Int32) (b : Ba) : Option (Ba) := match n with
  | 0 => none
  | n + 1 =>
    if p0 ≤ i0 then some b
    else (if b.2.2.2.2.2.2.2.2.2.2 = 0 then LX0_fly n p0 (i0 + 1) (fX0_passMoment b)
      else some b)
set_option maxHeartbeats 4000000 in
set_option maxRecDepth 100000 in
theorem lX0_fly {p : Program} {e : Env} {s : State} {m : MethodId} {args : Array Value} {below : List Frame} {meth : Method} {c : Code} {A : Nat → Prop} (l : Launch) {D : va_G} {cI cJ : ClassId} (h : Nat) (p0 : Int32) (C : kCx p s m args meth c RX0 cX0_fly 3 none D cI cJ A) : ∀ (n : Nat), ∀ (i0 : Int32) (b : Ba) (res : Ba), LX0_fly n p0 i0 b = some res → kW p l e { frames := 4, cells := 0, slots := 0, locals := 84 } s m args below meth c D A 3 0 0 (MQ below (va_Qv (fun _ : Unit => True) (fun _ t => va_P D kCl [(h, cB res)] t.heap) A) args s 0 0 A) [(h, cB b)] 2 [(0, .ref h), (1, .int p0), (2, .int i0)] [] := by
  intro n
  induction n with
  | zero => intro i0 b res hr; exact absurd hr (fun h => nomatch h)
  | succ n ih =>
    intro i0 b res hr
    refine k_iload_n C dX0_fly_2 2 rfl ?_
    refine k_iload_n C dX0_fly_3 1 rfl ?_
    refine k_icmp_ge C 24 (by decide) dX0_fly_4 (fun c1 => ?_) (fun c1 => ?_)
    ·
      have hL : LX0_fly (n + 1) p0 i0 b = some b := by exact (if_pos c1).trans rfl
      obtain rfl := Option.some.inj (hL.symm.trans hr)
      exact k_vret C rfl rfl dX0_fly_24
    ·
      refine k_aload_n C dX0_fly_7 0 rfl ?_
      refine k_getX0 C 0 10 rfl (by decide) rfl q97 rfl dX0_fly_8 ?_
      refine k_if_ne C 24 (by decide) dX0_fly_11 (fun c2 => ?_) (fun c2 => ?_)
      ·
        have hL : LX0_fly (n + 1) p0 i0 b = some b := by exact (if_neg c1).trans ((if_neg c2).trans rfl)
        obtain rfl := Option.some.inj (hL.symm.trans hr)
        exact k_vret C rfl rfl dX0_fly_24
      ·
        refine k_aload_n C dX0_fly_14 0 rfl ?_
        refine k_callV_v C (mX0_passMoment l D cI cJ h b) (cwV 0 C.2.2.2.2.1 (kGV q316 q318 q10 q37 q319) rfl rfl rfl ⟨rfl, hdX0_passMoment⟩ ⟨Nat.le_of_ble_eq_true rfl, Nat.le_of_ble_eq_true rfl⟩) [0] [] [0] [] ([(h, cB (fX0_passMoment b))]) rfl rfl rfl rfl (by decide) [h] rfl rfl rfl rfl 0 0 rfl rfl rfl (Nat.le_of_ble_eq_true rfl) ⟨Nat.zero_le _, Nat.zero_le _⟩ rfl dX0_fly_15 ?_
        generalize ezz3 : fX0_passMoment b = zz3
        refine k_iinc C (i0 + 1) [(2, .int (i0 + 1)), (0, .ref h), (1, .int p0)] 2 rfl rfl (by decide) rfl dX0_fly_18 ?_
        refine k_goto C 2 (by decide) dX0_fly_21 ?_
        have hL : LX0_fly (n + 1) p0 i0 b = LX0_fly n p0 (i0 + 1) zz3 := by subst ezz3; exact (if_neg c1).trans ((if_pos c2).trans rfl)
        refine k_sub [1, 2, 0] rfl ?_
        exact ih (i0 + 1) zz3 res (hL.symm.trans hr)
noncomputable def FX0_fly (p0 : Int32) (b : Ba) : Option (Ba) :=
  LX0_fly 2147483649 p0 0 b
set_option maxHeartbeats 4000000 in
set_option maxRecDepth 100000 in
theorem moX0_fly (l : Launch) (D : va_G) (cI cJ : ClassId) (h : Nat) (p0 : Int32) (b : Ba) (res : Ba) (hr : FX0_fly p0 b = some res) : kCv l D cI cJ yX0_fly (.code yX0_fly cX0_fly 3 none) { frames := 4, cells := 0, slots := 0, locals := 84 } [.ref h, .int p0] [(h, cB b)] [(h, cB res)] := by
  refine fun sz => k_of (lv := [(0, .ref h), (1, .int p0)]) (by decide) sz (Nat.le_of_ble_eq_true rfl) rfl ?_
  intro p e s m args below meth c hsz C
  refine k_iconst C 0 (by decide) dX0_fly_0 ?_
  refine k_istore_n C [(2, .int 0), (0, .ref h), (1, .int p0)] (by decide) rfl dX0_fly_1 ?_
  have hL : FX0_fly p0 b = LX0_fly 2147483649 p0 0 b := by exact rfl
  refine k_sub [1, 2, 0] rfl ?_
  exact (lX0_fly l h p0 C 2147483649) 0 b res (hL.symm.trans hr)

theorem tX0_fly : ∀ (n : Nat) (p0 i0 : Int32) (b : Ba), (p0.toInt - i0.toInt).toNat < n → (LX0_fly n p0 i0 b).isSome = true := by
  intro n
  induction n with
  | zero => intro n0 i0 b h; exact absurd h (Nat.not_lt_zero _)
  | succ n ih =>
    intro n0 i0 b h
    unfold LX0_fly
    by_cases c : n0 ≤ i0
    · rw [if_pos c]; rfl
    · rw [if_neg c]
      have hs := kinc c h
      (repeat' split) <;> first | rfl | exact ih _ _ _ hs
noncomputable def fX0_fly (p0 : Int32) (b : Ba) : Ba := @Classical.epsilon (Ba) ⟨b⟩ (fun r => FX0_fly p0 b = some r)
theorem mX0_fly (l : Launch) (D : va_G) (cI cJ : ClassId) (h : Nat) (p0 : Int32) (b : Ba)  : kCv l D cI cJ yX0_fly (.code yX0_fly cX0_fly 3 none) { frames := 4, cells := 0, slots := 0, locals := 84 } [.ref h, .int p0] [(h, cB b)] [(h, cB (fX0_fly p0 b))] :=
  moX0_fly l D cI cJ h p0 b _ (kSome (b) (tX0_fly _ _ _ _ (kfuel _ _ rfl)))
