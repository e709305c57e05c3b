/-! the reference: its ball -/
theorem hdX3_thrown : yX3_thrown.cls ≠ "java/lang/invoke/MethodHandle" ∧ yX3_thrown.cls ≠ "java/lang/invoke/VarHandle" ∧ (parseMethodDescriptor yX3_thrown.desc).map (fun d => d.parameters.length) = some 0 := by decide +kernel
noncomputable def fX3_thrown (X : Mo) : Int32 :=
  X.2.2.2.2.2.2.1
set_option maxHeartbeats 4000000 in
set_option maxRecDepth 100000 in
theorem mX3_thrown (l : Launch) (D : va_G) (cI cJ : ClassId) (b0 b1 b2 b3 b4 b5 b6 : Nat) (X : Mo)  : kCi l D cI cJ yX3_thrown (.code yX3_thrown cX3_thrown 1 (some .int)) { frames := 0, cells := 0, slots := 0, locals := 0 } [.ref b0] (wM cI b0 b1 b2 b3 b4 b5 b6 X) (fX3_thrown X) (wM cI b0 b1 b2 b3 b4 b5 b6 X) := by
  refine fun sz => k_of (lv := [(0, .ref b0)]) (by decide) sz (by exact Nat.le_of_ble_eq_true rfl) rfl ?_
  intro p e s m args below meth c hsz C
  refine k_aload_n C dX3_thrown_0 0 rfl ?_
  refine k_getX3 C 0 0 rfl (by decide) rfl q570 rfl dX3_thrown_1 ?_
  have hL : fX3_thrown X = X.2.2.2.2.2.2.1 := by exact rfl
  exact k_iret C rfl (hL.symm) rfl dX3_thrown_4

theorem hdX3_no : yX3_no.cls ≠ "java/lang/invoke/MethodHandle" ∧ yX3_no.cls ≠ "java/lang/invoke/VarHandle" ∧ (parseMethodDescriptor yX3_no.desc).map (fun d => d.parameters.length) = some 1 := by decide +kernel
noncomputable def fX3_no (p0 : Int32) (X : Mo) : Int32 × Mo :=
  (0, (X.1, X.2.1, X.2.2.1, X.2.2.2.1, X.2.2.2.2.1, X.2.2.2.2.2.1, p0, X.2.2.2.2.2.2.2))
set_option maxHeartbeats 4000000 in
set_option maxRecDepth 100000 in
theorem mX3_no (l : Launch) (D : va_G) (cI cJ : ClassId) (b0 b1 b2 b3 b4 b5 b6 : Nat) (p0 : Int32) (X : Mo)  : kCi l D cI cJ yX3_no (.code yX3_no cX3_no 2 (some .int)) { frames := 0, cells := 0, slots := 0, locals := 0 } [.ref b0, .int p0] (wM cI b0 b1 b2 b3 b4 b5 b6 X) (fX3_no p0 X).1 (wM cI b0 b1 b2 b3 b4 b5 b6 (fX3_no p0 X).2) := by
  refine fun sz => k_of (lv := [(0, .ref b0), (1, .int p0)]) (by decide) sz (by exact Nat.le_of_ble_eq_true rfl) rfl ?_
  intro p e s m args below meth c hsz C
  refine k_aload_n C dX3_no_0 0 rfl ?_
  refine k_iload_n C dX3_no_1 1 rfl ?_
  refine k_putX3 C [(b0, cM b1 b2 b3 b4 b5 b6 (p0, X.2.2.2.2.2.2.2)), (b1, cA9 cI X.1), (b2, cA2 cI X.2.1), (b3, cA2 cI X.2.2.1), (b4, cA2 cI X.2.2.2.1), (b5, cA2 cI X.2.2.2.2.1), (b6, cA9 cI X.2.2.2.2.2.1)] 0 0 rfl rfl (by decide) q570 rfl rfl fdI rfl rfl (Nat.le_of_ble_eq_true rfl) dX3_no_2 ?_
  refine k_iconst C 0 (by decide) dX3_no_5 ?_
  have hL : fX3_no p0 X = (0, (X.1, X.2.1, X.2.2.1, X.2.2.2.1, X.2.2.2.2.1, X.2.2.2.2.2.1, p0, X.2.2.2.2.2.2.2)) := by exact rfl
  exact k_iret C rfl (by rw [hL]) (by rw [hL]) dX3_no_6

theorem hdX3_isIn : yX3_isIn.cls ≠ "java/lang/invoke/MethodHandle" ∧ yX3_isIn.cls ≠ "java/lang/invoke/VarHandle" ∧ (parseMethodDescriptor yX3_isIn.desc).map (fun d => d.parameters.length) = some 3 := by decide +kernel
noncomputable def fX3_isIn (p0 : Int32) (p1 : Int32) (p2 : Int32) : Int32 :=
  if p0 < p1 then 0
  else (if p2 < p0 then 0
    else 1)
set_option maxHeartbeats 4000000 in
set_option maxRecDepth 100000 in
theorem mX3_isIn (l : Launch) (D : va_G) (cI cJ : ClassId) (p0 : Int32) (p1 : Int32) (p2 : Int32)  : kCi l D cI cJ yX3_isIn (.code yX3_isIn cX3_isIn 3 (some .boolean)) { frames := 0, cells := 0, slots := 0, locals := 0 } [.int p0, .int p1, .int p2] [] (fX3_isIn p0 p1 p2) [] := by
  refine fun sz => k_of (lv := [(0, .int p0), (1, .int p1), (2, .int p2)]) (by decide) sz (by exact Nat.le_of_ble_eq_true rfl) rfl ?_
  intro p e s m args below meth c hsz C
  refine k_iload_n C dX3_isIn_0 0 rfl ?_
  refine k_iload_n C dX3_isIn_1 1 rfl ?_
  refine k_icmp_lt C 14 (by decide) dX3_isIn_2 (fun c1 => ?_) (fun c1 => ?_)
  ·
    refine k_iconst C 0 (by decide) dX3_isIn_14 ?_
    have hL : fX3_isIn p0 p1 p2 = 0 := by exact (if_pos c1).trans rfl
    exact k_zret C rfl rfl (hL.symm) rfl dX3_isIn_15
  ·
    refine k_iload_n C dX3_isIn_5 0 rfl ?_
    refine k_iload_n C dX3_isIn_6 2 rfl ?_
    refine k_icmp_gt C 14 (by decide) dX3_isIn_7 (fun c2 => ?_) (fun c2 => ?_)
    ·
      refine k_iconst C 0 (by decide) dX3_isIn_14 ?_
      have hL : fX3_isIn p0 p1 p2 = 0 := by exact (if_neg c1).trans ((if_pos c2).trans rfl)
      exact k_zret C rfl rfl (hL.symm) rfl dX3_isIn_15
    ·
      refine k_iconst C 1 (by decide) dX3_isIn_10 ?_
      refine k_goto C 15 (by decide) dX3_isIn_11 ?_
      have hL : fX3_isIn p0 p1 p2 = 1 := by exact (if_neg c1).trans ((if_neg c2).trans rfl)
      exact k_zret C rfl rfl (hL.symm) rfl dX3_isIn_15

theorem hdX3_isStroke : yX3_isStroke.cls ≠ "java/lang/invoke/MethodHandle" ∧ yX3_isStroke.cls ≠ "java/lang/invoke/VarHandle" ∧ (parseMethodDescriptor yX3_isStroke.desc).map (fun d => d.parameters.length) = some 3 := by decide +kernel
noncomputable def fX3_isStroke (p0 : Int32) (p1 : Int32) (p2 : Int32) : Int32 :=
  if (fX3_isIn p0 (-2) 2) = 0 then 0
  else (if (fX3_isIn p1 (-2) 2) = 0 then 0
    else (if (fX3_isIn p2 0 9) = 0 then 0
      else 1))
set_option maxHeartbeats 4000000 in
set_option maxRecDepth 100000 in
theorem mX3_isStroke (l : Launch) (D : va_G) (cI cJ : ClassId) (p0 : Int32) (p1 : Int32) (p2 : Int32)  : kCi l D cI cJ yX3_isStroke (.code yX3_isStroke cX3_isStroke 3 (some .boolean)) { frames := 1, cells := 0, slots := 0, locals := 22 } [.int p0, .int p1, .int p2] [] (fX3_isStroke p0 p1 p2) [] := by
  refine fun sz => k_of (lv := [(0, .int p0), (1, .int p1), (2, .int p2)]) (by decide) sz (by exact Nat.le_of_ble_eq_true rfl) rfl ?_
  intro p e s m args below meth c hsz C
  refine k_iload_n C dX3_isStroke_0 0 rfl ?_
  refine k_bipush C (-2) (by decide) dX3_isStroke_1 ?_
  refine k_iconst C 2 (by decide) dX3_isStroke_3 ?_
  refine k_callS_i C (mX3_isIn l D cI cJ p0 (-2) 2) (va_cwS 3 C.2.2.2.2.1 (kGS q637 q638 q61 q639) rfl rfl rfl hdX3_isIn ⟨Nat.le_of_ble_eq_true rfl, Nat.le_of_ble_eq_true rfl⟩) [] [] [] [] ([]) rfl rfl rfl rfl (by decide) [] rfl rfl rfl rfl (Nat.le_of_ble_eq_true rfl) ⟨Nat.zero_le _, Nat.zero_le _⟩ rfl dX3_isStroke_4 ?_
  generalize er1 : fX3_isIn p0 (-2) 2 = r1
  refine k_if_eq C 34 (by decide) dX3_isStroke_7 (fun c2 => ?_) (fun c2 => ?_)
  ·
    refine k_iconst C 0 (by decide) dX3_isStroke_34 ?_
    have hL : fX3_isStroke p0 p1 p2 = 0 := by subst er1; exact (if_pos c2).trans rfl
    exact k_zret C rfl rfl (hL.symm) rfl dX3_isStroke_35
  ·
    refine k_iload_n C dX3_isStroke_10 1 rfl ?_
    refine k_bipush C (-2) (by decide) dX3_isStroke_11 ?_
    refine k_iconst C 2 (by decide) dX3_isStroke_13 ?_
    refine k_callS_i C (mX3_isIn l D cI cJ p1 (-2) 2) (va_cwS 3 C.2.2.2.2.1 (kGS q637 q638 q61 q639) rfl rfl rfl hdX3_isIn ⟨Nat.le_of_ble_eq_true rfl, Nat.le_of_ble_eq_true rfl⟩) [] [] [] [] ([]) rfl rfl rfl rfl (by decide) [] rfl rfl rfl rfl (Nat.le_of_ble_eq_true rfl) ⟨Nat.zero_le _, Nat.zero_le _⟩ rfl dX3_isStroke_14 ?_
    generalize er3 : fX3_isIn p1 (-2) 2 = r3
    refine k_if_eq C 34 (by decide) dX3_isStroke_17 (fun c4 => ?_) (fun c4 => ?_)
    ·
      refine k_iconst C 0 (by decide) dX3_isStroke_34 ?_
      have hL : fX3_isStroke p0 p1 p2 = 0 := by subst er3; subst er1; exact (if_neg c2).trans ((if_pos c4).trans rfl)
      exact k_zret C rfl rfl (hL.symm) rfl dX3_isStroke_35
    ·
      refine k_iload_n C dX3_isStroke_20 2 rfl ?_
      refine k_iconst C 0 (by decide) dX3_isStroke_21 ?_
      refine k_bipush C 9 (by decide) dX3_isStroke_22 ?_
      refine k_callS_i C (mX3_isIn l D cI cJ p2 0 9) (va_cwS 3 C.2.2.2.2.1 (kGS q637 q638 q61 q639) rfl rfl rfl hdX3_isIn ⟨Nat.le_of_ble_eq_true rfl, Nat.le_of_ble_eq_true rfl⟩) [] [] [] [] ([]) rfl rfl rfl rfl (by decide) [] rfl rfl rfl rfl (Nat.le_of_ble_eq_true rfl) ⟨Nat.zero_le _, Nat.zero_le _⟩ rfl dX3_isStroke_24 ?_
      generalize er5 : fX3_isIn p2 0 9 = r5
      refine k_if_eq C 34 (by decide) dX3_isStroke_27 (fun c6 => ?_) (fun c6 => ?_)
      ·
        refine k_iconst C 0 (by decide) dX3_isStroke_34 ?_
        have hL : fX3_isStroke p0 p1 p2 = 0 := by subst er5; subst er3; subst er1; exact (if_neg c2).trans ((if_neg c4).trans ((if_pos c6).trans rfl))
        exact k_zret C rfl rfl (hL.symm) rfl dX3_isStroke_35
      ·
        refine k_iconst C 1 (by decide) dX3_isStroke_30 ?_
        refine k_goto C 35 (by decide) dX3_isStroke_31 ?_
        have hL : fX3_isStroke p0 p1 p2 = 1 := by subst er5; subst er3; subst er1; exact (if_neg c2).trans ((if_neg c4).trans ((if_neg c6).trans rfl))
        exact k_zret C rfl rfl (hL.symm) rfl dX3_isStroke_35

theorem hdX3_isButtress : yX3_isButtress.cls ≠ "java/lang/invoke/MethodHandle" ∧ yX3_isButtress.cls ≠ "java/lang/invoke/VarHandle" ∧ (parseMethodDescriptor yX3_isButtress.desc).map (fun d => d.parameters.length) = some 2 := by decide +kernel
noncomputable def fX3_isButtress (p0 : Int32) (p1 : Int32) : Int32 :=
  if 2 ≤ p0 then 0
  else (if (fX3_isIn p1 10 12) = 0 then 0
    else 1)
set_option maxHeartbeats 4000000 in
set_option maxRecDepth 100000 in
theorem mX3_isButtress (l : Launch) (D : va_G) (cI cJ : ClassId) (p0 : Int32) (p1 : Int32)  : kCi l D cI cJ yX3_isButtress (.code yX3_isButtress cX3_isButtress 2 (some .boolean)) { frames := 1, cells := 0, slots := 0, locals := 22 } [.int p0, .int p1] [] (fX3_isButtress p0 p1) [] := by
  refine fun sz => k_of (lv := [(0, .int p0), (1, .int p1)]) (by decide) sz (by exact Nat.le_of_ble_eq_true rfl) rfl ?_
  intro p e s m args below meth c hsz C
  refine k_iload_n C dX3_isButtress_0 0 rfl ?_
  refine k_iconst C 2 (by decide) dX3_isButtress_1 ?_
  refine k_icmp_ge C 20 (by decide) dX3_isButtress_2 (fun c1 => ?_) (fun c1 => ?_)
  ·
    refine k_iconst C 0 (by decide) dX3_isButtress_20 ?_
    have hL : fX3_isButtress p0 p1 = 0 := by exact (if_pos c1).trans rfl
    exact k_zret C rfl rfl (hL.symm) rfl dX3_isButtress_21
  ·
    refine k_iload_n C dX3_isButtress_5 1 rfl ?_
    refine k_bipush C 10 (by decide) dX3_isButtress_6 ?_
    refine k_bipush C 12 (by decide) dX3_isButtress_8 ?_
    refine k_callS_i C (mX3_isIn l D cI cJ p1 10 12) (va_cwS 3 C.2.2.2.2.1 (kGS q637 q638 q61 q639) rfl rfl rfl hdX3_isIn ⟨Nat.le_of_ble_eq_true rfl, Nat.le_of_ble_eq_true rfl⟩) [] [] [] [] ([]) rfl rfl rfl rfl (by decide) [] rfl rfl rfl rfl (Nat.le_of_ble_eq_true rfl) ⟨Nat.zero_le _, Nat.zero_le _⟩ rfl dX3_isButtress_10 ?_
    generalize er2 : fX3_isIn p1 10 12 = r2
    refine k_if_eq C 20 (by decide) dX3_isButtress_13 (fun c3 => ?_) (fun c3 => ?_)
    ·
      refine k_iconst C 0 (by decide) dX3_isButtress_20 ?_
      have hL : fX3_isButtress p0 p1 = 0 := by subst er2; exact (if_neg c1).trans ((if_pos c3).trans rfl)
      exact k_zret C rfl rfl (hL.symm) rfl dX3_isButtress_21
    ·
      refine k_iconst C 1 (by decide) dX3_isButtress_16 ?_
      refine k_goto C 21 (by decide) dX3_isButtress_17 ?_
      have hL : fX3_isButtress p0 p1 = 1 := by subst er2; exact (if_neg c1).trans ((if_neg c3).trans rfl)
      exact k_zret C rfl rfl (hL.symm) rfl dX3_isButtress_21

theorem hdX3_sign : yX3_sign.cls ≠ "java/lang/invoke/MethodHandle" ∧ yX3_sign.cls ≠ "java/lang/invoke/VarHandle" ∧ (parseMethodDescriptor yX3_sign.desc).map (fun d => d.parameters.length) = some 1 := by decide +kernel
noncomputable def fX3_sign (p0 : Int32) : Int32 :=
  if 0 ≤ p0 then 1
  else (-1)
set_option maxHeartbeats 4000000 in
set_option maxRecDepth 100000 in
theorem mX3_sign (l : Launch) (D : va_G) (cI cJ : ClassId) (p0 : Int32)  : kCi l D cI cJ yX3_sign (.code yX3_sign cX3_sign 1 (some .int)) { frames := 0, cells := 0, slots := 0, locals := 0 } [.int p0] [] (fX3_sign p0) [] := by
  refine fun sz => k_of (lv := [(0, .int p0)]) (by decide) sz (by exact Nat.le_of_ble_eq_true rfl) rfl ?_
  intro p e s m args below meth c hsz C
  refine k_iload_n C dX3_sign_0 0 rfl ?_
  refine k_if_ge C 8 (by decide) dX3_sign_1 (fun c1 => ?_) (fun c1 => ?_)
  ·
    refine k_iconst C 1 (by decide) dX3_sign_8 ?_
    have hL : fX3_sign p0 = 1 := by exact (if_pos c1).trans rfl
    exact k_iret C rfl (hL.symm) rfl dX3_sign_9
  ·
    refine k_iconst C (-1) (by decide) dX3_sign_4 ?_
    refine k_goto C 9 (by decide) dX3_sign_5 ?_
    have hL : fX3_sign p0 = (-1) := by exact (if_neg c1).trans rfl
    exact k_iret C rfl (hL.symm) rfl dX3_sign_9

theorem hdX3_goAcross : yX3_goAcross.cls ≠ "java/lang/invoke/MethodHandle" ∧ yX3_goAcross.cls ≠ "java/lang/invoke/VarHandle" ∧ (parseMethodDescriptor yX3_goAcross.desc).map (fun d => d.parameters.length) = some 0 := by decide +kernel
noncomputable def LX3_goAcross (n : Nat) (i0 : Int32) (X : Mo) : Option (Mo) := match n with
  | 0 => none
  | n + 1 =>
    if i0 ≤ 0 then some X
    else (if (fX3_isIn (X.2.2.2.2.2.1.1 + (fX3_sign X.2.2.2.2.2.1.2.2.2.1)) 0 11) = 0 then LX3_goAcross n (i0 + (-1)) (X.1, X.2.1, X.2.2.1, X.2.2.2.1, X.2.2.2.2.1, (X.2.2.2.2.2.1.1, X.2.2.2.2.2.1.2.1, X.2.2.2.2.2.1.2.2.1, (-X.2.2.2.2.2.1.2.2.2.1), X.2.2.2.2.2.1.2.2.2.2.1, X.2.2.2.2.2.1.2.2.2.2.2.1, X.2.2.2.2.2.1.2.2.2.2.2.2.1, X.2.2.2.2.2.1.2.2.2.2.2.2.2.1, (X.2.2.2.2.2.1.2.2.2.2.2.2.2.2 + 1)), X.2.2.2.2.2.2)
      else (if (fX3_isButtress (X.2.2.2.2.2.1.1 + (fX3_sign X.2.2.2.2.2.1.2.2.2.1)) X.2.2.2.2.2.1.2.1) = 0 then LX3_goAcross n (i0 + (-1)) (X.1, X.2.1, X.2.2.1, X.2.2.2.1, X.2.2.2.2.1, ((X.2.2.2.2.2.1.1 + (fX3_sign X.2.2.2.2.2.1.2.2.2.1)), X.2.2.2.2.2.1.2), X.2.2.2.2.2.2)
        else LX3_goAcross n (i0 + (-1)) (X.1, X.2.1, X.2.2.1, X.2.2.2.1, X.2.2.2.2.1, (X.2.2.2.2.2.1.1, X.2.2.2.2.2.1.2.1, X.2.2.2.2.2.1.2.2.1, (-X.2.2.2.2.2.1.2.2.2.1), X.2.2.2.2.2.1.2.2.2.2.1, X.2.2.2.2.2.1.2.2.2.2.2.1, X.2.2.2.2.2.1.2.2.2.2.2.2.1, X.2.2.2.2.2.1.2.2.2.2.2.2.2.1, (X.2.2.2.2.2.1.2.2.2.2.2.2.2.2 + 1)), X.2.2.2.2.2.2)))
set_option maxHeartbeats 4000000 in
set_option maxRecDepth 100000 in
theorem lX3_goAcross {p : Program} {e : Env} {s : State} {m : MethodId} {args : Array Value} {below : List Frame} {meth : Method} {c : Code} {A : Nat → Prop} (l : Launch) {D : va_G} {cI cJ : ClassId} (b0 b1 b2 b3 b4 b5 b6 : Nat)  (C : kCx p s m args meth c RX3 cX3_goAcross 3 none D cI cJ A) : ∀ (n : Nat), ∀ (i0 : Int32) (X : Mo) (res : Mo), LX3_goAcross n i0 X = some res → kW p l e { frames := 2, cells := 0, slots := 0, locals := 43 } s m args below meth c D A 3 0 0 (MQ below (va_Qv (fun _ : Unit => True) (fun _ t => va_P D kCl (wM cI b0 b1 b2 b3 b4 b5 b6 res) t.heap) A) args s 0 0 A) (wM cI b0 b1 b2 b3 b4 b5 b6 X) 10 [(0, .ref b0), (1, .int i0)] [] := by
  intro n
  induction n with
  | zero => intro i0 X res hr; exact absurd hr (fun h => nomatch h)
  | succ n ih =>
    intro i0 X res hr
    refine k_iload_n C dX3_goAcross_10 1 rfl ?_
    refine k_if_le C 94 (by decide) dX3_goAcross_11 (fun c1 => ?_) (fun c1 => ?_)
    ·
      have hL : LX3_goAcross (n + 1) i0 X = some X := by exact (if_pos c1).trans rfl
      obtain rfl := Option.some.inj (hL.symm.trans hr)
      exact k_vret C rfl rfl dX3_goAcross_94
    ·
      refine k_aload_n C dX3_goAcross_14 0 rfl ?_
      refine k_getX3 C 0 16 rfl (by decide) rfl q586 rfl dX3_goAcross_15 ?_
      refine k_iconst C 0 (by decide) dX3_goAcross_18 ?_
      refine k_iald C 6 rfl vi9_0 (ar9_l0 _) dX3_goAcross_19 ?_
      refine k_aload_n C dX3_goAcross_20 0 rfl ?_
      refine k_getX3 C 0 16 rfl (by decide) rfl q586 rfl dX3_goAcross_21 ?_
      refine k_iconst C 3 (by decide) dX3_goAcross_24 ?_
      refine k_iald C 6 rfl vi9_3 (ar9_l3 _) dX3_goAcross_25 ?_
      refine k_callS_i C (mX3_sign l D cI cJ X.2.2.2.2.2.1.2.2.2.1) (va_cwS 1 C.2.2.2.2.1 (kGS q685 q686 q61 q687) rfl rfl rfl hdX3_sign ⟨Nat.le_of_ble_eq_true rfl, Nat.le_of_ble_eq_true rfl⟩) [] [0, 1, 2, 3, 4, 5, 6] [0, 1, 2, 3, 4, 5, 6] [(b0, cM b1 b2 b3 b4 b5 b6 X.2.2.2.2.2.2), (b1, cA9 cI X.1), (b2, cA2 cI X.2.1), (b3, cA2 cI X.2.2.1), (b4, cA2 cI X.2.2.2.1), (b5, cA2 cI X.2.2.2.2.1), (b6, cA9 cI X.2.2.2.2.2.1)] ([(b0, cM b1 b2 b3 b4 b5 b6 X.2.2.2.2.2.2), (b1, cA9 cI X.1), (b2, cA2 cI X.2.1), (b3, cA2 cI X.2.2.1), (b4, cA2 cI X.2.2.2.1), (b5, cA2 cI X.2.2.2.2.1), (b6, cA9 cI X.2.2.2.2.2.1)]) rfl rfl rfl rfl (by decide) [] rfl rfl rfl rfl (Nat.le_of_ble_eq_true rfl) ⟨Nat.zero_le _, Nat.zero_le _⟩ rfl dX3_goAcross_26 ?_
      generalize er2 : fX3_sign X.2.2.2.2.2.1.2.2.2.1 = r2
      refine k_iadd C dX3_goAcross_29 ?_
      refine k_istore_n C [(2, .int (X.2.2.2.2.2.1.1 + r2)), (0, .ref b0), (1, .int i0)] (by decide) rfl dX3_goAcross_30 ?_
      refine k_iload_n C dX3_goAcross_31 0 rfl ?_
      refine k_iconst C 0 (by decide) dX3_goAcross_32 ?_
      refine k_bipush C 11 (by decide) dX3_goAcross_33 ?_
      refine k_callS_i C (mX3_isIn l D cI cJ (X.2.2.2.2.2.1.1 + r2) 0 11) (va_cwS 3 C.2.2.2.2.1 (kGS q637 q638 q61 q639) rfl rfl rfl hdX3_isIn ⟨Nat.le_of_ble_eq_true rfl, Nat.le_of_ble_eq_true rfl⟩) [] [0, 1, 2, 3, 4, 5, 6] [0, 1, 2, 3, 4, 5, 6] [(b0, cM b1 b2 b3 b4 b5 b6 X.2.2.2.2.2.2), (b1, cA9 cI X.1), (b2, cA2 cI X.2.1), (b3, cA2 cI X.2.2.1), (b4, cA2 cI X.2.2.2.1), (b5, cA2 cI X.2.2.2.2.1), (b6, cA9 cI X.2.2.2.2.2.1)] ([(b0, cM b1 b2 b3 b4 b5 b6 X.2.2.2.2.2.2), (b1, cA9 cI X.1), (b2, cA2 cI X.2.1), (b3, cA2 cI X.2.2.1), (b4, cA2 cI X.2.2.2.1), (b5, cA2 cI X.2.2.2.2.1), (b6, cA9 cI X.2.2.2.2.2.1)]) rfl rfl rfl rfl (by decide) [] rfl rfl rfl rfl (Nat.le_of_ble_eq_true rfl) ⟨Nat.zero_le _, Nat.zero_le _⟩ rfl dX3_goAcross_35 ?_
      generalize er3 : fX3_isIn (X.2.2.2.2.2.1.1 + r2) 0 11 = r3
      refine k_if_eq C 64 (by decide) dX3_goAcross_38 (fun c4 => ?_) (fun c4 => ?_)
      ·
        refine k_aload_n C dX3_goAcross_64 1 rfl ?_
        refine k_getX3 C 0 16 rfl (by decide) rfl q586 rfl dX3_goAcross_65 ?_
        refine k_iconst C 3 (by decide) dX3_goAcross_68 ?_
        refine k_aload_n C dX3_goAcross_69 1 rfl ?_
        refine k_getX3 C 0 16 rfl (by decide) rfl q586 rfl dX3_goAcross_70 ?_
        refine k_iconst C 3 (by decide) dX3_goAcross_73 ?_
        refine k_iald C 6 rfl vi9_3 (ar9_l3 _) dX3_goAcross_74 ?_
        refine k_ineg C dX3_goAcross_75 ?_
        refine k_iast C [(b0, cM b1 b2 b3 b4 b5 b6 X.2.2.2.2.2.2), (b1, cA9 cI X.1), (b2, cA2 cI X.2.1), (b3, cA2 cI X.2.2.1), (b4, cA2 cI X.2.2.2.1), (b5, cA2 cI X.2.2.2.2.1), (b6, cA9 cI (X.2.2.2.2.2.1.1, X.2.2.2.2.2.1.2.1, X.2.2.2.2.2.1.2.2.1, (-X.2.2.2.2.2.1.2.2.2.1), X.2.2.2.2.2.1.2.2.2.2))] 6 rfl vi9_3 (ar9 (X.2.2.2.2.2.1.1, X.2.2.2.2.2.1.2.1, X.2.2.2.2.2.1.2.2.1, (-X.2.2.2.2.2.1.2.2.2.1), X.2.2.2.2.2.1.2.2.2.2)) (ar9_s3 _ _) rfl dX3_goAcross_76 ?_
        refine k_aload_n C dX3_goAcross_77 1 rfl ?_
        refine k_getX3 C 0 16 rfl (by decide) rfl q586 rfl dX3_goAcross_78 ?_
        refine k_bipush C 8 (by decide) dX3_goAcross_81 ?_
        refine k_dup2 C rfl rfl dX3_goAcross_83 ?_
        refine k_iald C 6 rfl vi9_8 (ar9_l8 _) dX3_goAcross_84 ?_
        refine k_iconst C 1 (by decide) dX3_goAcross_85 ?_
        refine k_iadd C dX3_goAcross_86 ?_
        refine k_iast C [(b0, cM b1 b2 b3 b4 b5 b6 X.2.2.2.2.2.2), (b1, cA9 cI X.1), (b2, cA2 cI X.2.1), (b3, cA2 cI X.2.2.1), (b4, cA2 cI X.2.2.2.1), (b5, cA2 cI X.2.2.2.2.1), (b6, cA9 cI (X.2.2.2.2.2.1.1, X.2.2.2.2.2.1.2.1, X.2.2.2.2.2.1.2.2.1, (-X.2.2.2.2.2.1.2.2.2.1), X.2.2.2.2.2.1.2.2.2.2.1, X.2.2.2.2.2.1.2.2.2.2.2.1, X.2.2.2.2.2.1.2.2.2.2.2.2.1, X.2.2.2.2.2.1.2.2.2.2.2.2.2.1, (X.2.2.2.2.2.1.2.2.2.2.2.2.2.2 + 1)))] 6 rfl vi9_8 (ar9 (X.2.2.2.2.2.1.1, X.2.2.2.2.2.1.2.1, X.2.2.2.2.2.1.2.2.1, (-X.2.2.2.2.2.1.2.2.2.1), X.2.2.2.2.2.1.2.2.2.2.1, X.2.2.2.2.2.1.2.2.2.2.2.1, X.2.2.2.2.2.1.2.2.2.2.2.2.1, X.2.2.2.2.2.1.2.2.2.2.2.2.2.1, (X.2.2.2.2.2.1.2.2.2.2.2.2.2.2 + 1))) (ar9_s8 _ _) rfl dX3_goAcross_87 ?_
        refine k_iinc C (i0 + (-1)) [(1, .int (i0 + (-1))), (2, .int (X.2.2.2.2.2.1.1 + r2)), (0, .ref b0)] 2 rfl (congrArg (fun z => i0 + z) (by decide : Int32.ofInt (-1) = (-1 : Int32))) (by decide) rfl dX3_goAcross_88 ?_
        refine k_goto C 10 (by decide) dX3_goAcross_91 ?_
        have hL : LX3_goAcross (n + 1) i0 X = LX3_goAcross n (i0 + (-1)) (X.1, X.2.1, X.2.2.1, X.2.2.2.1, X.2.2.2.2.1, (X.2.2.2.2.2.1.1, X.2.2.2.2.2.1.2.1, X.2.2.2.2.2.1.2.2.1, (-X.2.2.2.2.2.1.2.2.2.1), X.2.2.2.2.2.1.2.2.2.2.1, X.2.2.2.2.2.1.2.2.2.2.2.1, X.2.2.2.2.2.1.2.2.2.2.2.2.1, X.2.2.2.2.2.1.2.2.2.2.2.2.2.1, (X.2.2.2.2.2.1.2.2.2.2.2.2.2.2 + 1)), X.2.2.2.2.2.2) := by subst er3; subst er2; exact (if_neg c1).trans ((if_pos c4).trans rfl)
        refine k_sub [2, 0] rfl ?_
        exact ih (i0 + (-1)) (X.1, X.2.1, X.2.2.1, X.2.2.2.1, X.2.2.2.2.1, (X.2.2.2.2.2.1.1, X.2.2.2.2.2.1.2.1, X.2.2.2.2.2.1.2.2.1, (-X.2.2.2.2.2.1.2.2.2.1), X.2.2.2.2.2.1.2.2.2.2.1, X.2.2.2.2.2.1.2.2.2.2.2.1, X.2.2.2.2.2.1.2.2.2.2.2.2.1, X.2.2.2.2.2.1.2.2.2.2.2.2.2.1, (X.2.2.2.2.2.1.2.2.2.2.2.2.2.2 + 1)), X.2.2.2.2.2.2) res (hL.symm.trans hr)
      ·
        refine k_iload_n C dX3_goAcross_41 0 rfl ?_
        refine k_aload_n C dX3_goAcross_42 1 rfl ?_
        refine k_getX3 C 0 16 rfl (by decide) rfl q586 rfl dX3_goAcross_43 ?_
        refine k_iconst C 1 (by decide) dX3_goAcross_46 ?_
        refine k_iald C 6 rfl vi9_1 (ar9_l1 _) dX3_goAcross_47 ?_
        refine k_callS_i C (mX3_isButtress l D cI cJ (X.2.2.2.2.2.1.1 + r2) X.2.2.2.2.2.1.2.1) (va_cwS 2 C.2.2.2.2.1 (kGS q688 q689 q61 q690) rfl rfl rfl hdX3_isButtress ⟨Nat.le_of_ble_eq_true rfl, Nat.le_of_ble_eq_true rfl⟩) [] [0, 1, 2, 3, 4, 5, 6] [0, 1, 2, 3, 4, 5, 6] [(b0, cM b1 b2 b3 b4 b5 b6 X.2.2.2.2.2.2), (b1, cA9 cI X.1), (b2, cA2 cI X.2.1), (b3, cA2 cI X.2.2.1), (b4, cA2 cI X.2.2.2.1), (b5, cA2 cI X.2.2.2.2.1), (b6, cA9 cI X.2.2.2.2.2.1)] ([(b0, cM b1 b2 b3 b4 b5 b6 X.2.2.2.2.2.2), (b1, cA9 cI X.1), (b2, cA2 cI X.2.1), (b3, cA2 cI X.2.2.1), (b4, cA2 cI X.2.2.2.1), (b5, cA2 cI X.2.2.2.2.1), (b6, cA9 cI X.2.2.2.2.2.1)]) rfl rfl rfl rfl (by decide) [] rfl rfl rfl rfl (Nat.le_of_ble_eq_true rfl) ⟨Nat.zero_le _, Nat.zero_le _⟩ rfl dX3_goAcross_48 ?_
        generalize er5 : fX3_isButtress (X.2.2.2.2.2.1.1 + r2) X.2.2.2.2.2.1.2.1 = r5
        refine k_if_ne C 64 (by decide) dX3_goAcross_51 (fun c6 => ?_) (fun c6 => ?_)
        ·
          refine k_aload_n C dX3_goAcross_64 1 rfl ?_
          refine k_getX3 C 0 16 rfl (by decide) rfl q586 rfl dX3_goAcross_65 ?_
          refine k_iconst C 3 (by decide) dX3_goAcross_68 ?_
          refine k_aload_n C dX3_goAcross_69 1 rfl ?_
          refine k_getX3 C 0 16 rfl (by decide) rfl q586 rfl dX3_goAcross_70 ?_
          refine k_iconst C 3 (by decide) dX3_goAcross_73 ?_
          refine k_iald C 6 rfl vi9_3 (ar9_l3 _) dX3_goAcross_74 ?_
          refine k_ineg C dX3_goAcross_75 ?_
          refine k_iast C [(b0, cM b1 b2 b3 b4 b5 b6 X.2.2.2.2.2.2), (b1, cA9 cI X.1), (b2, cA2 cI X.2.1), (b3, cA2 cI X.2.2.1), (b4, cA2 cI X.2.2.2.1), (b5, cA2 cI X.2.2.2.2.1), (b6, cA9 cI (X.2.2.2.2.2.1.1, X.2.2.2.2.2.1.2.1, X.2.2.2.2.2.1.2.2.1, (-X.2.2.2.2.2.1.2.2.2.1), X.2.2.2.2.2.1.2.2.2.2))] 6 rfl vi9_3 (ar9 (X.2.2.2.2.2.1.1, X.2.2.2.2.2.1.2.1, X.2.2.2.2.2.1.2.2.1, (-X.2.2.2.2.2.1.2.2.2.1), X.2.2.2.2.2.1.2.2.2.2)) (ar9_s3 _ _) rfl dX3_goAcross_76 ?_
          refine k_aload_n C dX3_goAcross_77 1 rfl ?_
          refine k_getX3 C 0 16 rfl (by decide) rfl q586 rfl dX3_goAcross_78 ?_
          refine k_bipush C 8 (by decide) dX3_goAcross_81 ?_
          refine k_dup2 C rfl rfl dX3_goAcross_83 ?_
          refine k_iald C 6 rfl vi9_8 (ar9_l8 _) dX3_goAcross_84 ?_
          refine k_iconst C 1 (by decide) dX3_goAcross_85 ?_
          refine k_iadd C dX3_goAcross_86 ?_
          refine k_iast C [(b0, cM b1 b2 b3 b4 b5 b6 X.2.2.2.2.2.2), (b1, cA9 cI X.1), (b2, cA2 cI X.2.1), (b3, cA2 cI X.2.2.1), (b4, cA2 cI X.2.2.2.1), (b5, cA2 cI X.2.2.2.2.1), (b6, cA9 cI (X.2.2.2.2.2.1.1, X.2.2.2.2.2.1.2.1, X.2.2.2.2.2.1.2.2.1, (-X.2.2.2.2.2.1.2.2.2.1), X.2.2.2.2.2.1.2.2.2.2.1, X.2.2.2.2.2.1.2.2.2.2.2.1, X.2.2.2.2.2.1.2.2.2.2.2.2.1, X.2.2.2.2.2.1.2.2.2.2.2.2.2.1, (X.2.2.2.2.2.1.2.2.2.2.2.2.2.2 + 1)))] 6 rfl vi9_8 (ar9 (X.2.2.2.2.2.1.1, X.2.2.2.2.2.1.2.1, X.2.2.2.2.2.1.2.2.1, (-X.2.2.2.2.2.1.2.2.2.1), X.2.2.2.2.2.1.2.2.2.2.1, X.2.2.2.2.2.1.2.2.2.2.2.1, X.2.2.2.2.2.1.2.2.2.2.2.2.1, X.2.2.2.2.2.1.2.2.2.2.2.2.2.1, (X.2.2.2.2.2.1.2.2.2.2.2.2.2.2 + 1))) (ar9_s8 _ _) rfl dX3_goAcross_87 ?_
          refine k_iinc C (i0 + (-1)) [(1, .int (i0 + (-1))), (2, .int (X.2.2.2.2.2.1.1 + r2)), (0, .ref b0)] 2 rfl (congrArg (fun z => i0 + z) (by decide : Int32.ofInt (-1) = (-1 : Int32))) (by decide) rfl dX3_goAcross_88 ?_
          refine k_goto C 10 (by decide) dX3_goAcross_91 ?_
          have hL : LX3_goAcross (n + 1) i0 X = LX3_goAcross n (i0 + (-1)) (X.1, X.2.1, X.2.2.1, X.2.2.2.1, X.2.2.2.2.1, (X.2.2.2.2.2.1.1, X.2.2.2.2.2.1.2.1, X.2.2.2.2.2.1.2.2.1, (-X.2.2.2.2.2.1.2.2.2.1), X.2.2.2.2.2.1.2.2.2.2.1, X.2.2.2.2.2.1.2.2.2.2.2.1, X.2.2.2.2.2.1.2.2.2.2.2.2.1, X.2.2.2.2.2.1.2.2.2.2.2.2.2.1, (X.2.2.2.2.2.1.2.2.2.2.2.2.2.2 + 1)), X.2.2.2.2.2.2) := by subst er5; subst er3; subst er2; exact (if_neg c1).trans ((if_neg c4).trans ((if_neg c6).trans rfl))
          refine k_sub [2, 0] rfl ?_
          exact ih (i0 + (-1)) (X.1, X.2.1, X.2.2.1, X.2.2.2.1, X.2.2.2.2.1, (X.2.2.2.2.2.1.1, X.2.2.2.2.2.1.2.1, X.2.2.2.2.2.1.2.2.1, (-X.2.2.2.2.2.1.2.2.2.1), X.2.2.2.2.2.1.2.2.2.2.1, X.2.2.2.2.2.1.2.2.2.2.2.1, X.2.2.2.2.2.1.2.2.2.2.2.2.1, X.2.2.2.2.2.1.2.2.2.2.2.2.2.1, (X.2.2.2.2.2.1.2.2.2.2.2.2.2.2 + 1)), X.2.2.2.2.2.2) res (hL.symm.trans hr)
        ·
          refine k_aload_n C dX3_goAcross_54 1 rfl ?_
          refine k_getX3 C 0 16 rfl (by decide) rfl q586 rfl dX3_goAcross_55 ?_
          refine k_iconst C 0 (by decide) dX3_goAcross_58 ?_
          refine k_iload_n C dX3_goAcross_59 0 rfl ?_
          refine k_iast C [(b0, cM b1 b2 b3 b4 b5 b6 X.2.2.2.2.2.2), (b1, cA9 cI X.1), (b2, cA2 cI X.2.1), (b3, cA2 cI X.2.2.1), (b4, cA2 cI X.2.2.2.1), (b5, cA2 cI X.2.2.2.2.1), (b6, cA9 cI ((X.2.2.2.2.2.1.1 + r2), X.2.2.2.2.2.1.2))] 6 rfl vi9_0 (ar9 ((X.2.2.2.2.2.1.1 + r2), X.2.2.2.2.2.1.2)) (ar9_s0 _ _) rfl dX3_goAcross_60 ?_
          refine k_goto C 88 (by decide) dX3_goAcross_61 ?_
          refine k_iinc C (i0 + (-1)) [(1, .int (i0 + (-1))), (2, .int (X.2.2.2.2.2.1.1 + r2)), (0, .ref b0)] 2 rfl (congrArg (fun z => i0 + z) (by decide : Int32.ofInt (-1) = (-1 : Int32))) (by decide) rfl dX3_goAcross_88 ?_
          refine k_goto C 10 (by decide) dX3_goAcross_91 ?_
          have hL : LX3_goAcross (n + 1) i0 X = LX3_goAcross n (i0 + (-1)) (X.1, X.2.1, X.2.2.1, X.2.2.2.1, X.2.2.2.2.1, ((X.2.2.2.2.2.1.1 + r2), X.2.2.2.2.2.1.2), X.2.2.2.2.2.2) := by subst er5; subst er3; subst er2; exact (if_neg c1).trans ((if_neg c4).trans ((if_pos c6).trans rfl))
          refine k_sub [2, 0] rfl ?_
          exact ih (i0 + (-1)) (X.1, X.2.1, X.2.2.1, X.2.2.2.1, X.2.2.2.2.1, ((X.2.2.2.2.2.1.1 + r2), X.2.2.2.2.2.1.2), X.2.2.2.2.2.2) res (hL.symm.trans hr)
noncomputable def FX3_goAcross (X : Mo) : Option (Mo) :=
  LX3_goAcross 2147483649 (if 0 ≤ X.2.2.2.2.2.1.2.2.2.1 then X.2.2.2.2.2.1.2.2.2.1 else 0 - X.2.2.2.2.2.1.2.2.2.1) X
set_option maxHeartbeats 4000000 in
set_option maxRecDepth 100000 in
theorem moX3_goAcross (l : Launch) (D : va_G) (cI cJ : ClassId) (b0 b1 b2 b3 b4 b5 b6 : Nat)  (X : Mo) (res : Mo) (hr : FX3_goAcross X = some res) : kCv l D cI cJ yX3_goAcross (.code yX3_goAcross cX3_goAcross 3 none) { frames := 2, cells := 0, slots := 0, locals := 43 } [.ref b0] (wM cI b0 b1 b2 b3 b4 b5 b6 X) (wM cI b0 b1 b2 b3 b4 b5 b6 res) := by
  refine fun sz => k_of (lv := [(0, .ref b0)]) (by decide) sz (Nat.le_of_ble_eq_true rfl) rfl ?_
  intro p e s m args below meth c hsz C
  refine k_aload_n C dX3_goAcross_0 0 rfl ?_
  refine k_getX3 C 0 16 rfl (by decide) rfl q586 rfl dX3_goAcross_1 ?_
  refine k_iconst C 3 (by decide) dX3_goAcross_4 ?_
  refine k_iald C 6 rfl vi9_3 (ar9_l3 _) dX3_goAcross_5 ?_
  refine k_abs C q684 q402 q67 q403 (Nat.le_of_ble_eq_true rfl) (Nat.le_of_ble_eq_true rfl) (Nat.zero_le _) (Nat.zero_le _) dX3_goAcross_6 ?_
  refine k_istore_n C [(1, .int (if 0 ≤ X.2.2.2.2.2.1.2.2.2.1 then X.2.2.2.2.2.1.2.2.2.1 else 0 - X.2.2.2.2.2.1.2.2.2.1)), (0, .ref b0)] (by decide) rfl dX3_goAcross_9 ?_
  have hL : FX3_goAcross X = LX3_goAcross 2147483649 (if 0 ≤ X.2.2.2.2.2.1.2.2.2.1 then X.2.2.2.2.2.1.2.2.2.1 else 0 - X.2.2.2.2.2.1.2.2.2.1) X := by exact rfl
  refine k_sub [1, 0] rfl ?_
  exact (lX3_goAcross l b0 b1 b2 b3 b4 b5 b6 C 2147483649) (if 0 ≤ X.2.2.2.2.2.1.2.2.2.1 then X.2.2.2.2.2.1.2.2.2.1 else 0 - X.2.2.2.2.2.1.2.2.2.1) X res (hL.symm.trans hr)

theorem hdX3_goAlong : yX3_goAlong.cls ≠ "java/lang/invoke/MethodHandle" ∧ yX3_goAlong.cls ≠ "java/lang/invoke/VarHandle" ∧ (parseMethodDescriptor yX3_goAlong.desc).map (fun d => d.parameters.length) = some 0 := by decide +kernel
noncomputable def LX3_goAlong (n : Nat) (i0 : Int32) (X : Mo) : Option (Int32 × Mo) := match n with
  | 0 => none
  | n + 1 =>
    if i0 ≤ 0 then some (0, X)
    else (if (X.2.2.2.2.2.1.2.1 + (fX3_sign X.2.2.2.2.2.1.2.2.2.2.1)) = 30 then (if X.2.2.2.2.2.1.2.2.2.2.2.2.2.1 ≤ 0 then some (2, X)
        else some (3, X))
      else (if 0 ≤ (X.2.2.2.2.2.1.2.1 + (fX3_sign X.2.2.2.2.2.1.2.2.2.2.1)) then (if (fX3_isButtress X.2.2.2.2.2.1.1 (X.2.2.2.2.2.1.2.1 + (fX3_sign X.2.2.2.2.2.1.2.2.2.2.1))) = 0 then LX3_goAlong n (i0 + (-1)) (X.1, X.2.1, X.2.2.1, X.2.2.2.1, X.2.2.2.2.1, (X.2.2.2.2.2.1.1, (X.2.2.2.2.2.1.2.1 + (fX3_sign X.2.2.2.2.2.1.2.2.2.2.1)), X.2.2.2.2.2.1.2.2), X.2.2.2.2.2.2)
          else LX3_goAlong n (i0 + (-1)) (X.1, X.2.1, X.2.2.1, X.2.2.2.1, X.2.2.2.2.1, (X.2.2.2.2.2.1.1, X.2.2.2.2.2.1.2.1, X.2.2.2.2.2.1.2.2.1, X.2.2.2.2.2.1.2.2.2.1, (-X.2.2.2.2.2.1.2.2.2.2.1), X.2.2.2.2.2.1.2.2.2.2.2.1, X.2.2.2.2.2.1.2.2.2.2.2.2.1, X.2.2.2.2.2.1.2.2.2.2.2.2.2.1, (X.2.2.2.2.2.1.2.2.2.2.2.2.2.2 + 1)), X.2.2.2.2.2.2))
        else (if 4 ≤ X.2.2.2.2.2.1.2.2.1 then LX3_goAlong n (i0 + (-1)) (X.1, X.2.1, X.2.2.1, X.2.2.2.1, X.2.2.2.2.1, (X.2.2.2.2.2.1.1, X.2.2.2.2.2.1.2.1, X.2.2.2.2.2.1.2.2.1, X.2.2.2.2.2.1.2.2.2.1, (-X.2.2.2.2.2.1.2.2.2.2.1), X.2.2.2.2.2.1.2.2.2.2.2.1, (X.2.2.2.2.2.1.2.2.2.2.2.2.1 + 1), X.2.2.2.2.2.1.2.2.2.2.2.2.2), X.2.2.2.2.2.2)
          else some (1, (X.1, X.2.1, X.2.2.1, X.2.2.2.1, X.2.2.2.2.1, (X.2.2.2.2.2.1.1, X.2.2.2.2.2.1.2.1, X.2.2.2.2.2.1.2.2.1, X.2.2.2.2.2.1.2.2.2.1, (-X.2.2.2.2.2.1.2.2.2.2.1), X.2.2.2.2.2.1.2.2.2.2.2.1, (X.2.2.2.2.2.1.2.2.2.2.2.2.1 + 1), X.2.2.2.2.2.1.2.2.2.2.2.2.2), X.2.2.2.2.2.2)))))
set_option maxHeartbeats 4000000 in
set_option maxRecDepth 100000 in
theorem lX3_goAlong {p : Program} {e : Env} {s : State} {m : MethodId} {args : Array Value} {below : List Frame} {meth : Method} {c : Code} {A : Nat → Prop} (l : Launch) {D : va_G} {cI cJ : ClassId} (b0 b1 b2 b3 b4 b5 b6 : Nat)  (C : kCx p s m args meth c RX3 cX3_goAlong 4 (some .int) D cI cJ A) : ∀ (n : Nat), ∀ (i0 : Int32) (X : Mo) (res : Int32 × Mo), LX3_goAlong n i0 X = some res → kW p l e { frames := 2, cells := 0, slots := 0, locals := 43 } s m args below meth c D A 4 0 0 (MQ below (va_Qi (fun (r : Int32) (_ : Unit) => r = res.1) (fun _ t => va_P D kCl (wM cI b0 b1 b2 b3 b4 b5 b6 res.2) t.heap) A) args s 0 0 A) (wM cI b0 b1 b2 b3 b4 b5 b6 X) 10 [(0, .ref b0), (1, .int i0)] [] := by
  intro n
  induction n with
  | zero => intro i0 X res hr; exact absurd hr (fun h => nomatch h)
  | succ n ih =>
    intro i0 X res hr
    refine k_iload_n C dX3_goAlong_10 1 rfl ?_
    refine k_if_le C 145 (by decide) dX3_goAlong_11 (fun c1 => ?_) (fun c1 => ?_)
    ·
      refine k_iconst C 0 (by decide) dX3_goAlong_145 ?_
      have hL : LX3_goAlong (n + 1) i0 X = some (0, X) := by exact (if_pos c1).trans rfl
      obtain rfl := Option.some.inj (hL.symm.trans hr)
      exact k_iret C rfl rfl rfl dX3_goAlong_146
    ·
      refine k_aload_n C dX3_goAlong_14 0 rfl ?_
      refine k_getX3 C 0 16 rfl (by decide) rfl q586 rfl dX3_goAlong_15 ?_
      refine k_iconst C 1 (by decide) dX3_goAlong_18 ?_
      refine k_iald C 6 rfl vi9_1 (ar9_l1 _) dX3_goAlong_19 ?_
      refine k_aload_n C dX3_goAlong_20 0 rfl ?_
      refine k_getX3 C 0 16 rfl (by decide) rfl q586 rfl dX3_goAlong_21 ?_
      refine k_iconst C 4 (by decide) dX3_goAlong_24 ?_
      refine k_iald C 6 rfl vi9_4 (ar9_l4 _) dX3_goAlong_25 ?_
      refine k_callS_i C (mX3_sign l D cI cJ X.2.2.2.2.2.1.2.2.2.2.1) (va_cwS 1 C.2.2.2.2.1 (kGS q685 q686 q61 q687) rfl rfl rfl hdX3_sign ⟨Nat.le_of_ble_eq_true rfl, Nat.le_of_ble_eq_true rfl⟩) [] [0, 1, 2, 3, 4, 5, 6] [0, 1, 2, 3, 4, 5, 6] [(b0, cM b1 b2 b3 b4 b5 b6 X.2.2.2.2.2.2), (b1, cA9 cI X.1), (b2, cA2 cI X.2.1), (b3, cA2 cI X.2.2.1), (b4, cA2 cI X.2.2.2.1), (b5, cA2 cI X.2.2.2.2.1), (b6, cA9 cI X.2.2.2.2.2.1)] ([(b0, cM b1 b2 b3 b4 b5 b6 X.2.2.2.2.2.2), (b1, cA9 cI X.1), (b2, cA2 cI X.2.1), (b3, cA2 cI X.2.2.1), (b4, cA2 cI X.2.2.2.1), (b5, cA2 cI X.2.2.2.2.1), (b6, cA9 cI X.2.2.2.2.2.1)]) rfl rfl rfl rfl (by decide) [] rfl rfl rfl rfl (Nat.le_of_ble_eq_true rfl) ⟨Nat.zero_le _, Nat.zero_le _⟩ rfl dX3_goAlong_26 ?_
      generalize er2 : fX3_sign X.2.2.2.2.2.1.2.2.2.2.1 = r2
      refine k_iadd C dX3_goAlong_29 ?_
      refine k_istore_n C [(2, .int (X.2.2.2.2.2.1.2.1 + r2)), (0, .ref b0), (1, .int i0)] (by decide) rfl dX3_goAlong_30 ?_
      refine k_iload_n C dX3_goAlong_31 0 rfl ?_
      refine k_bipush C 30 (by decide) dX3_goAlong_32 ?_
      refine k_icmp_ne C 53 (by decide) dX3_goAlong_34 (fun c3 => ?_) (fun c3 => ?_)
      ·
        refine k_iload_n C dX3_goAlong_53 0 rfl ?_
        refine k_if_ge C 61 (by decide) dX3_goAlong_54 (fun c4 => ?_) (fun c4 => ?_)
        ·
          refine k_iconst C 0 (by decide) dX3_goAlong_61 ?_
          refine k_istore_n C [(3, .int 0), (2, .int (X.2.2.2.2.2.1.2.1 + r2)), (0, .ref b0), (1, .int i0)] (by decide) rfl dX3_goAlong_62 ?_
          refine k_iload_n C dX3_goAlong_63 0 rfl ?_
          refine k_if_ne C 90 (by decide) dX3_goAlong_64 (fun h => absurd (by decide) h) (fun _ => ?_)
          refine k_aload_n C dX3_goAlong_67 2 rfl ?_
          refine k_getX3 C 0 16 rfl (by decide) rfl q586 rfl dX3_goAlong_68 ?_
          refine k_iconst C 0 (by decide) dX3_goAlong_71 ?_
          refine k_iald C 6 rfl vi9_0 (ar9_l0 _) dX3_goAlong_72 ?_
          refine k_iload_n C dX3_goAlong_73 1 rfl ?_
          refine k_callS_i C (mX3_isButtress l D cI cJ X.2.2.2.2.2.1.1 (X.2.2.2.2.2.1.2.1 + r2)) (va_cwS 2 C.2.2.2.2.1 (kGS q688 q689 q61 q690) rfl rfl rfl hdX3_isButtress ⟨Nat.le_of_ble_eq_true rfl, Nat.le_of_ble_eq_true rfl⟩) [] [0, 1, 2, 3, 4, 5, 6] [0, 1, 2, 3, 4, 5, 6] [(b0, cM b1 b2 b3 b4 b5 b6 X.2.2.2.2.2.2), (b1, cA9 cI X.1), (b2, cA2 cI X.2.1), (b3, cA2 cI X.2.2.1), (b4, cA2 cI X.2.2.2.1), (b5, cA2 cI X.2.2.2.2.1), (b6, cA9 cI X.2.2.2.2.2.1)] ([(b0, cM b1 b2 b3 b4 b5 b6 X.2.2.2.2.2.2), (b1, cA9 cI X.1), (b2, cA2 cI X.2.1), (b3, cA2 cI X.2.2.1), (b4, cA2 cI X.2.2.2.1), (b5, cA2 cI X.2.2.2.2.1), (b6, cA9 cI X.2.2.2.2.2.1)]) rfl rfl rfl rfl (by decide) [] rfl rfl rfl rfl (Nat.le_of_ble_eq_true rfl) ⟨Nat.zero_le _, Nat.zero_le _⟩ rfl dX3_goAlong_74 ?_
          generalize er5 : fX3_isButtress X.2.2.2.2.2.1.1 (X.2.2.2.2.2.1.2.1 + r2) = r5
          refine k_if_ne C 90 (by decide) dX3_goAlong_77 (fun c6 => ?_) (fun c6 => ?_)
          ·
            refine k_aload_n C dX3_goAlong_90 2 rfl ?_
            refine k_getX3 C 0 16 rfl (by decide) rfl q586 rfl dX3_goAlong_91 ?_
            refine k_iconst C 4 (by decide) dX3_goAlong_94 ?_
            refine k_aload_n C dX3_goAlong_95 2 rfl ?_
            refine k_getX3 C 0 16 rfl (by decide) rfl q586 rfl dX3_goAlong_96 ?_
            refine k_iconst C 4 (by decide) dX3_goAlong_99 ?_
            refine k_iald C 6 rfl vi9_4 (ar9_l4 _) dX3_goAlong_100 ?_
            refine k_ineg C dX3_goAlong_101 ?_
            refine k_iast C [(b0, cM b1 b2 b3 b4 b5 b6 X.2.2.2.2.2.2), (b1, cA9 cI X.1), (b2, cA2 cI X.2.1), (b3, cA2 cI X.2.2.1), (b4, cA2 cI X.2.2.2.1), (b5, cA2 cI X.2.2.2.2.1), (b6, cA9 cI (X.2.2.2.2.2.1.1, X.2.2.2.2.2.1.2.1, X.2.2.2.2.2.1.2.2.1, X.2.2.2.2.2.1.2.2.2.1, (-X.2.2.2.2.2.1.2.2.2.2.1), X.2.2.2.2.2.1.2.2.2.2.2))] 6 rfl vi9_4 (ar9 (X.2.2.2.2.2.1.1, X.2.2.2.2.2.1.2.1, X.2.2.2.2.2.1.2.2.1, X.2.2.2.2.2.1.2.2.2.1, (-X.2.2.2.2.2.1.2.2.2.2.1), X.2.2.2.2.2.1.2.2.2.2.2)) (ar9_s4 _ _) rfl dX3_goAlong_102 ?_
            refine k_aload_n C dX3_goAlong_103 2 rfl ?_
            refine k_getX3 C 0 16 rfl (by decide) rfl q586 rfl dX3_goAlong_104 ?_
            refine k_iload_n C dX3_goAlong_107 0 rfl ?_
            refine k_if_eq C 116 (by decide) dX3_goAlong_108 (fun _ => ?_) (fun h => absurd (by decide) h)
            refine k_bipush C 8 (by decide) dX3_goAlong_116 ?_
            refine k_dup2 C rfl rfl dX3_goAlong_118 ?_
            refine k_iald C 6 rfl vi9_8 (ar9_l8 _) dX3_goAlong_119 ?_
            refine k_iconst C 1 (by decide) dX3_goAlong_120 ?_
            refine k_iadd C dX3_goAlong_121 ?_
            refine k_iast C [(b0, cM b1 b2 b3 b4 b5 b6 X.2.2.2.2.2.2), (b1, cA9 cI X.1), (b2, cA2 cI X.2.1), (b3, cA2 cI X.2.2.1), (b4, cA2 cI X.2.2.2.1), (b5, cA2 cI X.2.2.2.2.1), (b6, cA9 cI (X.2.2.2.2.2.1.1, X.2.2.2.2.2.1.2.1, X.2.2.2.2.2.1.2.2.1, X.2.2.2.2.2.1.2.2.2.1, (-X.2.2.2.2.2.1.2.2.2.2.1), X.2.2.2.2.2.1.2.2.2.2.2.1, X.2.2.2.2.2.1.2.2.2.2.2.2.1, X.2.2.2.2.2.1.2.2.2.2.2.2.2.1, (X.2.2.2.2.2.1.2.2.2.2.2.2.2.2 + 1)))] 6 rfl vi9_8 (ar9 (X.2.2.2.2.2.1.1, X.2.2.2.2.2.1.2.1, X.2.2.2.2.2.1.2.2.1, X.2.2.2.2.2.1.2.2.2.1, (-X.2.2.2.2.2.1.2.2.2.2.1), X.2.2.2.2.2.1.2.2.2.2.2.1, X.2.2.2.2.2.1.2.2.2.2.2.2.1, X.2.2.2.2.2.1.2.2.2.2.2.2.2.1, (X.2.2.2.2.2.1.2.2.2.2.2.2.2.2 + 1))) (ar9_s8 _ _) rfl dX3_goAlong_122 ?_
            refine k_iload_n C dX3_goAlong_123 0 rfl ?_
            refine k_if_eq C 139 (by decide) dX3_goAlong_124 (fun _ => ?_) (fun h => absurd (by decide) h)
            refine k_iinc C (i0 + (-1)) [(1, .int (i0 + (-1))), (3, .int 0), (2, .int (X.2.2.2.2.2.1.2.1 + r2)), (0, .ref b0)] 3 rfl (congrArg (fun z => i0 + z) (by decide : Int32.ofInt (-1) = (-1 : Int32))) (by decide) rfl dX3_goAlong_139 ?_
            refine k_goto C 10 (by decide) dX3_goAlong_142 ?_
            have hL : LX3_goAlong (n + 1) i0 X = LX3_goAlong n (i0 + (-1)) (X.1, X.2.1, X.2.2.1, X.2.2.2.1, X.2.2.2.2.1, (X.2.2.2.2.2.1.1, X.2.2.2.2.2.1.2.1, X.2.2.2.2.2.1.2.2.1, X.2.2.2.2.2.1.2.2.2.1, (-X.2.2.2.2.2.1.2.2.2.2.1), X.2.2.2.2.2.1.2.2.2.2.2.1, X.2.2.2.2.2.1.2.2.2.2.2.2.1, X.2.2.2.2.2.1.2.2.2.2.2.2.2.1, (X.2.2.2.2.2.1.2.2.2.2.2.2.2.2 + 1)), X.2.2.2.2.2.2) := by subst er5; subst er2; exact (if_neg c1).trans ((if_neg c3).trans ((if_pos c4).trans ((if_neg c6).trans rfl)))
            refine k_sub [3, 0] rfl ?_
            exact ih (i0 + (-1)) (X.1, X.2.1, X.2.2.1, X.2.2.2.1, X.2.2.2.2.1, (X.2.2.2.2.2.1.1, X.2.2.2.2.2.1.2.1, X.2.2.2.2.2.1.2.2.1, X.2.2.2.2.2.1.2.2.2.1, (-X.2.2.2.2.2.1.2.2.2.2.1), X.2.2.2.2.2.1.2.2.2.2.2.1, X.2.2.2.2.2.1.2.2.2.2.2.2.1, X.2.2.2.2.2.1.2.2.2.2.2.2.2.1, (X.2.2.2.2.2.1.2.2.2.2.2.2.2.2 + 1)), X.2.2.2.2.2.2) res (hL.symm.trans hr)
          ·
            refine k_aload_n C dX3_goAlong_80 2 rfl ?_
            refine k_getX3 C 0 16 rfl (by decide) rfl q586 rfl dX3_goAlong_81 ?_
            refine k_iconst C 1 (by decide) dX3_goAlong_84 ?_
            refine k_iload_n C dX3_goAlong_85 1 rfl ?_
            refine k_iast C [(b0, cM b1 b2 b3 b4 b5 b6 X.2.2.2.2.2.2), (b1, cA9 cI X.1), (b2, cA2 cI X.2.1), (b3, cA2 cI X.2.2.1), (b4, cA2 cI X.2.2.2.1), (b5, cA2 cI X.2.2.2.2.1), (b6, cA9 cI (X.2.2.2.2.2.1.1, (X.2.2.2.2.2.1.2.1 + r2), X.2.2.2.2.2.1.2.2))] 6 rfl vi9_1 (ar9 (X.2.2.2.2.2.1.1, (X.2.2.2.2.2.1.2.1 + r2), X.2.2.2.2.2.1.2.2)) (ar9_s1 _ _) rfl dX3_goAlong_86 ?_
            refine k_goto C 139 (by decide) dX3_goAlong_87 ?_
            refine k_iinc C (i0 + (-1)) [(1, .int (i0 + (-1))), (3, .int 0), (2, .int (X.2.2.2.2.2.1.2.1 + r2)), (0, .ref b0)] 3 rfl (congrArg (fun z => i0 + z) (by decide : Int32.ofInt (-1) = (-1 : Int32))) (by decide) rfl dX3_goAlong_139 ?_
            refine k_goto C 10 (by decide) dX3_goAlong_142 ?_
            have hL : LX3_goAlong (n + 1) i0 X = LX3_goAlong n (i0 + (-1)) (X.1, X.2.1, X.2.2.1, X.2.2.2.1, X.2.2.2.2.1, (X.2.2.2.2.2.1.1, (X.2.2.2.2.2.1.2.1 + r2), X.2.2.2.2.2.1.2.2), X.2.2.2.2.2.2) := by subst er5; subst er2; exact (if_neg c1).trans ((if_neg c3).trans ((if_pos c4).trans ((if_pos c6).trans rfl)))
            refine k_sub [3, 0] rfl ?_
            exact ih (i0 + (-1)) (X.1, X.2.1, X.2.2.1, X.2.2.2.1, X.2.2.2.2.1, (X.2.2.2.2.2.1.1, (X.2.2.2.2.2.1.2.1 + r2), X.2.2.2.2.2.1.2.2), X.2.2.2.2.2.2) res (hL.symm.trans hr)
        ·
          refine k_iconst C 1 (by decide) dX3_goAlong_57 ?_
          refine k_goto C 62 (by decide) dX3_goAlong_58 ?_
          refine k_istore_n C [(3, .int 1), (2, .int (X.2.2.2.2.2.1.2.1 + r2)), (0, .ref b0), (1, .int i0)] (by decide) rfl dX3_goAlong_62 ?_
          refine k_iload_n C dX3_goAlong_63 0 rfl ?_
          refine k_if_ne C 90 (by decide) dX3_goAlong_64 (fun _ => ?_) (fun h => absurd h (by decide))
          refine k_aload_n C dX3_goAlong_90 2 rfl ?_
          refine k_getX3 C 0 16 rfl (by decide) rfl q586 rfl dX3_goAlong_91 ?_
          refine k_iconst C 4 (by decide) dX3_goAlong_94 ?_
          refine k_aload_n C dX3_goAlong_95 2 rfl ?_
          refine k_getX3 C 0 16 rfl (by decide) rfl q586 rfl dX3_goAlong_96 ?_
          refine k_iconst C 4 (by decide) dX3_goAlong_99 ?_
          refine k_iald C 6 rfl vi9_4 (ar9_l4 _) dX3_goAlong_100 ?_
          refine k_ineg C dX3_goAlong_101 ?_
          refine k_iast C [(b0, cM b1 b2 b3 b4 b5 b6 X.2.2.2.2.2.2), (b1, cA9 cI X.1), (b2, cA2 cI X.2.1), (b3, cA2 cI X.2.2.1), (b4, cA2 cI X.2.2.2.1), (b5, cA2 cI X.2.2.2.2.1), (b6, cA9 cI (X.2.2.2.2.2.1.1, X.2.2.2.2.2.1.2.1, X.2.2.2.2.2.1.2.2.1, X.2.2.2.2.2.1.2.2.2.1, (-X.2.2.2.2.2.1.2.2.2.2.1), X.2.2.2.2.2.1.2.2.2.2.2))] 6 rfl vi9_4 (ar9 (X.2.2.2.2.2.1.1, X.2.2.2.2.2.1.2.1, X.2.2.2.2.2.1.2.2.1, X.2.2.2.2.2.1.2.2.2.1, (-X.2.2.2.2.2.1.2.2.2.2.1), X.2.2.2.2.2.1.2.2.2.2.2)) (ar9_s4 _ _) rfl dX3_goAlong_102 ?_
          refine k_aload_n C dX3_goAlong_103 2 rfl ?_
          refine k_getX3 C 0 16 rfl (by decide) rfl q586 rfl dX3_goAlong_104 ?_
          refine k_iload_n C dX3_goAlong_107 0 rfl ?_
          refine k_if_eq C 116 (by decide) dX3_goAlong_108 (fun h => absurd h (by decide)) (fun _ => ?_)
          refine k_bipush C 6 (by decide) dX3_goAlong_111 ?_
          refine k_goto C 118 (by decide) dX3_goAlong_113 ?_
          refine k_dup2 C rfl rfl dX3_goAlong_118 ?_
          refine k_iald C 6 rfl vi9_6 (ar9_l6 _) dX3_goAlong_119 ?_
          refine k_iconst C 1 (by decide) dX3_goAlong_120 ?_
          refine k_iadd C dX3_goAlong_121 ?_
          refine k_iast C [(b0, cM b1 b2 b3 b4 b5 b6 X.2.2.2.2.2.2), (b1, cA9 cI X.1), (b2, cA2 cI X.2.1), (b3, cA2 cI X.2.2.1), (b4, cA2 cI X.2.2.2.1), (b5, cA2 cI X.2.2.2.2.1), (b6, cA9 cI (X.2.2.2.2.2.1.1, X.2.2.2.2.2.1.2.1, X.2.2.2.2.2.1.2.2.1, X.2.2.2.2.2.1.2.2.2.1, (-X.2.2.2.2.2.1.2.2.2.2.1), X.2.2.2.2.2.1.2.2.2.2.2.1, (X.2.2.2.2.2.1.2.2.2.2.2.2.1 + 1), X.2.2.2.2.2.1.2.2.2.2.2.2.2))] 6 rfl vi9_6 (ar9 (X.2.2.2.2.2.1.1, X.2.2.2.2.2.1.2.1, X.2.2.2.2.2.1.2.2.1, X.2.2.2.2.2.1.2.2.2.1, (-X.2.2.2.2.2.1.2.2.2.2.1), X.2.2.2.2.2.1.2.2.2.2.2.1, (X.2.2.2.2.2.1.2.2.2.2.2.2.1 + 1), X.2.2.2.2.2.1.2.2.2.2.2.2.2)) (ar9_s6 _ _) rfl dX3_goAlong_122 ?_
          refine k_iload_n C dX3_goAlong_123 0 rfl ?_
          refine k_if_eq C 139 (by decide) dX3_goAlong_124 (fun h => absurd h (by decide)) (fun _ => ?_)
          refine k_aload_n C dX3_goAlong_127 2 rfl ?_
          refine k_getX3 C 0 16 rfl (by decide) rfl q586 rfl dX3_goAlong_128 ?_
          refine k_iconst C 2 (by decide) dX3_goAlong_131 ?_
          refine k_iald C 6 rfl vi9_2 (ar9_l2 _) dX3_goAlong_132 ?_
          refine k_iconst C 4 (by decide) dX3_goAlong_133 ?_
          refine k_icmp_ge C 139 (by decide) dX3_goAlong_134 (fun c7 => ?_) (fun c7 => ?_)
          ·
            refine k_iinc C (i0 + (-1)) [(1, .int (i0 + (-1))), (3, .int 1), (2, .int (X.2.2.2.2.2.1.2.1 + r2)), (0, .ref b0)] 3 rfl (congrArg (fun z => i0 + z) (by decide : Int32.ofInt (-1) = (-1 : Int32))) (by decide) rfl dX3_goAlong_139 ?_
            refine k_goto C 10 (by decide) dX3_goAlong_142 ?_
            have hL : LX3_goAlong (n + 1) i0 X = LX3_goAlong n (i0 + (-1)) (X.1, X.2.1, X.2.2.1, X.2.2.2.1, X.2.2.2.2.1, (X.2.2.2.2.2.1.1, X.2.2.2.2.2.1.2.1, X.2.2.2.2.2.1.2.2.1, X.2.2.2.2.2.1.2.2.2.1, (-X.2.2.2.2.2.1.2.2.2.2.1), X.2.2.2.2.2.1.2.2.2.2.2.1, (X.2.2.2.2.2.1.2.2.2.2.2.2.1 + 1), X.2.2.2.2.2.1.2.2.2.2.2.2.2), X.2.2.2.2.2.2) := by subst er2; exact (if_neg c1).trans ((if_neg c3).trans ((if_neg c4).trans ((if_pos c7).trans rfl)))
            refine k_sub [3, 0] rfl ?_
            exact ih (i0 + (-1)) (X.1, X.2.1, X.2.2.1, X.2.2.2.1, X.2.2.2.2.1, (X.2.2.2.2.2.1.1, X.2.2.2.2.2.1.2.1, X.2.2.2.2.2.1.2.2.1, X.2.2.2.2.2.1.2.2.2.1, (-X.2.2.2.2.2.1.2.2.2.2.1), X.2.2.2.2.2.1.2.2.2.2.2.1, (X.2.2.2.2.2.1.2.2.2.2.2.2.1 + 1), X.2.2.2.2.2.1.2.2.2.2.2.2.2), X.2.2.2.2.2.2) res (hL.symm.trans hr)
          ·
            refine k_iconst C 1 (by decide) dX3_goAlong_137 ?_
            have hL : LX3_goAlong (n + 1) i0 X = some (1, (X.1, X.2.1, X.2.2.1, X.2.2.2.1, X.2.2.2.2.1, (X.2.2.2.2.2.1.1, X.2.2.2.2.2.1.2.1, X.2.2.2.2.2.1.2.2.1, X.2.2.2.2.2.1.2.2.2.1, (-X.2.2.2.2.2.1.2.2.2.2.1), X.2.2.2.2.2.1.2.2.2.2.2.1, (X.2.2.2.2.2.1.2.2.2.2.2.2.1 + 1), X.2.2.2.2.2.1.2.2.2.2.2.2.2), X.2.2.2.2.2.2)) := by subst er2; exact (if_neg c1).trans ((if_neg c3).trans ((if_neg c4).trans ((if_neg c7).trans rfl)))
            obtain rfl := Option.some.inj (hL.symm.trans hr)
            exact k_iret C rfl rfl rfl dX3_goAlong_138
      ·
        refine k_aload_n C dX3_goAlong_37 1 rfl ?_
        refine k_getX3 C 0 16 rfl (by decide) rfl q586 rfl dX3_goAlong_38 ?_
        refine k_bipush C 7 (by decide) dX3_goAlong_41 ?_
        refine k_iald C 6 rfl vi9_7 (ar9_l7 _) dX3_goAlong_43 ?_
        refine k_if_le C 51 (by decide) dX3_goAlong_44 (fun c8 => ?_) (fun c8 => ?_)
        ·
          refine k_iconst C 2 (by decide) dX3_goAlong_51 ?_
          have hL : LX3_goAlong (n + 1) i0 X = some (2, X) := by subst er2; exact (if_neg c1).trans ((if_pos c3).trans ((if_pos c8).trans rfl))
          obtain rfl := Option.some.inj (hL.symm.trans hr)
          exact k_iret C rfl rfl rfl dX3_goAlong_52
        ·
          refine k_iconst C 3 (by decide) dX3_goAlong_47 ?_
          refine k_goto C 52 (by decide) dX3_goAlong_48 ?_
          have hL : LX3_goAlong (n + 1) i0 X = some (3, X) := by subst er2; exact (if_neg c1).trans ((if_pos c3).trans ((if_neg c8).trans rfl))
          obtain rfl := Option.some.inj (hL.symm.trans hr)
          exact k_iret C rfl rfl rfl dX3_goAlong_52
noncomputable def FX3_goAlong (X : Mo) : Option (Int32 × Mo) :=
  LX3_goAlong 2147483649 (if 0 ≤ X.2.2.2.2.2.1.2.2.2.2.1 then X.2.2.2.2.2.1.2.2.2.2.1 else 0 - X.2.2.2.2.2.1.2.2.2.2.1) X
set_option maxHeartbeats 4000000 in
set_option maxRecDepth 100000 in
theorem moX3_goAlong (l : Launch) (D : va_G) (cI cJ : ClassId) (b0 b1 b2 b3 b4 b5 b6 : Nat)  (X : Mo) (res : Int32 × Mo) (hr : FX3_goAlong X = some res) : kCi l D cI cJ yX3_goAlong (.code yX3_goAlong cX3_goAlong 4 (some .int)) { frames := 2, cells := 0, slots := 0, locals := 43 } [.ref b0] (wM cI b0 b1 b2 b3 b4 b5 b6 X) res.1 (wM cI b0 b1 b2 b3 b4 b5 b6 res.2) := by
  refine fun sz => k_of (lv := [(0, .ref b0)]) (by decide) sz (Nat.le_of_ble_eq_true rfl) rfl ?_
  intro p e s m args below meth c hsz C
  refine k_aload_n C dX3_goAlong_0 0 rfl ?_
  refine k_getX3 C 0 16 rfl (by decide) rfl q586 rfl dX3_goAlong_1 ?_
  refine k_iconst C 4 (by decide) dX3_goAlong_4 ?_
  refine k_iald C 6 rfl vi9_4 (ar9_l4 _) dX3_goAlong_5 ?_
  refine k_abs C q684 q402 q67 q403 (Nat.le_of_ble_eq_true rfl) (Nat.le_of_ble_eq_true rfl) (Nat.zero_le _) (Nat.zero_le _) dX3_goAlong_6 ?_
  refine k_istore_n C [(1, .int (if 0 ≤ X.2.2.2.2.2.1.2.2.2.2.1 then X.2.2.2.2.2.1.2.2.2.2.1 else 0 - X.2.2.2.2.2.1.2.2.2.2.1)), (0, .ref b0)] (by decide) rfl dX3_goAlong_9 ?_
  have hL : FX3_goAlong X = LX3_goAlong 2147483649 (if 0 ≤ X.2.2.2.2.2.1.2.2.2.2.1 then X.2.2.2.2.2.1.2.2.2.2.1 else 0 - X.2.2.2.2.2.1.2.2.2.2.1) X := by exact rfl
  refine k_sub [1, 0] rfl ?_
  exact (lX3_goAlong l b0 b1 b2 b3 b4 b5 b6 C 2147483649) (if 0 ≤ X.2.2.2.2.2.1.2.2.2.2.1 then X.2.2.2.2.2.1.2.2.2.2.1 else 0 - X.2.2.2.2.2.1.2.2.2.2.1) X res (hL.symm.trans hr)

theorem tX3_goAcross : ∀ (n : Nat) (i0 : Int32) (X : Mo), i0.toInt.toNat < n → (LX3_goAcross n i0 X).isSome = true := by
  intro n
  induction n with
  | zero => intro i0 b h; exact absurd h (Nat.not_lt_zero _)
  | succ n ih =>
    intro i0 b h
    unfold LX3_goAcross
    by_cases c : i0 ≤ 0
    · rw [if_pos c]; rfl
    · rw [if_neg c]
      have hs := kdec c h
      (repeat' split) <;> first | rfl | exact ih _ _ hs
noncomputable def fX3_goAcross (X : Mo) : Mo := @Classical.epsilon (Mo) ⟨X⟩ (fun r => FX3_goAcross X = some r)
theorem mX3_goAcross (l : Launch) (D : va_G) (cI cJ : ClassId) (b0 b1 b2 b3 b4 b5 b6 : Nat)  (X : Mo)  : kCv l D cI cJ yX3_goAcross (.code yX3_goAcross cX3_goAcross 3 none) { frames := 2, cells := 0, slots := 0, locals := 43 } [.ref b0] (wM cI b0 b1 b2 b3 b4 b5 b6 X) (wM cI b0 b1 b2 b3 b4 b5 b6 (fX3_goAcross X)) :=
  moX3_goAcross l D cI cJ b0 b1 b2 b3 b4 b5 b6 X _ (kSome (X) (tX3_goAcross _ _ _ (kfueld _)))

theorem tX3_goAlong : ∀ (n : Nat) (i0 : Int32) (X : Mo), i0.toInt.toNat < n → (LX3_goAlong n i0 X).isSome = true := by
  intro n
  induction n with
  | zero => intro i0 b h; exact absurd h (Nat.not_lt_zero _)
  | succ n ih =>
    intro i0 b h
    unfold LX3_goAlong
    by_cases c : i0 ≤ 0
    · rw [if_pos c]; rfl
    · rw [if_neg c]
      have hs := kdec c h
      (repeat' split) <;> first | rfl | exact ih _ _ hs
noncomputable def fX3_goAlong (X : Mo) : Int32 × Mo := @Classical.epsilon (Int32 × Mo) ⟨(0, X)⟩ (fun r => FX3_goAlong X = some r)
theorem mX3_goAlong (l : Launch) (D : va_G) (cI cJ : ClassId) (b0 b1 b2 b3 b4 b5 b6 : Nat)  (X : Mo)  : kCi l D cI cJ yX3_goAlong (.code yX3_goAlong cX3_goAlong 4 (some .int)) { frames := 2, cells := 0, slots := 0, locals := 43 } [.ref b0] (wM cI b0 b1 b2 b3 b4 b5 b6 X) (fX3_goAlong X).1 (wM cI b0 b1 b2 b3 b4 b5 b6 (fX3_goAlong X).2) :=
  moX3_goAlong l D cI cJ b0 b1 b2 b3 b4 b5 b6 X _ (kSome ((0, X)) (tX3_goAlong _ _ _ (kfueld _)))

theorem hdX3_fall : yX3_fall.cls ≠ "java/lang/invoke/MethodHandle" ∧ yX3_fall.cls ≠ "java/lang/invoke/VarHandle" ∧ (parseMethodDescriptor yX3_fall.desc).map (fun d => d.parameters.length) = some 0 := by decide +kernel
noncomputable def fX3_fall (X : Mo) : Int32 × Mo :=
  if 0 < (X.2.2.2.2.2.1.2.2.1 + X.2.2.2.2.2.1.2.2.2.2.2.1) then (0, (X.1, X.2.1, X.2.2.1, X.2.2.2.1, X.2.2.2.2.1, (X.2.2.2.2.2.1.1, X.2.2.2.2.2.1.2.1, (X.2.2.2.2.2.1.2.2.1 + X.2.2.2.2.2.1.2.2.2.2.2.1), X.2.2.2.2.2.1.2.2.2.1, X.2.2.2.2.2.1.2.2.2.2.1, (X.2.2.2.2.2.1.2.2.2.2.2.1 - 1), X.2.2.2.2.2.1.2.2.2.2.2.2), X.2.2.2.2.2.2))
  else (if (X.2.2.2.2.2.1.2.2.2.2.2.1 - 1) < 0 then (if X.2.2.2.2.2.1.2.2.2.2.2.2.1 = 0 then (1, (X.1, X.2.1, X.2.2.1, X.2.2.2.1, X.2.2.2.2.1, (X.2.2.2.2.2.1.1, X.2.2.2.2.2.1.2.1, 0, X.2.2.2.2.2.1.2.2.2.1, X.2.2.2.2.2.1.2.2.2.2.1, ((-(X.2.2.2.2.2.1.2.2.2.2.2.1 - 1)) / 2), X.2.2.2.2.2.1.2.2.2.2.2.2.1, (X.2.2.2.2.2.1.2.2.2.2.2.2.2.1 + 1), X.2.2.2.2.2.1.2.2.2.2.2.2.2.2), X.2.2.2.2.2.2))
      else (if (X.2.2.2.2.2.1.2.2.2.2.2.2.2.1 + 1) = 2 then (3, (X.1, X.2.1, X.2.2.1, X.2.2.2.1, X.2.2.2.2.1, (X.2.2.2.2.2.1.1, X.2.2.2.2.2.1.2.1, 0, X.2.2.2.2.2.1.2.2.2.1, X.2.2.2.2.2.1.2.2.2.2.1, ((-(X.2.2.2.2.2.1.2.2.2.2.2.1 - 1)) / 2), X.2.2.2.2.2.1.2.2.2.2.2.2.1, (X.2.2.2.2.2.1.2.2.2.2.2.2.2.1 + 1), X.2.2.2.2.2.1.2.2.2.2.2.2.2.2), X.2.2.2.2.2.2))
        else (0, (X.1, X.2.1, X.2.2.1, X.2.2.2.1, X.2.2.2.2.1, (X.2.2.2.2.2.1.1, X.2.2.2.2.2.1.2.1, 0, X.2.2.2.2.2.1.2.2.2.1, X.2.2.2.2.2.1.2.2.2.2.1, ((-(X.2.2.2.2.2.1.2.2.2.2.2.1 - 1)) / 2), X.2.2.2.2.2.1.2.2.2.2.2.2.1, (X.2.2.2.2.2.1.2.2.2.2.2.2.2.1 + 1), X.2.2.2.2.2.1.2.2.2.2.2.2.2.2), X.2.2.2.2.2.2))))
    else (0, (X.1, X.2.1, X.2.2.1, X.2.2.2.1, X.2.2.2.2.1, (X.2.2.2.2.2.1.1, X.2.2.2.2.2.1.2.1, (X.2.2.2.2.2.1.2.2.1 + X.2.2.2.2.2.1.2.2.2.2.2.1), X.2.2.2.2.2.1.2.2.2.1, X.2.2.2.2.2.1.2.2.2.2.1, (X.2.2.2.2.2.1.2.2.2.2.2.1 - 1), X.2.2.2.2.2.1.2.2.2.2.2.2), X.2.2.2.2.2.2)))
set_option maxHeartbeats 4000000 in
set_option maxRecDepth 100000 in
theorem mX3_fall (l : Launch) (D : va_G) (cI cJ : ClassId) (b0 b1 b2 b3 b4 b5 b6 : Nat) (X : Mo)  : kCi l D cI cJ yX3_fall (.code yX3_fall cX3_fall 1 (some .int)) { frames := 0, cells := 0, slots := 0, locals := 0 } [.ref b0] (wM cI b0 b1 b2 b3 b4 b5 b6 X) (fX3_fall X).1 (wM cI b0 b1 b2 b3 b4 b5 b6 (fX3_fall X).2) := by
  refine fun sz => k_of (lv := [(0, .ref b0)]) (by decide) sz (by exact Nat.le_of_ble_eq_true rfl) rfl ?_
  intro p e s m args below meth c hsz C
  refine k_aload_n C dX3_fall_0 0 rfl ?_
  refine k_getX3 C 0 16 rfl (by decide) rfl q586 rfl dX3_fall_1 ?_
  refine k_iconst C 2 (by decide) dX3_fall_4 ?_
  refine k_dup2 C rfl rfl dX3_fall_5 ?_
  refine k_iald C 6 rfl vi9_2 (ar9_l2 _) dX3_fall_6 ?_
  refine k_aload_n C dX3_fall_7 0 rfl ?_
  refine k_getX3 C 0 16 rfl (by decide) rfl q586 rfl dX3_fall_8 ?_
  refine k_iconst C 5 (by decide) dX3_fall_11 ?_
  refine k_iald C 6 rfl vi9_5 (ar9_l5 _) dX3_fall_12 ?_
  refine k_iadd C dX3_fall_13 ?_
  refine k_iast C [(b0, cM b1 b2 b3 b4 b5 b6 X.2.2.2.2.2.2), (b1, cA9 cI X.1), (b2, cA2 cI X.2.1), (b3, cA2 cI X.2.2.1), (b4, cA2 cI X.2.2.2.1), (b5, cA2 cI X.2.2.2.2.1), (b6, cA9 cI (X.2.2.2.2.2.1.1, X.2.2.2.2.2.1.2.1, (X.2.2.2.2.2.1.2.2.1 + X.2.2.2.2.2.1.2.2.2.2.2.1), X.2.2.2.2.2.1.2.2.2))] 6 rfl vi9_2 (ar9 (X.2.2.2.2.2.1.1, X.2.2.2.2.2.1.2.1, (X.2.2.2.2.2.1.2.2.1 + X.2.2.2.2.2.1.2.2.2.2.2.1), X.2.2.2.2.2.1.2.2.2)) (ar9_s2 _ _) rfl dX3_fall_14 ?_
  refine k_aload_n C dX3_fall_15 0 rfl ?_
  refine k_getX3 C 0 16 rfl (by decide) rfl q586 rfl dX3_fall_16 ?_
  refine k_iconst C 5 (by decide) dX3_fall_19 ?_
  refine k_dup2 C rfl rfl dX3_fall_20 ?_
  refine k_iald C 6 rfl vi9_5 (ar9_l5 _) dX3_fall_21 ?_
  refine k_iconst C 1 (by decide) dX3_fall_22 ?_
  refine k_isub C dX3_fall_23 ?_
  refine k_iast C [(b0, cM b1 b2 b3 b4 b5 b6 X.2.2.2.2.2.2), (b1, cA9 cI X.1), (b2, cA2 cI X.2.1), (b3, cA2 cI X.2.2.1), (b4, cA2 cI X.2.2.2.1), (b5, cA2 cI X.2.2.2.2.1), (b6, cA9 cI (X.2.2.2.2.2.1.1, X.2.2.2.2.2.1.2.1, (X.2.2.2.2.2.1.2.2.1 + X.2.2.2.2.2.1.2.2.2.2.2.1), X.2.2.2.2.2.1.2.2.2.1, X.2.2.2.2.2.1.2.2.2.2.1, (X.2.2.2.2.2.1.2.2.2.2.2.1 - 1), X.2.2.2.2.2.1.2.2.2.2.2.2))] 6 rfl vi9_5 (ar9 (X.2.2.2.2.2.1.1, X.2.2.2.2.2.1.2.1, (X.2.2.2.2.2.1.2.2.1 + X.2.2.2.2.2.1.2.2.2.2.2.1), X.2.2.2.2.2.1.2.2.2.1, X.2.2.2.2.2.1.2.2.2.2.1, (X.2.2.2.2.2.1.2.2.2.2.2.1 - 1), X.2.2.2.2.2.1.2.2.2.2.2.2)) (ar9_s5 _ _) rfl dX3_fall_24 ?_
  refine k_aload_n C dX3_fall_25 0 rfl ?_
  refine k_getX3 C 0 16 rfl (by decide) rfl q586 rfl dX3_fall_26 ?_
  refine k_iconst C 2 (by decide) dX3_fall_29 ?_
  refine k_iald C 6 rfl vi9_2 (ar9_l2 _) dX3_fall_30 ?_
  refine k_if_gt C 43 (by decide) dX3_fall_31 (fun c1 => ?_) (fun c1 => ?_)
  ·
    refine k_iconst C 0 (by decide) dX3_fall_43 ?_
    have hL : fX3_fall X = (0, (X.1, X.2.1, X.2.2.1, X.2.2.2.1, X.2.2.2.2.1, (X.2.2.2.2.2.1.1, X.2.2.2.2.2.1.2.1, (X.2.2.2.2.2.1.2.2.1 + X.2.2.2.2.2.1.2.2.2.2.2.1), X.2.2.2.2.2.1.2.2.2.1, X.2.2.2.2.2.1.2.2.2.2.1, (X.2.2.2.2.2.1.2.2.2.2.2.1 - 1), X.2.2.2.2.2.1.2.2.2.2.2.2), X.2.2.2.2.2.2)) := by exact (if_pos c1).trans rfl
    exact k_iret C rfl (by rw [hL]) (by rw [hL]) dX3_fall_44
  ·
    refine k_aload_n C dX3_fall_34 0 rfl ?_
    refine k_getX3 C 0 16 rfl (by decide) rfl q586 rfl dX3_fall_35 ?_
    refine k_iconst C 5 (by decide) dX3_fall_38 ?_
    refine k_iald C 6 rfl vi9_5 (ar9_l5 _) dX3_fall_39 ?_
    refine k_if_lt C 45 (by decide) dX3_fall_40 (fun c2 => ?_) (fun c2 => ?_)
    ·
      refine k_aload_n C dX3_fall_45 0 rfl ?_
      refine k_getX3 C 0 16 rfl (by decide) rfl q586 rfl dX3_fall_46 ?_
      refine k_iconst C 2 (by decide) dX3_fall_49 ?_
      refine k_iconst C 0 (by decide) dX3_fall_50 ?_
      refine k_iast C [(b0, cM b1 b2 b3 b4 b5 b6 X.2.2.2.2.2.2), (b1, cA9 cI X.1), (b2, cA2 cI X.2.1), (b3, cA2 cI X.2.2.1), (b4, cA2 cI X.2.2.2.1), (b5, cA2 cI X.2.2.2.2.1), (b6, cA9 cI (X.2.2.2.2.2.1.1, X.2.2.2.2.2.1.2.1, 0, X.2.2.2.2.2.1.2.2.2.1, X.2.2.2.2.2.1.2.2.2.2.1, (X.2.2.2.2.2.1.2.2.2.2.2.1 - 1), X.2.2.2.2.2.1.2.2.2.2.2.2))] 6 rfl vi9_2 (ar9 (X.2.2.2.2.2.1.1, X.2.2.2.2.2.1.2.1, 0, X.2.2.2.2.2.1.2.2.2.1, X.2.2.2.2.2.1.2.2.2.2.1, (X.2.2.2.2.2.1.2.2.2.2.2.1 - 1), X.2.2.2.2.2.1.2.2.2.2.2.2)) (ar9_s2 _ _) rfl dX3_fall_51 ?_
      refine k_aload_n C dX3_fall_52 0 rfl ?_
      refine k_getX3 C 0 16 rfl (by decide) rfl q586 rfl dX3_fall_53 ?_
      refine k_iconst C 5 (by decide) dX3_fall_56 ?_
      refine k_aload_n C dX3_fall_57 0 rfl ?_
      refine k_getX3 C 0 16 rfl (by decide) rfl q586 rfl dX3_fall_58 ?_
      refine k_iconst C 5 (by decide) dX3_fall_61 ?_
      refine k_iald C 6 rfl vi9_5 (ar9_l5 _) dX3_fall_62 ?_
      refine k_ineg C dX3_fall_63 ?_
      refine k_iconst C 2 (by decide) dX3_fall_64 ?_
      refine k_idiv C (by decide) dX3_fall_65 ?_
      refine k_iast C [(b0, cM b1 b2 b3 b4 b5 b6 X.2.2.2.2.2.2), (b1, cA9 cI X.1), (b2, cA2 cI X.2.1), (b3, cA2 cI X.2.2.1), (b4, cA2 cI X.2.2.2.1), (b5, cA2 cI X.2.2.2.2.1), (b6, cA9 cI (X.2.2.2.2.2.1.1, X.2.2.2.2.2.1.2.1, 0, X.2.2.2.2.2.1.2.2.2.1, X.2.2.2.2.2.1.2.2.2.2.1, ((-(X.2.2.2.2.2.1.2.2.2.2.2.1 - 1)) / 2), X.2.2.2.2.2.1.2.2.2.2.2.2))] 6 rfl vi9_5 (ar9 (X.2.2.2.2.2.1.1, X.2.2.2.2.2.1.2.1, 0, X.2.2.2.2.2.1.2.2.2.1, X.2.2.2.2.2.1.2.2.2.2.1, ((-(X.2.2.2.2.2.1.2.2.2.2.2.1 - 1)) / 2), X.2.2.2.2.2.1.2.2.2.2.2.2)) (ar9_s5 _ _) rfl dX3_fall_66 ?_
      refine k_aload_n C dX3_fall_67 0 rfl ?_
      refine k_getX3 C 0 16 rfl (by decide) rfl q586 rfl dX3_fall_68 ?_
      refine k_bipush C 7 (by decide) dX3_fall_71 ?_
      refine k_dup2 C rfl rfl dX3_fall_73 ?_
      refine k_iald C 6 rfl vi9_7 (ar9_l7 _) dX3_fall_74 ?_
      refine k_iconst C 1 (by decide) dX3_fall_75 ?_
      refine k_iadd C dX3_fall_76 ?_
      refine k_iast C [(b0, cM b1 b2 b3 b4 b5 b6 X.2.2.2.2.2.2), (b1, cA9 cI X.1), (b2, cA2 cI X.2.1), (b3, cA2 cI X.2.2.1), (b4, cA2 cI X.2.2.2.1), (b5, cA2 cI X.2.2.2.2.1), (b6, cA9 cI (X.2.2.2.2.2.1.1, X.2.2.2.2.2.1.2.1, 0, X.2.2.2.2.2.1.2.2.2.1, X.2.2.2.2.2.1.2.2.2.2.1, ((-(X.2.2.2.2.2.1.2.2.2.2.2.1 - 1)) / 2), X.2.2.2.2.2.1.2.2.2.2.2.2.1, (X.2.2.2.2.2.1.2.2.2.2.2.2.2.1 + 1), X.2.2.2.2.2.1.2.2.2.2.2.2.2.2))] 6 rfl vi9_7 (ar9 (X.2.2.2.2.2.1.1, X.2.2.2.2.2.1.2.1, 0, X.2.2.2.2.2.1.2.2.2.1, X.2.2.2.2.2.1.2.2.2.2.1, ((-(X.2.2.2.2.2.1.2.2.2.2.2.1 - 1)) / 2), X.2.2.2.2.2.1.2.2.2.2.2.2.1, (X.2.2.2.2.2.1.2.2.2.2.2.2.2.1 + 1), X.2.2.2.2.2.1.2.2.2.2.2.2.2.2)) (ar9_s7 _ _) rfl dX3_fall_77 ?_
      refine k_aload_n C dX3_fall_78 0 rfl ?_
      refine k_getX3 C 0 16 rfl (by decide) rfl q586 rfl dX3_fall_79 ?_
      refine k_bipush C 6 (by decide) dX3_fall_82 ?_
      refine k_iald C 6 rfl vi9_6 (ar9_l6 _) dX3_fall_84 ?_
      refine k_if_ne C 92 (by decide) dX3_fall_85 (fun c3 => ?_) (fun c3 => ?_)
      ·
        refine k_aload_n C dX3_fall_92 0 rfl ?_
        refine k_getX3 C 0 16 rfl (by decide) rfl q586 rfl dX3_fall_93 ?_
        refine k_bipush C 7 (by decide) dX3_fall_96 ?_
        refine k_iald C 6 rfl vi9_7 (ar9_l7 _) dX3_fall_98 ?_
        refine k_iconst C 2 (by decide) dX3_fall_99 ?_
        refine k_icmp_ne C 107 (by decide) dX3_fall_100 (fun c4 => ?_) (fun c4 => ?_)
        ·
          refine k_iconst C 0 (by decide) dX3_fall_107 ?_
          have hL : fX3_fall X = (0, (X.1, X.2.1, X.2.2.1, X.2.2.2.1, X.2.2.2.2.1, (X.2.2.2.2.2.1.1, X.2.2.2.2.2.1.2.1, 0, X.2.2.2.2.2.1.2.2.2.1, X.2.2.2.2.2.1.2.2.2.2.1, ((-(X.2.2.2.2.2.1.2.2.2.2.2.1 - 1)) / 2), X.2.2.2.2.2.1.2.2.2.2.2.2.1, (X.2.2.2.2.2.1.2.2.2.2.2.2.2.1 + 1), X.2.2.2.2.2.1.2.2.2.2.2.2.2.2), X.2.2.2.2.2.2)) := by exact (if_neg c1).trans ((if_pos c2).trans ((if_neg c3).trans ((if_neg c4).trans rfl)))
          exact k_iret C rfl (by rw [hL]) (by rw [hL]) dX3_fall_108
        ·
          refine k_iconst C 3 (by decide) dX3_fall_103 ?_
          refine k_goto C 108 (by decide) dX3_fall_104 ?_
          have hL : fX3_fall X = (3, (X.1, X.2.1, X.2.2.1, X.2.2.2.1, X.2.2.2.2.1, (X.2.2.2.2.2.1.1, X.2.2.2.2.2.1.2.1, 0, X.2.2.2.2.2.1.2.2.2.1, X.2.2.2.2.2.1.2.2.2.2.1, ((-(X.2.2.2.2.2.1.2.2.2.2.2.1 - 1)) / 2), X.2.2.2.2.2.1.2.2.2.2.2.2.1, (X.2.2.2.2.2.1.2.2.2.2.2.2.2.1 + 1), X.2.2.2.2.2.1.2.2.2.2.2.2.2.2), X.2.2.2.2.2.2)) := by exact (if_neg c1).trans ((if_pos c2).trans ((if_neg c3).trans ((if_pos c4).trans rfl)))
          exact k_iret C rfl (by rw [hL]) (by rw [hL]) dX3_fall_108
      ·
        refine k_iconst C 1 (by decide) dX3_fall_88 ?_
        refine k_goto C 108 (by decide) dX3_fall_89 ?_
        have hL : fX3_fall X = (1, (X.1, X.2.1, X.2.2.1, X.2.2.2.1, X.2.2.2.2.1, (X.2.2.2.2.2.1.1, X.2.2.2.2.2.1.2.1, 0, X.2.2.2.2.2.1.2.2.2.1, X.2.2.2.2.2.1.2.2.2.2.1, ((-(X.2.2.2.2.2.1.2.2.2.2.2.1 - 1)) / 2), X.2.2.2.2.2.1.2.2.2.2.2.2.1, (X.2.2.2.2.2.1.2.2.2.2.2.2.2.1 + 1), X.2.2.2.2.2.1.2.2.2.2.2.2.2.2), X.2.2.2.2.2.2)) := by exact (if_neg c1).trans ((if_pos c2).trans ((if_pos c3).trans rfl))
        exact k_iret C rfl (by rw [hL]) (by rw [hL]) dX3_fall_108
    ·
      refine k_iconst C 0 (by decide) dX3_fall_43 ?_
      have hL : fX3_fall X = (0, (X.1, X.2.1, X.2.2.1, X.2.2.2.1, X.2.2.2.2.1, (X.2.2.2.2.2.1.1, X.2.2.2.2.2.1.2.1, (X.2.2.2.2.2.1.2.2.1 + X.2.2.2.2.2.1.2.2.2.2.2.1), X.2.2.2.2.2.1.2.2.2.1, X.2.2.2.2.2.1.2.2.2.2.1, (X.2.2.2.2.2.1.2.2.2.2.2.1 - 1), X.2.2.2.2.2.1.2.2.2.2.2.2), X.2.2.2.2.2.2)) := by exact (if_neg c1).trans ((if_neg c2).trans rfl)
      exact k_iret C rfl (by rw [hL]) (by rw [hL]) dX3_fall_44

theorem hdX3_moment : yX3_moment.cls ≠ "java/lang/invoke/MethodHandle" ∧ yX3_moment.cls ≠ "java/lang/invoke/VarHandle" ∧ (parseMethodDescriptor yX3_moment.desc).map (fun d => d.parameters.length) = some 0 := by decide +kernel
noncomputable def fX3_moment (X : Mo) : Int32 × Mo :=
  if (fX3_goAlong (fX3_goAcross (X.1, X.2.1, X.2.2.1, X.2.2.2.1, X.2.2.2.2.1, X.2.2.2.2.2.1, X.2.2.2.2.2.2.1, X.2.2.2.2.2.2.2.1, X.2.2.2.2.2.2.2.2.1, X.2.2.2.2.2.2.2.2.2.1, X.2.2.2.2.2.2.2.2.2.2.1, X.2.2.2.2.2.2.2.2.2.2.2.1, X.2.2.2.2.2.2.2.2.2.2.2.2.1, X.2.2.2.2.2.2.2.2.2.2.2.2.2.1, X.2.2.2.2.2.2.2.2.2.2.2.2.2.2.1, X.2.2.2.2.2.2.2.2.2.2.2.2.2.2.2.1, X.2.2.2.2.2.2.2.2.2.2.2.2.2.2.2.2.1, (X.2.2.2.2.2.2.2.2.2.2.2.2.2.2.2.2.2 + 1)))).1 ≤ 0 then ((fX3_fall (fX3_goAlong (fX3_goAcross (X.1, X.2.1, X.2.2.1, X.2.2.2.1, X.2.2.2.2.1, X.2.2.2.2.2.1, X.2.2.2.2.2.2.1, X.2.2.2.2.2.2.2.1, X.2.2.2.2.2.2.2.2.1, X.2.2.2.2.2.2.2.2.2.1, X.2.2.2.2.2.2.2.2.2.2.1, X.2.2.2.2.2.2.2.2.2.2.2.1, X.2.2.2.2.2.2.2.2.2.2.2.2.1, X.2.2.2.2.2.2.2.2.2.2.2.2.2.1, X.2.2.2.2.2.2.2.2.2.2.2.2.2.2.1, X.2.2.2.2.2.2.2.2.2.2.2.2.2.2.2.1, X.2.2.2.2.2.2.2.2.2.2.2.2.2.2.2.2.1, (X.2.2.2.2.2.2.2.2.2.2.2.2.2.2.2.2.2 + 1)))).2).1, (fX3_fall (fX3_goAlong (fX3_goAcross (X.1, X.2.1, X.2.2.1, X.2.2.2.1, X.2.2.2.2.1, X.2.2.2.2.2.1, X.2.2.2.2.2.2.1, X.2.2.2.2.2.2.2.1, X.2.2.2.2.2.2.2.2.1, X.2.2.2.2.2.2.2.2.2.1, X.2.2.2.2.2.2.2.2.2.2.1, X.2.2.2.2.2.2.2.2.2.2.2.1, X.2.2.2.2.2.2.2.2.2.2.2.2.1, X.2.2.2.2.2.2.2.2.2.2.2.2.2.1, X.2.2.2.2.2.2.2.2.2.2.2.2.2.2.1, X.2.2.2.2.2.2.2.2.2.2.2.2.2.2.2.1, X.2.2.2.2.2.2.2.2.2.2.2.2.2.2.2.2.1, (X.2.2.2.2.2.2.2.2.2.2.2.2.2.2.2.2.2 + 1)))).2).2)
  else ((fX3_goAlong (fX3_goAcross (X.1, X.2.1, X.2.2.1, X.2.2.2.1, X.2.2.2.2.1, X.2.2.2.2.2.1, X.2.2.2.2.2.2.1, X.2.2.2.2.2.2.2.1, X.2.2.2.2.2.2.2.2.1, X.2.2.2.2.2.2.2.2.2.1, X.2.2.2.2.2.2.2.2.2.2.1, X.2.2.2.2.2.2.2.2.2.2.2.1, X.2.2.2.2.2.2.2.2.2.2.2.2.1, X.2.2.2.2.2.2.2.2.2.2.2.2.2.1, X.2.2.2.2.2.2.2.2.2.2.2.2.2.2.1, X.2.2.2.2.2.2.2.2.2.2.2.2.2.2.2.1, X.2.2.2.2.2.2.2.2.2.2.2.2.2.2.2.2.1, (X.2.2.2.2.2.2.2.2.2.2.2.2.2.2.2.2.2 + 1)))).1, (fX3_goAlong (fX3_goAcross (X.1, X.2.1, X.2.2.1, X.2.2.2.1, X.2.2.2.2.1, X.2.2.2.2.2.1, X.2.2.2.2.2.2.1, X.2.2.2.2.2.2.2.1, X.2.2.2.2.2.2.2.2.1, X.2.2.2.2.2.2.2.2.2.1, X.2.2.2.2.2.2.2.2.2.2.1, X.2.2.2.2.2.2.2.2.2.2.2.1, X.2.2.2.2.2.2.2.2.2.2.2.2.1, X.2.2.2.2.2.2.2.2.2.2.2.2.2.1, X.2.2.2.2.2.2.2.2.2.2.2.2.2.2.1, X.2.2.2.2.2.2.2.2.2.2.2.2.2.2.2.1, X.2.2.2.2.2.2.2.2.2.2.2.2.2.2.2.2.1, (X.2.2.2.2.2.2.2.2.2.2.2.2.2.2.2.2.2 + 1)))).2)
set_option maxHeartbeats 4000000 in
set_option maxRecDepth 100000 in
theorem mX3_moment (l : Launch) (D : va_G) (cI cJ : ClassId) (b0 b1 b2 b3 b4 b5 b6 : Nat) (X : Mo)  : kCi l D cI cJ yX3_moment (.code yX3_moment cX3_moment 2 (some .int)) { frames := 3, cells := 0, slots := 0, locals := 66 } [.ref b0] (wM cI b0 b1 b2 b3 b4 b5 b6 X) (fX3_moment X).1 (wM cI b0 b1 b2 b3 b4 b5 b6 (fX3_moment X).2) := by
  refine fun sz => k_of (lv := [(0, .ref b0)]) (by decide) sz (by exact Nat.le_of_ble_eq_true rfl) rfl ?_
  intro p e s m args below meth c hsz C
  refine k_aload_n C dX3_moment_0 0 rfl ?_
  refine k_dup C rfl dX3_moment_1 ?_
  refine k_getX3 C 0 17 rfl (by decide) rfl q587 rfl dX3_moment_2 ?_
  refine k_iconst C 1 (by decide) dX3_moment_5 ?_
  refine k_iadd C dX3_moment_6 ?_
  refine k_putX3 C [(b0, cM b1 b2 b3 b4 b5 b6 (X.2.2.2.2.2.2.1, X.2.2.2.2.2.2.2.1, X.2.2.2.2.2.2.2.2.1, X.2.2.2.2.2.2.2.2.2.1, X.2.2.2.2.2.2.2.2.2.2.1, X.2.2.2.2.2.2.2.2.2.2.2.1, X.2.2.2.2.2.2.2.2.2.2.2.2.1, X.2.2.2.2.2.2.2.2.2.2.2.2.2.1, X.2.2.2.2.2.2.2.2.2.2.2.2.2.2.1, X.2.2.2.2.2.2.2.2.2.2.2.2.2.2.2.1, X.2.2.2.2.2.2.2.2.2.2.2.2.2.2.2.2.1, (X.2.2.2.2.2.2.2.2.2.2.2.2.2.2.2.2.2 + 1))), (b1, cA9 cI X.1), (b2, cA2 cI X.2.1), (b3, cA2 cI X.2.2.1), (b4, cA2 cI X.2.2.2.1), (b5, cA2 cI X.2.2.2.2.1), (b6, cA9 cI X.2.2.2.2.2.1)] 0 17 rfl rfl (by decide) q587 rfl rfl fdI rfl rfl (Nat.le_of_ble_eq_true rfl) dX3_moment_7 ?_
  refine k_aload_n C dX3_moment_10 0 rfl ?_
  refine k_callV_v C (mX3_goAcross l D cI cJ b0 b1 b2 b3 b4 b5 b6 (X.1, X.2.1, X.2.2.1, X.2.2.2.1, X.2.2.2.2.1, X.2.2.2.2.2.1, X.2.2.2.2.2.2.1, X.2.2.2.2.2.2.2.1, X.2.2.2.2.2.2.2.2.1, X.2.2.2.2.2.2.2.2.2.1, X.2.2.2.2.2.2.2.2.2.2.1, X.2.2.2.2.2.2.2.2.2.2.2.1, X.2.2.2.2.2.2.2.2.2.2.2.2.1, X.2.2.2.2.2.2.2.2.2.2.2.2.2.1, X.2.2.2.2.2.2.2.2.2.2.2.2.2.2.1, X.2.2.2.2.2.2.2.2.2.2.2.2.2.2.2.1, X.2.2.2.2.2.2.2.2.2.2.2.2.2.2.2.2.1, (X.2.2.2.2.2.2.2.2.2.2.2.2.2.2.2.2.2 + 1))) (cwV 0 C.2.2.2.2.1 (kGV q680 q682 q41 q61 q683) rfl rfl rfl ⟨rfl, hdX3_goAcross⟩ ⟨Nat.le_of_ble_eq_true rfl, Nat.le_of_ble_eq_true rfl⟩) [0, 1, 2, 3, 4, 5, 6] [] [0, 1, 2, 3, 4, 5, 6] [] (wM cI b0 b1 b2 b3 b4 b5 b6 (fX3_goAcross (X.1, X.2.1, X.2.2.1, X.2.2.2.1, X.2.2.2.2.1, X.2.2.2.2.2.1, X.2.2.2.2.2.2.1, X.2.2.2.2.2.2.2.1, X.2.2.2.2.2.2.2.2.1, X.2.2.2.2.2.2.2.2.2.1, X.2.2.2.2.2.2.2.2.2.2.1, X.2.2.2.2.2.2.2.2.2.2.2.1, X.2.2.2.2.2.2.2.2.2.2.2.2.1, X.2.2.2.2.2.2.2.2.2.2.2.2.2.1, X.2.2.2.2.2.2.2.2.2.2.2.2.2.2.1, X.2.2.2.2.2.2.2.2.2.2.2.2.2.2.2.1, X.2.2.2.2.2.2.2.2.2.2.2.2.2.2.2.2.1, (X.2.2.2.2.2.2.2.2.2.2.2.2.2.2.2.2.2 + 1)))) rfl rfl rfl rfl (by decide) [b0, b1, b2, b3, b4, b5, b6] rfl rfl rfl rfl 0 3 rfl rfl rfl (Nat.le_of_ble_eq_true rfl) ⟨Nat.zero_le _, Nat.zero_le _⟩ rfl dX3_moment_11 ?_
  generalize ez1 : fX3_goAcross (X.1, X.2.1, X.2.2.1, X.2.2.2.1, X.2.2.2.2.1, X.2.2.2.2.2.1, X.2.2.2.2.2.2.1, X.2.2.2.2.2.2.2.1, X.2.2.2.2.2.2.2.2.1, X.2.2.2.2.2.2.2.2.2.1, X.2.2.2.2.2.2.2.2.2.2.1, X.2.2.2.2.2.2.2.2.2.2.2.1, X.2.2.2.2.2.2.2.2.2.2.2.2.1, X.2.2.2.2.2.2.2.2.2.2.2.2.2.1, X.2.2.2.2.2.2.2.2.2.2.2.2.2.2.1, X.2.2.2.2.2.2.2.2.2.2.2.2.2.2.2.1, X.2.2.2.2.2.2.2.2.2.2.2.2.2.2.2.2.1, (X.2.2.2.2.2.2.2.2.2.2.2.2.2.2.2.2.2 + 1)) = z1
  refine k_aload_n C dX3_moment_14 0 rfl ?_
  refine k_callV_i C (mX3_goAlong l D cI cJ b0 b1 b2 b3 b4 b5 b6 z1) (cwV 0 C.2.2.2.2.1 (kGV q691 q693 q42 q61 q694) rfl rfl rfl ⟨rfl, hdX3_goAlong⟩ ⟨Nat.le_of_ble_eq_true rfl, Nat.le_of_ble_eq_true rfl⟩) [0, 1, 2, 3, 4, 5, 6] [] [0, 1, 2, 3, 4, 5, 6] [] (wM cI b0 b1 b2 b3 b4 b5 b6 (fX3_goAlong z1).2) rfl rfl rfl rfl (by decide) [b0, b1, b2, b3, b4, b5, b6] rfl rfl rfl rfl 0 3 rfl rfl rfl (Nat.le_of_ble_eq_true rfl) ⟨Nat.zero_le _, Nat.zero_le _⟩ rfl dX3_moment_15 ?_
  generalize ez2 : fX3_goAlong z1 = z2
  refine k_istore_n C [(1, .int z2.1), (0, .ref b0)] (by decide) rfl dX3_moment_18 ?_
  refine k_iload_n C dX3_moment_19 0 rfl ?_
  refine k_if_le C 27 (by decide) dX3_moment_20 (fun c3 => ?_) (fun c3 => ?_)
  ·
    refine k_aload_n C dX3_moment_27 1 rfl ?_
    refine k_callV_i C (mX3_fall l D cI cJ b0 b1 b2 b3 b4 b5 b6 z2.2) (cwV 0 C.2.2.2.2.1 (kGV q695 q697 q43 q61 q698) rfl rfl rfl ⟨rfl, hdX3_fall⟩ ⟨Nat.le_of_ble_eq_true rfl, Nat.le_of_ble_eq_true rfl⟩) [0, 1, 2, 3, 4, 5, 6] [] [0, 1, 2, 3, 4, 5, 6] [] (wM cI b0 b1 b2 b3 b4 b5 b6 (fX3_fall z2.2).2) rfl rfl rfl rfl (by decide) [b0, b1, b2, b3, b4, b5, b6] rfl rfl rfl rfl 0 3 rfl rfl rfl (Nat.le_of_ble_eq_true rfl) ⟨Nat.zero_le _, Nat.zero_le _⟩ rfl dX3_moment_28 ?_
    generalize ez4 : fX3_fall z2.2 = z4
    have hL : fX3_moment X = (z4.1, z4.2) := by subst ez4; subst ez2; subst ez1; exact (if_pos c3).trans rfl
    exact k_iret C rfl (by rw [hL]) (by rw [hL]) dX3_moment_31
  ·
    refine k_iload_n C dX3_moment_23 0 rfl ?_
    refine k_goto C 31 (by decide) dX3_moment_24 ?_
    have hL : fX3_moment X = (z2.1, z2.2) := by subst ez2; subst ez1; exact (if_neg c3).trans rfl
    exact k_iret C rfl (by rw [hL]) (by rw [hL]) dX3_moment_31

theorem hdX3_look : yX3_look.cls ≠ "java/lang/invoke/MethodHandle" ∧ yX3_look.cls ≠ "java/lang/invoke/VarHandle" ∧ (parseMethodDescriptor yX3_look.desc).map (fun d => d.parameters.length) = some 1 := by decide +kernel
noncomputable def fX3_look (X : Mo) : Mo :=
  (X.1, X.2.1, X.2.2.1, X.2.2.2.1, X.2.2.2.2.1, X.1, X.2.2.2.2.2.2.1, X.2.2.2.2.2.2.2.1, X.2.2.2.2.2.2.2.2.1, X.2.2.2.2.2.2.2.2.2.1, X.2.2.2.2.2.2.2.2.2.2.1, X.2.2.2.2.2.2.2.2.2.2.2.1, X.2.2.2.2.2.2.2.2.2.2.2.2.1, X.2.2.2.2.2.2.2.2.2.2.2.2.2.1, X.2.2.2.2.2.2.2.2.2.2.2.2.2.2.1, X.2.2.2.2.2.2.2.2.2.2.2.2.2.2.2.1, X.2.2.2.2.2.2.2.2.2.2.2.2.2.2.2.2.1, 0)
set_option maxHeartbeats 4000000 in
set_option maxRecDepth 100000 in
theorem mX3_look (l : Launch) (D : va_G) (cI cJ : ClassId) (b0 b1 b2 b3 b4 b5 b6 : Nat) (X : Mo)  : kCv l D cI cJ yX3_look (.code yX3_look cX3_look 2 none) { frames := 1, cells := 0, slots := 0, locals := 40 } [.ref b0, .ref b1] (wM cI b0 b1 b2 b3 b4 b5 b6 X) (wM cI b0 b1 b2 b3 b4 b5 b6 (fX3_look X)) := by
  refine fun sz => k_of (lv := [(0, .ref b0), (1, .ref b1)]) (by decide) sz (by exact Nat.le_of_ble_eq_true rfl) rfl ?_
  intro p e s m args below meth c hsz C
  refine k_aload_n C dX3_look_0 1 rfl ?_
  refine k_iconst C 0 (by decide) dX3_look_1 ?_
  refine k_aload_n C dX3_look_2 0 rfl ?_
  refine k_getX3 C 0 16 rfl (by decide) rfl q586 rfl dX3_look_3 ?_
  refine k_iconst C 0 (by decide) dX3_look_6 ?_
  refine k_bipush C 9 (by decide) dX3_look_7 ?_
  refine k_copy C [(b0, cM b1 b2 b3 b4 b5 b6 X.2.2.2.2.2.2), (b1, cA9 cI X.1), (b2, cA2 cI X.2.1), (b3, cA2 cI X.2.2.1), (b4, cA2 cI X.2.2.2.1), (b5, cA2 cI X.2.2.2.2.1), (b6, cA9 cI X.1)] 1 6 rfl rfl q661 q663 q662 q69 (by decide) (by decide) (by decide) (by decide) (by decide) (Nat.le_of_ble_eq_true rfl) (Nat.le_of_ble_eq_true rfl) (ar9 X.1) (ar9_cp _ _) rfl dX3_look_9 ?_
  refine k_aload_n C dX3_look_12 0 rfl ?_
  refine k_iconst C 0 (by decide) dX3_look_13 ?_
  refine k_putX3 C [(b0, cM b1 b2 b3 b4 b5 b6 (X.2.2.2.2.2.2.1, X.2.2.2.2.2.2.2.1, X.2.2.2.2.2.2.2.2.1, X.2.2.2.2.2.2.2.2.2.1, X.2.2.2.2.2.2.2.2.2.2.1, X.2.2.2.2.2.2.2.2.2.2.2.1, X.2.2.2.2.2.2.2.2.2.2.2.2.1, X.2.2.2.2.2.2.2.2.2.2.2.2.2.1, X.2.2.2.2.2.2.2.2.2.2.2.2.2.2.1, X.2.2.2.2.2.2.2.2.2.2.2.2.2.2.2.1, X.2.2.2.2.2.2.2.2.2.2.2.2.2.2.2.2.1, 0)), (b1, cA9 cI X.1), (b2, cA2 cI X.2.1), (b3, cA2 cI X.2.2.1), (b4, cA2 cI X.2.2.2.1), (b5, cA2 cI X.2.2.2.2.1), (b6, cA9 cI X.1)] 0 17 rfl rfl (by decide) q587 rfl rfl fdI rfl rfl (Nat.le_of_ble_eq_true rfl) dX3_look_14 ?_
  have hL : fX3_look X = (X.1, X.2.1, X.2.2.1, X.2.2.2.1, X.2.2.2.2.1, X.1, X.2.2.2.2.2.2.1, X.2.2.2.2.2.2.2.1, X.2.2.2.2.2.2.2.2.1, X.2.2.2.2.2.2.2.2.2.1, X.2.2.2.2.2.2.2.2.2.2.1, X.2.2.2.2.2.2.2.2.2.2.2.1, X.2.2.2.2.2.2.2.2.2.2.2.2.1, X.2.2.2.2.2.2.2.2.2.2.2.2.2.1, X.2.2.2.2.2.2.2.2.2.2.2.2.2.2.1, X.2.2.2.2.2.2.2.2.2.2.2.2.2.2.2.1, X.2.2.2.2.2.2.2.2.2.2.2.2.2.2.2.2.1, 0) := by exact rfl
  exact k_vret C rfl (by rw [hL]) dX3_look_17

theorem hdX3_flyOn : yX3_flyOn.cls ≠ "java/lang/invoke/MethodHandle" ∧ yX3_flyOn.cls ≠ "java/lang/invoke/VarHandle" ∧ (parseMethodDescriptor yX3_flyOn.desc).map (fun d => d.parameters.length) = some 1 := by decide +kernel
noncomputable def LX3_flyOn (n : Nat) (p0 : Int32) (i0 : Int32) (X : Mo) : Option (Int32 × Mo) := match n with
  | 0 => none
  | n + 1 =>
    if p0 ≤ i0 then some (0, X)
    else (if (fX3_moment X).1 ≤ 0 then LX3_flyOn n p0 (i0 + 1) (fX3_moment X).2
      else some ((fX3_moment X).1, (fX3_moment X).2))
set_option maxHeartbeats 4000000 in
set_option maxRecDepth 100000 in
theorem lX3_flyOn {p : Program} {e : Env} {s : State} {m : MethodId} {args : Array Value} {below : List Frame} {meth : Method} {c : Code} {A : Nat → Prop} (l : Launch) {D : va_G} {cI cJ : ClassId} (b0 b1 b2 b3 b4 b5 b6 : Nat) (p0 : Int32) (C : kCx p s m args meth c RX3 cX3_flyOn 4 (some .int) D cI cJ A) : ∀ (n : Nat), ∀ (i0 : Int32) (X : Mo) (res : Int32 × Mo), LX3_flyOn n p0 i0 X = some res → kW p l e { frames := 4, cells := 0, slots := 0, locals := 87 } s m args below meth c D A 4 0 0 (MQ below (va_Qi (fun (r : Int32) (_ : Unit) => r = res.1) (fun _ t => va_P D kCl (wM cI b0 b1 b2 b3 b4 b5 b6 res.2) t.heap) A) args s 0 0 A) (wM cI b0 b1 b2 b3 b4 b5 b6 X) 10 [(0, .ref b0), (1, .int p0), (2, .int i0)] [] := by
  intro n
  induction n with
  | zero => intro i0 X res hr; exact absurd hr (fun h => nomatch h)
  | succ n ih =>
    intro i0 X res hr
    refine k_iload_n C dX3_flyOn_10 2 rfl ?_
    refine k_iload_n C dX3_flyOn_11 1 rfl ?_
    refine k_icmp_ge C 32 (by decide) dX3_flyOn_12 (fun c2 => ?_) (fun c2 => ?_)
    ·
      refine k_iconst C 0 (by decide) dX3_flyOn_32 ?_
      have hL : LX3_flyOn (n + 1) p0 i0 X = some (0, X) := by exact (if_pos c2).trans rfl
      obtain rfl := Option.some.inj (hL.symm.trans hr)
      exact k_iret C rfl rfl rfl dX3_flyOn_33
    ·
      refine k_aload_n C dX3_flyOn_15 0 rfl ?_
      refine k_callV_i C (mX3_moment l D cI cJ b0 b1 b2 b3 b4 b5 b6 X) (cwV 0 C.2.2.2.2.1 (kGV q676 q678 q40 q61 q679) rfl rfl rfl ⟨rfl, hdX3_moment⟩ ⟨Nat.le_of_ble_eq_true rfl, Nat.le_of_ble_eq_true rfl⟩) [0, 1, 2, 3, 4, 5, 6] [] [0, 1, 2, 3, 4, 5, 6] [] (wM cI b0 b1 b2 b3 b4 b5 b6 (fX3_moment X).2) rfl rfl rfl rfl (by decide) [b0, b1, b2, b3, b4, b5, b6] rfl rfl rfl rfl 0 3 rfl rfl rfl (Nat.le_of_ble_eq_true rfl) ⟨Nat.zero_le _, Nat.zero_le _⟩ rfl dX3_flyOn_16 ?_
      generalize ez3 : fX3_moment X = z3
      refine k_istore_n C [(3, .int z3.1), (0, .ref b0), (1, .int p0), (2, .int i0)] (by decide) rfl dX3_flyOn_19 ?_
      refine k_iload_n C dX3_flyOn_20 0 rfl ?_
      refine k_if_le C 26 (by decide) dX3_flyOn_21 (fun c4 => ?_) (fun c4 => ?_)
      ·
        refine k_iinc C (i0 + 1) [(2, .int (i0 + 1)), (3, .int z3.1), (0, .ref b0), (1, .int p0)] 3 rfl rfl (by decide) rfl dX3_flyOn_26 ?_
        refine k_goto C 10 (by decide) dX3_flyOn_29 ?_
        have hL : LX3_flyOn (n + 1) p0 i0 X = LX3_flyOn n p0 (i0 + 1) z3.2 := by subst ez3; exact (if_neg c2).trans ((if_pos c4).trans rfl)
        refine k_sub [2, 3, 0] rfl ?_
        exact ih (i0 + 1) z3.2 res (hL.symm.trans hr)
      ·
        refine k_iload_n C dX3_flyOn_24 0 rfl ?_
        have hL : LX3_flyOn (n + 1) p0 i0 X = some (z3.1, z3.2) := by subst ez3; exact (if_neg c2).trans ((if_neg c4).trans rfl)
        obtain rfl := Option.some.inj (hL.symm.trans hr)
        exact k_iret C rfl rfl rfl dX3_flyOn_25
noncomputable def FX3_flyOn (p0 : Int32) (X : Mo) : Option (Int32 × Mo) :=
  LX3_flyOn 2147483649 p0 0 (fX3_look X)
set_option maxHeartbeats 4000000 in
set_option maxRecDepth 100000 in
theorem moX3_flyOn (l : Launch) (D : va_G) (cI cJ : ClassId) (b0 b1 b2 b3 b4 b5 b6 : Nat) (p0 : Int32) (X : Mo) (res : Int32 × Mo) (hr : FX3_flyOn p0 X = some res) : kCi l D cI cJ yX3_flyOn (.code yX3_flyOn cX3_flyOn 4 (some .int)) { frames := 4, cells := 0, slots := 0, locals := 87 } [.ref b0, .int p0] (wM cI b0 b1 b2 b3 b4 b5 b6 X) res.1 (wM cI b0 b1 b2 b3 b4 b5 b6 res.2) := by
  refine fun sz => k_of (lv := [(0, .ref b0), (1, .int p0)]) (by decide) sz (Nat.le_of_ble_eq_true rfl) rfl ?_
  intro p e s m args below meth c hsz C
  refine k_aload_n C dX3_flyOn_0 0 rfl ?_
  refine k_aload_n C dX3_flyOn_1 0 rfl ?_
  refine k_getX3 C 0 5 rfl (by decide) rfl q575 rfl dX3_flyOn_2 ?_
  refine k_callV_v C (mX3_look l D cI cJ b0 b1 b2 b3 b4 b5 b6 X) (cwV 1 C.2.2.2.2.1 (kGV q672 q674 q39 q61 q675) rfl rfl rfl ⟨rfl, hdX3_look⟩ ⟨Nat.le_of_ble_eq_true rfl, Nat.le_of_ble_eq_true rfl⟩) [0, 1, 2, 3, 4, 5, 6] [] [0, 1, 2, 3, 4, 5, 6] [] (wM cI b0 b1 b2 b3 b4 b5 b6 (fX3_look X)) rfl rfl rfl rfl (by decide) [b0, b1, b2, b3, b4, b5, b6] rfl rfl rfl rfl 0 3 rfl rfl rfl (Nat.le_of_ble_eq_true rfl) ⟨Nat.zero_le _, Nat.zero_le _⟩ rfl dX3_flyOn_5 ?_
  generalize ez1 : fX3_look X = z1
  refine k_iconst C 0 (by decide) dX3_flyOn_8 ?_
  refine k_istore_n C [(2, .int 0), (0, .ref b0), (1, .int p0)] (by decide) rfl dX3_flyOn_9 ?_
  have hL : FX3_flyOn p0 X = LX3_flyOn 2147483649 p0 0 z1 := by subst ez1; exact rfl
  refine k_sub [1, 2, 0] rfl ?_
  exact (lX3_flyOn l b0 b1 b2 b3 b4 b5 b6 p0 C 2147483649) 0 z1 res (hL.symm.trans hr)

theorem tX3_flyOn : ∀ (n : Nat) (p0 i0 : Int32) (X : Mo), (p0.toInt - i0.toInt).toNat < n → (LX3_flyOn n p0 i0 X).isSome = true := by
  intro n
  induction n with
  | zero => intro n0 i0 b h; exact absurd h (Nat.not_lt_zero _)
  | succ n ih =>
    intro n0 i0 b h
    unfold LX3_flyOn
    by_cases c : n0 ≤ i0
    · rw [if_pos c]; rfl
    · rw [if_neg c]
      have hs := kinc c h
      (repeat' split) <;> first | rfl | exact ih _ _ _ hs
noncomputable def fX3_flyOn (p0 : Int32) (X : Mo) : Int32 × Mo := @Classical.epsilon (Int32 × Mo) ⟨(0, X)⟩ (fun r => FX3_flyOn p0 X = some r)
theorem mX3_flyOn (l : Launch) (D : va_G) (cI cJ : ClassId) (b0 b1 b2 b3 b4 b5 b6 : Nat) (p0 : Int32) (X : Mo)  : kCi l D cI cJ yX3_flyOn (.code yX3_flyOn cX3_flyOn 4 (some .int)) { frames := 4, cells := 0, slots := 0, locals := 87 } [.ref b0, .int p0] (wM cI b0 b1 b2 b3 b4 b5 b6 X) (fX3_flyOn p0 X).1 (wM cI b0 b1 b2 b3 b4 b5 b6 (fX3_flyOn p0 X).2) :=
  moX3_flyOn l D cI cJ b0 b1 b2 b3 b4 b5 b6 p0 X _ (kSome ((0, X)) (tX3_flyOn _ _ _ _ (kfuel _ _ rfl)))
