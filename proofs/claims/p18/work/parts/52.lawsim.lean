/-! the match by hand -/
theorem hdX4_winner : yX4_winner.cls ≠ "java/lang/invoke/MethodHandle" ∧ yX4_winner.cls ≠ "java/lang/invoke/VarHandle" ∧ (parseMethodDescriptor yX4_winner.desc).map (fun d => d.parameters.length) = some 0 := by decide +kernel
noncomputable def fX4_winner (X : Zs) : Int32 :=
  if X.1.2.1 ≤ 2 then (if X.2.1.2.1 ≤ 2 then (-1)
    else 1)
  else 0
set_option maxHeartbeats 4000000 in
set_option maxRecDepth 100000 in
theorem mX4_winner (l : Launch) (D : va_G) (cI cJ : ClassId) (z0 z1 z2 z3 : Nat) (bf : Value) (X : Zs)  : kCi l D cI cJ yX4_winner (.code yX4_winner cX4_winner 1 (some .int)) { frames := 0, cells := 0, slots := 0, locals := 0 } [.ref z0] [(z0, cZ bf z1 X.2.2), (z1, cQ cJ z2 z3), (z2, cA4 cI X.1), (z3, cA4 cI X.2.1)] (fX4_winner X) [(z0, cZ bf z1 X.2.2), (z1, cQ cJ z2 z3), (z2, cA4 cI X.1), (z3, cA4 cI X.2.1)] := by
  refine fun sz => k_of (lv := [(0, .ref z0)]) (by decide) sz (by exact Nat.le_of_ble_eq_true rfl) rfl ?_
  intro p e s m args below meth c hsz C
  refine k_aload_n C dX4_winner_0 0 rfl ?_
  refine k_getX4 C 0 4 rfl (by decide) rfl q428 rfl dX4_winner_1 ?_
  refine k_iconst C 0 (by decide) dX4_winner_4 ?_
  refine k_aald C 1 rfl vi2_0 (fq_l0 _ _) dX4_winner_5 ?_
  refine k_iconst C 1 (by decide) dX4_winner_6 ?_
  refine k_iald C 2 rfl vi4_1 (ar4_l1 _) dX4_winner_7 ?_
  refine k_iconst C 2 (by decide) dX4_winner_8 ?_
  refine k_icmp_le C 16 (by decide) dX4_winner_9 (fun c1 => ?_) (fun c1 => ?_)
  ·
    refine k_aload_n C dX4_winner_16 0 rfl ?_
    refine k_getX4 C 0 4 rfl (by decide) rfl q428 rfl dX4_winner_17 ?_
    refine k_iconst C 1 (by decide) dX4_winner_20 ?_
    refine k_aald C 1 rfl vi2_1 (fq_l1 _ _) dX4_winner_21 ?_
    refine k_iconst C 1 (by decide) dX4_winner_22 ?_
    refine k_iald C 3 rfl vi4_1 (ar4_l1 _) dX4_winner_23 ?_
    refine k_iconst C 2 (by decide) dX4_winner_24 ?_
    refine k_icmp_le C 32 (by decide) dX4_winner_25 (fun c2 => ?_) (fun c2 => ?_)
    ·
      refine k_iconst C (-1) (by decide) dX4_winner_32 ?_
      have hL : fX4_winner X = (-1) := by exact (if_pos c1).trans ((if_pos c2).trans rfl)
      exact k_iret C rfl (hL.symm) rfl dX4_winner_33
    ·
      refine k_iconst C 1 (by decide) dX4_winner_28 ?_
      refine k_goto C 33 (by decide) dX4_winner_29 ?_
      have hL : fX4_winner X = 1 := by exact (if_pos c1).trans ((if_neg c2).trans rfl)
      exact k_iret C rfl (hL.symm) rfl dX4_winner_33
  ·
    refine k_iconst C 0 (by decide) dX4_winner_12 ?_
    refine k_goto C 33 (by decide) dX4_winner_13 ?_
    have hL : fX4_winner X = 0 := by exact (if_neg c1).trans rfl
    exact k_iret C rfl (hL.symm) rfl dX4_winner_33

theorem hdX4_canSet : yX4_canSet.cls ≠ "java/lang/invoke/MethodHandle" ∧ yX4_canSet.cls ≠ "java/lang/invoke/VarHandle" ∧ (parseMethodDescriptor yX4_canSet.desc).map (fun d => d.parameters.length) = some 0 := by decide +kernel
noncomputable def fX4_canSet_n (X : Zs) : Int32 :=
  if X.2.2.2.2.2.2.2.2.2.1 = 0 then (if X.1.1 = X.2.1.1 then (if X.1.1 = 10 then 1
      else (if X.1.1 = 11 then 1
        else 0))
    else 0)
  else 0
set_option maxHeartbeats 4000000 in
set_option maxRecDepth 100000 in
theorem mX4_canSet_n (l : Launch) (D : va_G) (cI cJ : ClassId) (z0 z1 z2 z3 : Nat) (X : Zs)  : kCi l D cI cJ yX4_canSet (.code yX4_canSet cX4_canSet 1 (some .boolean)) { frames := 0, cells := 0, slots := 0, locals := 0 } [.ref z0] [(z0, cZ .null z1 X.2.2), (z1, cQ cJ z2 z3), (z2, cA4 cI X.1), (z3, cA4 cI X.2.1)] (fX4_canSet_n X) [(z0, cZ .null z1 X.2.2), (z1, cQ cJ z2 z3), (z2, cA4 cI X.1), (z3, cA4 cI X.2.1)] := by
  refine fun sz => k_of (lv := [(0, .ref z0)]) (by decide) sz (by exact Nat.le_of_ble_eq_true rfl) rfl ?_
  intro p e s m args below meth c hsz C
  refine k_aload_n C dX4_canSet_0 0 rfl ?_
  refine k_getX4 C 0 3 rfl (by decide) rfl q426 rfl dX4_canSet_1 ?_
  refine k_ifnonnullN C dX4_canSet_4 ?_
  refine k_aload_n C dX4_canSet_7 0 rfl ?_
  refine k_getX4 C 0 9 rfl (by decide) rfl q435 rfl dX4_canSet_8 ?_
  refine k_if_ne C 63 (by decide) dX4_canSet_11 (fun c1 => ?_) (fun c1 => ?_)
  ·
    refine k_iconst C 0 (by decide) dX4_canSet_63 ?_
    have hL : fX4_canSet_n X = 0 := by exact (if_neg c1).trans rfl
    exact k_zret C rfl rfl (hL.symm) rfl dX4_canSet_64
  ·
    refine k_aload_n C dX4_canSet_14 0 rfl ?_
    refine k_getX4 C 0 4 rfl (by decide) rfl q428 rfl dX4_canSet_15 ?_
    refine k_iconst C 0 (by decide) dX4_canSet_18 ?_
    refine k_aald C 1 rfl vi2_0 (fq_l0 _ _) dX4_canSet_19 ?_
    refine k_iconst C 0 (by decide) dX4_canSet_20 ?_
    refine k_iald C 2 rfl vi4_0 (ar4_l0 _) dX4_canSet_21 ?_
    refine k_aload_n C dX4_canSet_22 0 rfl ?_
    refine k_getX4 C 0 4 rfl (by decide) rfl q428 rfl dX4_canSet_23 ?_
    refine k_iconst C 1 (by decide) dX4_canSet_26 ?_
    refine k_aald C 1 rfl vi2_1 (fq_l1 _ _) dX4_canSet_27 ?_
    refine k_iconst C 0 (by decide) dX4_canSet_28 ?_
    refine k_iald C 3 rfl vi4_0 (ar4_l0 _) dX4_canSet_29 ?_
    refine k_icmp_ne C 63 (by decide) dX4_canSet_30 (fun c2 => ?_) (fun c2 => ?_)
    ·
      refine k_iconst C 0 (by decide) dX4_canSet_63 ?_
      have hL : fX4_canSet_n X = 0 := by exact (if_pos c1).trans ((if_neg c2).trans rfl)
      exact k_zret C rfl rfl (hL.symm) rfl dX4_canSet_64
    ·
      refine k_aload_n C dX4_canSet_33 0 rfl ?_
      refine k_getX4 C 0 4 rfl (by decide) rfl q428 rfl dX4_canSet_34 ?_
      refine k_iconst C 0 (by decide) dX4_canSet_37 ?_
      refine k_aald C 1 rfl vi2_0 (fq_l0 _ _) dX4_canSet_38 ?_
      refine k_iconst C 0 (by decide) dX4_canSet_39 ?_
      refine k_iald C 2 rfl vi4_0 (ar4_l0 _) dX4_canSet_40 ?_
      refine k_bipush C 10 (by decide) dX4_canSet_41 ?_
      refine k_icmp_eq C 59 (by decide) dX4_canSet_43 (fun c3 => ?_) (fun c3 => ?_)
      ·
        refine k_iconst C 1 (by decide) dX4_canSet_59 ?_
        refine k_goto C 64 (by decide) dX4_canSet_60 ?_
        have hL : fX4_canSet_n X = 1 := by exact (if_pos c1).trans ((if_pos c2).trans ((if_pos c3).trans rfl))
        exact k_zret C rfl rfl (hL.symm) rfl dX4_canSet_64
      ·
        refine k_aload_n C dX4_canSet_46 0 rfl ?_
        refine k_getX4 C 0 4 rfl (by decide) rfl q428 rfl dX4_canSet_47 ?_
        refine k_iconst C 0 (by decide) dX4_canSet_50 ?_
        refine k_aald C 1 rfl vi2_0 (fq_l0 _ _) dX4_canSet_51 ?_
        refine k_iconst C 0 (by decide) dX4_canSet_52 ?_
        refine k_iald C 2 rfl vi4_0 (ar4_l0 _) dX4_canSet_53 ?_
        refine k_bipush C 11 (by decide) dX4_canSet_54 ?_
        refine k_icmp_ne C 63 (by decide) dX4_canSet_56 (fun c4 => ?_) (fun c4 => ?_)
        ·
          refine k_iconst C 0 (by decide) dX4_canSet_63 ?_
          have hL : fX4_canSet_n X = 0 := by exact (if_pos c1).trans ((if_pos c2).trans ((if_neg c3).trans ((if_neg c4).trans rfl)))
          exact k_zret C rfl rfl (hL.symm) rfl dX4_canSet_64
        ·
          refine k_iconst C 1 (by decide) dX4_canSet_59 ?_
          refine k_goto C 64 (by decide) dX4_canSet_60 ?_
          have hL : fX4_canSet_n X = 1 := by exact (if_pos c1).trans ((if_pos c2).trans ((if_neg c3).trans ((if_pos c4).trans rfl)))
          exact k_zret C rfl rfl (hL.symm) rfl dX4_canSet_64

noncomputable def fX4_canSet_r (X : Zs) (b : Lb) : Int32 :=
  0
set_option maxHeartbeats 4000000 in
set_option maxRecDepth 100000 in
theorem mX4_canSet_r (l : Launch) (D : va_G) (cI cJ : ClassId) (z0 z1 z2 z3 z4 : Nat) (X : Zs) (b : Lb)  : kCi l D cI cJ yX4_canSet (.code yX4_canSet cX4_canSet 1 (some .boolean)) { frames := 0, cells := 0, slots := 0, locals := 0 } [.ref z0] [(z0, cZ (.ref z4) z1 X.2.2), (z1, cQ cJ z2 z3), (z2, cA4 cI X.1), (z3, cA4 cI X.2.1), (z4, cL b)] (fX4_canSet_r X b) [(z0, cZ (.ref z4) z1 X.2.2), (z1, cQ cJ z2 z3), (z2, cA4 cI X.1), (z3, cA4 cI X.2.1), (z4, cL b)] := by
  refine fun sz => k_of (lv := [(0, .ref z0)]) (by decide) sz (by exact Nat.le_of_ble_eq_true rfl) rfl ?_
  intro p e s m args below meth c hsz C
  refine k_aload_n C dX4_canSet_0 0 rfl ?_
  refine k_getX4 C 0 3 rfl (by decide) rfl q426 rfl dX4_canSet_1 ?_
  refine k_ifnonnull C 63 (by decide) dX4_canSet_4 ?_
  refine k_iconst C 0 (by decide) dX4_canSet_63 ?_
  have hL : fX4_canSet_r X b = 0 := by exact rfl
  exact k_zret C rfl rfl (hL.symm) rfl dX4_canSet_64

theorem hdX4_let : yX4_let.cls ≠ "java/lang/invoke/MethodHandle" ∧ yX4_let.cls ≠ "java/lang/invoke/VarHandle" ∧ (parseMethodDescriptor yX4_let.desc).map (fun d => d.parameters.length) = some 0 := by decide +kernel
noncomputable def fX4_let (X : Zs) : Int32 × Zs :=
  (X.2.2.2.2.1, (X.1, X.2.1, X.2.2.1, (-1), X.2.2.2.2.1, X.2.2.2.2.2.1, (X.2.2.2.2.2.2.1 + 1), X.2.2.2.2.2.2.2))
set_option maxHeartbeats 4000000 in
set_option maxRecDepth 100000 in
theorem mX4_let (l : Launch) (D : va_G) (cI cJ : ClassId) (z0 z1 z2 z3 : Nat) (bf : Value) (X : Zs)  : kCi l D cI cJ yX4_let (.code yX4_let cX4_let 1 (some .int)) { frames := 0, cells := 0, slots := 0, locals := 0 } [.ref z0] [(z0, cZ bf z1 X.2.2), (z1, cQ cJ z2 z3), (z2, cA4 cI X.1), (z3, cA4 cI X.2.1)] (fX4_let X).1 (wZ cI cJ z0 z1 z2 z3 .null (fX4_let X).2) := by
  refine fun sz => k_of (lv := [(0, .ref z0)]) (by decide) sz (by exact Nat.le_of_ble_eq_true rfl) rfl ?_
  intro p e s m args below meth c hsz C
  refine k_aload_n C dX4_let_0 0 rfl ?_
  refine k_null C dX4_let_1 ?_
  refine k_putX4 C [(z0, cZ .null z1 X.2.2), (z1, cQ cJ z2 z3), (z2, cA4 cI X.1), (z3, cA4 cI X.2.1)] 0 3 rfl rfl (by decide) q426 rfl rfl fdB rfl rfl (Nat.le_of_ble_eq_true rfl) dX4_let_2 ?_
  refine k_aload_n C dX4_let_5 0 rfl ?_
  refine k_iconst C (-1) (by decide) dX4_let_6 ?_
  refine k_putX4 C [(z0, cZ .null z1 (X.2.2.1, (-1), X.2.2.2.2)), (z1, cQ cJ z2 z3), (z2, cA4 cI X.1), (z3, cA4 cI X.2.1)] 0 1 rfl rfl (by decide) q424 rfl rfl fdI rfl rfl (Nat.le_of_ble_eq_true rfl) dX4_let_7 ?_
  refine k_aload_n C dX4_let_10 0 rfl ?_
  refine k_dup C rfl dX4_let_11 ?_
  refine k_getX4 C 0 6 rfl (by decide) rfl q431 rfl dX4_let_12 ?_
  refine k_iconst C 1 (by decide) dX4_let_15 ?_
  refine k_iadd C dX4_let_16 ?_
  refine k_putX4 C [(z0, cZ .null z1 (X.2.2.1, (-1), X.2.2.2.2.1, X.2.2.2.2.2.1, (X.2.2.2.2.2.2.1 + 1), X.2.2.2.2.2.2.2)), (z1, cQ cJ z2 z3), (z2, cA4 cI X.1), (z3, cA4 cI X.2.1)] 0 6 rfl rfl (by decide) q431 rfl rfl fdI rfl rfl (Nat.le_of_ble_eq_true rfl) dX4_let_17 ?_
  refine k_aload_n C dX4_let_20 0 rfl ?_
  refine k_getX4 C 0 2 rfl (by decide) rfl q425 rfl dX4_let_21 ?_
  have hL : fX4_let X = (X.2.2.2.2.1, (X.1, X.2.1, X.2.2.1, (-1), X.2.2.2.2.1, X.2.2.2.2.2.1, (X.2.2.2.2.2.2.1 + 1), X.2.2.2.2.2.2.2)) := by exact rfl
  exact k_iret C rfl (by rw [hL]) (by rw [hL]) dX4_let_24

theorem hdX4_over : yX4_over.cls ≠ "java/lang/invoke/MethodHandle" ∧ yX4_over.cls ≠ "java/lang/invoke/VarHandle" ∧ (parseMethodDescriptor yX4_over.desc).map (fun d => d.parameters.length) = some 1 := by decide +kernel
noncomputable def fX4_over_0 (X : Zs) : Int32 × Zs :=
  if X.2.2.1 = 0 then (if (X.1.1 + 1) < X.2.2.2.2.2.2.2.2.1 then (2, (((X.1.1 + 1), X.1.2.1, (X.1.2.2.1 + 1), X.1.2.2.2), X.2.1, 0, (-1), X.2.2.2.2.1, (X.2.2.2.2.2.1 + 1), X.2.2.2.2.2.2.1, X.2.2.2.2.2.2.2.1, X.2.2.2.2.2.2.2.2.1, X.2.2.2.2.2.2.2.2.2.1, (X.2.2.2.2.2.2.2.2.2.2 + X.2.2.2.2.1)))
    else (2, ((0, (X.1.2.1 + 1), (X.1.2.2.1 + 1), X.1.2.2.2), (0, X.2.1.2), 0, (-1), X.2.2.2.2.1, (X.2.2.2.2.2.1 + 1), X.2.2.2.2.2.2.1, (X.2.2.2.2.2.2.2.1 + 1), 12, 0, (X.2.2.2.2.2.2.2.2.2.2 + X.2.2.2.2.1))))
  else (if X.1.1 < X.2.2.2.2.2.2.2.2.1 then (2, ((X.1.1, X.1.2.1, (X.1.2.2.1 + 1), X.1.2.2.2), X.2.1, 0, (-1), X.2.2.2.2.1, (X.2.2.2.2.2.1 + 1), X.2.2.2.2.2.2.1, X.2.2.2.2.2.2.2.1, X.2.2.2.2.2.2.2.2.1, X.2.2.2.2.2.2.2.2.2.1, (X.2.2.2.2.2.2.2.2.2.2 + X.2.2.2.2.1)))
    else (2, ((0, (X.1.2.1 + 1), (X.1.2.2.1 + 1), X.1.2.2.2), (0, X.2.1.2), 0, (-1), X.2.2.2.2.1, (X.2.2.2.2.2.1 + 1), X.2.2.2.2.2.2.1, (X.2.2.2.2.2.2.2.1 + 1), 12, 0, (X.2.2.2.2.2.2.2.2.2.2 + X.2.2.2.2.1))))
set_option maxHeartbeats 4000000 in
set_option maxRecDepth 100000 in
theorem mX4_over_0 (l : Launch) (D : va_G) (cI cJ : ClassId) (z0 z1 z2 z3 : Nat) (bf : Value) (X : Zs)  : kCi l D cI cJ yX4_over (.code yX4_over cX4_over 3 (some .int)) { frames := 0, cells := 0, slots := 0, locals := 0 } [.ref z0, .int 0] [(z0, cZ bf z1 X.2.2), (z1, cQ cJ z2 z3), (z2, cA4 cI X.1), (z3, cA4 cI X.2.1)] (fX4_over_0 X).1 (wZ cI cJ z0 z1 z2 z3 .null (fX4_over_0 X).2) := by
  refine fun sz => k_of (lv := [(0, .ref z0), (1, .int 0)]) (by decide) sz (by exact Nat.le_of_ble_eq_true rfl) rfl ?_
  intro p e s m args below meth c hsz C
  refine k_aload_n C dX4_over_0 0 rfl ?_
  refine k_null C dX4_over_1 ?_
  refine k_putX4 C [(z0, cZ .null z1 X.2.2), (z1, cQ cJ z2 z3), (z2, cA4 cI X.1), (z3, cA4 cI X.2.1)] 0 3 rfl rfl (by decide) q426 rfl rfl fdB rfl rfl (Nat.le_of_ble_eq_true rfl) dX4_over_2 ?_
  refine k_aload_n C dX4_over_5 0 rfl ?_
  refine k_iconst C (-1) (by decide) dX4_over_6 ?_
  refine k_putX4 C [(z0, cZ .null z1 (X.2.2.1, (-1), X.2.2.2.2)), (z1, cQ cJ z2 z3), (z2, cA4 cI X.1), (z3, cA4 cI X.2.1)] 0 1 rfl rfl (by decide) q424 rfl rfl fdI rfl rfl (Nat.le_of_ble_eq_true rfl) dX4_over_7 ?_
  refine k_aload_n C dX4_over_10 0 rfl ?_
  refine k_getX4 C 0 4 rfl (by decide) rfl q428 rfl dX4_over_11 ?_
  refine k_iload_n C dX4_over_14 1 rfl ?_
  refine k_aald C 1 rfl vi2_0 (fq_l0 _ _) dX4_over_15 ?_
  refine k_astore_n C [(2, .ref z2), (0, .ref z0), (1, .int 0)] (by decide) rfl dX4_over_16 ?_
  refine k_aload_n C dX4_over_17 0 rfl ?_
  refine k_iconst C 2 (by decide) dX4_over_18 ?_
  refine k_dup2 C rfl rfl dX4_over_19 ?_
  refine k_iald C 2 rfl vi4_2 (ar4_l2 _) dX4_over_20 ?_
  refine k_iconst C 1 (by decide) dX4_over_21 ?_
  refine k_iadd C dX4_over_22 ?_
  refine k_iast C [(z0, cZ .null z1 (X.2.2.1, (-1), X.2.2.2.2)), (z1, cQ cJ z2 z3), (z2, cA4 cI (X.1.1, X.1.2.1, (X.1.2.2.1 + 1), X.1.2.2.2)), (z3, cA4 cI X.2.1)] 2 rfl vi4_2 (ar4 (X.1.1, X.1.2.1, (X.1.2.2.1 + 1), X.1.2.2.2)) (ar4_s2 _ _) rfl dX4_over_23 ?_
  refine k_aload_n C dX4_over_24 1 rfl ?_
  refine k_dup C rfl dX4_over_25 ?_
  refine k_getX4 C 0 5 rfl (by decide) rfl q430 rfl dX4_over_26 ?_
  refine k_iconst C 1 (by decide) dX4_over_29 ?_
  refine k_iadd C dX4_over_30 ?_
  refine k_putX4 C [(z0, cZ .null z1 (X.2.2.1, (-1), X.2.2.2.2.1, (X.2.2.2.2.2.1 + 1), X.2.2.2.2.2.2)), (z1, cQ cJ z2 z3), (z2, cA4 cI (X.1.1, X.1.2.1, (X.1.2.2.1 + 1), X.1.2.2.2)), (z3, cA4 cI X.2.1)] 0 5 rfl rfl (by decide) q430 rfl rfl fdI rfl rfl (Nat.le_of_ble_eq_true rfl) dX4_over_31 ?_
  refine k_aload_n C dX4_over_34 1 rfl ?_
  refine k_dup C rfl dX4_over_35 ?_
  refine k_getX4 C 0 10 rfl (by decide) rfl q437 rfl dX4_over_36 ?_
  refine k_aload_n C dX4_over_39 1 rfl ?_
  refine k_getX4 C 0 2 rfl (by decide) rfl q425 rfl dX4_over_40 ?_
  refine k_iadd C dX4_over_43 ?_
  refine k_putX4 C [(z0, cZ .null z1 (X.2.2.1, (-1), X.2.2.2.2.1, (X.2.2.2.2.2.1 + 1), X.2.2.2.2.2.2.1, X.2.2.2.2.2.2.2.1, X.2.2.2.2.2.2.2.2.1, X.2.2.2.2.2.2.2.2.2.1, (X.2.2.2.2.2.2.2.2.2.2 + X.2.2.2.2.1))), (z1, cQ cJ z2 z3), (z2, cA4 cI (X.1.1, X.1.2.1, (X.1.2.2.1 + 1), X.1.2.2.2)), (z3, cA4 cI X.2.1)] 0 10 rfl rfl (by decide) q437 rfl rfl fdI rfl rfl (Nat.le_of_ble_eq_true rfl) dX4_over_44 ?_
  refine k_aload_n C dX4_over_47 1 rfl ?_
  refine k_getX4 C 0 0 rfl (by decide) rfl q423 rfl dX4_over_48 ?_
  refine k_iload_n C dX4_over_51 2 rfl ?_
  refine k_icmp_ne C 62 (by decide) dX4_over_52 (fun c1 => ?_) (fun c1 => ?_)
  ·
    refine k_aload_n C dX4_over_62 1 rfl ?_
    refine k_iload_n C dX4_over_63 2 rfl ?_
    refine k_putX4 C [(z0, cZ .null z1 (0, (-1), X.2.2.2.2.1, (X.2.2.2.2.2.1 + 1), X.2.2.2.2.2.2.1, X.2.2.2.2.2.2.2.1, X.2.2.2.2.2.2.2.2.1, X.2.2.2.2.2.2.2.2.2.1, (X.2.2.2.2.2.2.2.2.2.2 + X.2.2.2.2.1))), (z1, cQ cJ z2 z3), (z2, cA4 cI (X.1.1, X.1.2.1, (X.1.2.2.1 + 1), X.1.2.2.2)), (z3, cA4 cI X.2.1)] 0 0 rfl rfl (by decide) q423 rfl rfl fdI rfl rfl (Nat.le_of_ble_eq_true rfl) dX4_over_64 ?_
    refine k_aload_n C dX4_over_67 0 rfl ?_
    refine k_iconst C 0 (by decide) dX4_over_68 ?_
    refine k_iald C 2 rfl vi4_0 (ar4_l0 _) dX4_over_69 ?_
    refine k_aload_n C dX4_over_70 1 rfl ?_
    refine k_getX4 C 0 8 rfl (by decide) rfl q433 rfl dX4_over_71 ?_
    refine k_icmp_lt C 123 (by decide) dX4_over_74 (fun c2 => ?_) (fun c2 => ?_)
    ·
      refine k_iconst C 2 (by decide) dX4_over_123 ?_
      refine k_iload_n C dX4_over_124 2 rfl ?_
      refine k_iaddL C 2 (show (2 : Int32) + 0 = 2 from by decide) dX4_over_125 ?_
      have hL : fX4_over_0 X = (2, ((X.1.1, X.1.2.1, (X.1.2.2.1 + 1), X.1.2.2.2), X.2.1, 0, (-1), X.2.2.2.2.1, (X.2.2.2.2.2.1 + 1), X.2.2.2.2.2.2.1, X.2.2.2.2.2.2.2.1, X.2.2.2.2.2.2.2.2.1, X.2.2.2.2.2.2.2.2.2.1, (X.2.2.2.2.2.2.2.2.2.2 + X.2.2.2.2.1))) := by exact (if_neg c1).trans ((if_pos c2).trans rfl)
      exact k_iret C rfl (by rw [hL]) (by rw [hL]) dX4_over_126
    ·
      refine k_aload_n C dX4_over_77 0 rfl ?_
      refine k_iconst C 1 (by decide) dX4_over_78 ?_
      refine k_dup2 C rfl rfl dX4_over_79 ?_
      refine k_iald C 2 rfl vi4_1 (ar4_l1 _) dX4_over_80 ?_
      refine k_iconst C 1 (by decide) dX4_over_81 ?_
      refine k_iadd C dX4_over_82 ?_
      refine k_iast C [(z0, cZ .null z1 (0, (-1), X.2.2.2.2.1, (X.2.2.2.2.2.1 + 1), X.2.2.2.2.2.2.1, X.2.2.2.2.2.2.2.1, X.2.2.2.2.2.2.2.2.1, X.2.2.2.2.2.2.2.2.2.1, (X.2.2.2.2.2.2.2.2.2.2 + X.2.2.2.2.1))), (z1, cQ cJ z2 z3), (z2, cA4 cI (X.1.1, (X.1.2.1 + 1), (X.1.2.2.1 + 1), X.1.2.2.2)), (z3, cA4 cI X.2.1)] 2 rfl vi4_1 (ar4 (X.1.1, (X.1.2.1 + 1), (X.1.2.2.1 + 1), X.1.2.2.2)) (ar4_s1 _ _) rfl dX4_over_83 ?_
      refine k_aload_n C dX4_over_84 1 rfl ?_
      refine k_dup C rfl dX4_over_85 ?_
      refine k_getX4 C 0 7 rfl (by decide) rfl q432 rfl dX4_over_86 ?_
      refine k_iconst C 1 (by decide) dX4_over_89 ?_
      refine k_iadd C dX4_over_90 ?_
      refine k_putX4 C [(z0, cZ .null z1 (0, (-1), X.2.2.2.2.1, (X.2.2.2.2.2.1 + 1), X.2.2.2.2.2.2.1, (X.2.2.2.2.2.2.2.1 + 1), X.2.2.2.2.2.2.2.2.1, X.2.2.2.2.2.2.2.2.2.1, (X.2.2.2.2.2.2.2.2.2.2 + X.2.2.2.2.1))), (z1, cQ cJ z2 z3), (z2, cA4 cI (X.1.1, (X.1.2.1 + 1), (X.1.2.2.1 + 1), X.1.2.2.2)), (z3, cA4 cI X.2.1)] 0 7 rfl rfl (by decide) q432 rfl rfl fdI rfl rfl (Nat.le_of_ble_eq_true rfl) dX4_over_91 ?_
      refine k_aload_n C dX4_over_94 1 rfl ?_
      refine k_getX4 C 0 4 rfl (by decide) rfl q428 rfl dX4_over_95 ?_
      refine k_iconst C 0 (by decide) dX4_over_98 ?_
      refine k_aald C 1 rfl vi2_0 (fq_l0 _ _) dX4_over_99 ?_
      refine k_iconst C 0 (by decide) dX4_over_100 ?_
      refine k_iconst C 0 (by decide) dX4_over_101 ?_
      refine k_iast C [(z0, cZ .null z1 (0, (-1), X.2.2.2.2.1, (X.2.2.2.2.2.1 + 1), X.2.2.2.2.2.2.1, (X.2.2.2.2.2.2.2.1 + 1), X.2.2.2.2.2.2.2.2.1, X.2.2.2.2.2.2.2.2.2.1, (X.2.2.2.2.2.2.2.2.2.2 + X.2.2.2.2.1))), (z1, cQ cJ z2 z3), (z2, cA4 cI (0, (X.1.2.1 + 1), (X.1.2.2.1 + 1), X.1.2.2.2)), (z3, cA4 cI X.2.1)] 2 rfl vi4_0 (ar4 (0, (X.1.2.1 + 1), (X.1.2.2.1 + 1), X.1.2.2.2)) (ar4_s0 _ _) rfl dX4_over_102 ?_
      refine k_aload_n C dX4_over_103 1 rfl ?_
      refine k_getX4 C 0 4 rfl (by decide) rfl q428 rfl dX4_over_104 ?_
      refine k_iconst C 1 (by decide) dX4_over_107 ?_
      refine k_aald C 1 rfl vi2_1 (fq_l1 _ _) dX4_over_108 ?_
      refine k_iconst C 0 (by decide) dX4_over_109 ?_
      refine k_iconst C 0 (by decide) dX4_over_110 ?_
      refine k_iast C [(z0, cZ .null z1 (0, (-1), X.2.2.2.2.1, (X.2.2.2.2.2.1 + 1), X.2.2.2.2.2.2.1, (X.2.2.2.2.2.2.2.1 + 1), X.2.2.2.2.2.2.2.2.1, X.2.2.2.2.2.2.2.2.2.1, (X.2.2.2.2.2.2.2.2.2.2 + X.2.2.2.2.1))), (z1, cQ cJ z2 z3), (z2, cA4 cI (0, (X.1.2.1 + 1), (X.1.2.2.1 + 1), X.1.2.2.2)), (z3, cA4 cI (0, X.2.1.2))] 3 rfl vi4_0 (ar4 (0, X.2.1.2)) (ar4_s0 _ _) rfl dX4_over_111 ?_
      refine k_aload_n C dX4_over_112 1 rfl ?_
      refine k_bipush C 12 (by decide) dX4_over_113 ?_
      refine k_putX4 C [(z0, cZ .null z1 (0, (-1), X.2.2.2.2.1, (X.2.2.2.2.2.1 + 1), X.2.2.2.2.2.2.1, (X.2.2.2.2.2.2.2.1 + 1), 12, X.2.2.2.2.2.2.2.2.2.1, (X.2.2.2.2.2.2.2.2.2.2 + X.2.2.2.2.1))), (z1, cQ cJ z2 z3), (z2, cA4 cI (0, (X.1.2.1 + 1), (X.1.2.2.1 + 1), X.1.2.2.2)), (z3, cA4 cI (0, X.2.1.2))] 0 8 rfl rfl (by decide) q433 rfl rfl fdI rfl rfl (Nat.le_of_ble_eq_true rfl) dX4_over_115 ?_
      refine k_aload_n C dX4_over_118 1 rfl ?_
      refine k_iconst C 0 (by decide) dX4_over_119 ?_
      refine k_putX4 C [(z0, cZ .null z1 (0, (-1), X.2.2.2.2.1, (X.2.2.2.2.2.1 + 1), X.2.2.2.2.2.2.1, (X.2.2.2.2.2.2.2.1 + 1), 12, 0, (X.2.2.2.2.2.2.2.2.2.2 + X.2.2.2.2.1))), (z1, cQ cJ z2 z3), (z2, cA4 cI (0, (X.1.2.1 + 1), (X.1.2.2.1 + 1), X.1.2.2.2)), (z3, cA4 cI (0, X.2.1.2))] 0 9 rfl rfl (by decide) q435 rfl rfl fdZ rfl rfl (Nat.le_of_ble_eq_true rfl) dX4_over_120 ?_
      refine k_iconst C 2 (by decide) dX4_over_123 ?_
      refine k_iload_n C dX4_over_124 2 rfl ?_
      refine k_iaddL C 2 (show (2 : Int32) + 0 = 2 from by decide) dX4_over_125 ?_
      have hL : fX4_over_0 X = (2, ((0, (X.1.2.1 + 1), (X.1.2.2.1 + 1), X.1.2.2.2), (0, X.2.1.2), 0, (-1), X.2.2.2.2.1, (X.2.2.2.2.2.1 + 1), X.2.2.2.2.2.2.1, (X.2.2.2.2.2.2.2.1 + 1), 12, 0, (X.2.2.2.2.2.2.2.2.2.2 + X.2.2.2.2.1))) := by exact (if_neg c1).trans ((if_neg c2).trans rfl)
      exact k_iret C rfl (by rw [hL]) (by rw [hL]) dX4_over_126
  ·
    refine k_aload_n C dX4_over_55 0 rfl ?_
    refine k_iconst C 0 (by decide) dX4_over_56 ?_
    refine k_dup2 C rfl rfl dX4_over_57 ?_
    refine k_iald C 2 rfl vi4_0 (ar4_l0 _) dX4_over_58 ?_
    refine k_iconst C 1 (by decide) dX4_over_59 ?_
    refine k_iadd C dX4_over_60 ?_
    refine k_iast C [(z0, cZ .null z1 (X.2.2.1, (-1), X.2.2.2.2.1, (X.2.2.2.2.2.1 + 1), X.2.2.2.2.2.2.1, X.2.2.2.2.2.2.2.1, X.2.2.2.2.2.2.2.2.1, X.2.2.2.2.2.2.2.2.2.1, (X.2.2.2.2.2.2.2.2.2.2 + X.2.2.2.2.1))), (z1, cQ cJ z2 z3), (z2, cA4 cI ((X.1.1 + 1), X.1.2.1, (X.1.2.2.1 + 1), X.1.2.2.2)), (z3, cA4 cI X.2.1)] 2 rfl vi4_0 (ar4 ((X.1.1 + 1), X.1.2.1, (X.1.2.2.1 + 1), X.1.2.2.2)) (ar4_s0 _ _) rfl dX4_over_61 ?_
    refine k_aload_n C dX4_over_62 1 rfl ?_
    refine k_iload_n C dX4_over_63 2 rfl ?_
    refine k_putX4 C [(z0, cZ .null z1 (0, (-1), X.2.2.2.2.1, (X.2.2.2.2.2.1 + 1), X.2.2.2.2.2.2.1, X.2.2.2.2.2.2.2.1, X.2.2.2.2.2.2.2.2.1, X.2.2.2.2.2.2.2.2.2.1, (X.2.2.2.2.2.2.2.2.2.2 + X.2.2.2.2.1))), (z1, cQ cJ z2 z3), (z2, cA4 cI ((X.1.1 + 1), X.1.2.1, (X.1.2.2.1 + 1), X.1.2.2.2)), (z3, cA4 cI X.2.1)] 0 0 rfl rfl (by decide) q423 rfl rfl fdI rfl rfl (Nat.le_of_ble_eq_true rfl) dX4_over_64 ?_
    refine k_aload_n C dX4_over_67 0 rfl ?_
    refine k_iconst C 0 (by decide) dX4_over_68 ?_
    refine k_iald C 2 rfl vi4_0 (ar4_l0 _) dX4_over_69 ?_
    refine k_aload_n C dX4_over_70 1 rfl ?_
    refine k_getX4 C 0 8 rfl (by decide) rfl q433 rfl dX4_over_71 ?_
    refine k_icmp_lt C 123 (by decide) dX4_over_74 (fun c3 => ?_) (fun c3 => ?_)
    ·
      refine k_iconst C 2 (by decide) dX4_over_123 ?_
      refine k_iload_n C dX4_over_124 2 rfl ?_
      refine k_iaddL C 2 (show (2 : Int32) + 0 = 2 from by decide) dX4_over_125 ?_
      have hL : fX4_over_0 X = (2, (((X.1.1 + 1), X.1.2.1, (X.1.2.2.1 + 1), X.1.2.2.2), X.2.1, 0, (-1), X.2.2.2.2.1, (X.2.2.2.2.2.1 + 1), X.2.2.2.2.2.2.1, X.2.2.2.2.2.2.2.1, X.2.2.2.2.2.2.2.2.1, X.2.2.2.2.2.2.2.2.2.1, (X.2.2.2.2.2.2.2.2.2.2 + X.2.2.2.2.1))) := by exact (if_pos c1).trans ((if_pos c3).trans rfl)
      exact k_iret C rfl (by rw [hL]) (by rw [hL]) dX4_over_126
    ·
      refine k_aload_n C dX4_over_77 0 rfl ?_
      refine k_iconst C 1 (by decide) dX4_over_78 ?_
      refine k_dup2 C rfl rfl dX4_over_79 ?_
      refine k_iald C 2 rfl vi4_1 (ar4_l1 _) dX4_over_80 ?_
      refine k_iconst C 1 (by decide) dX4_over_81 ?_
      refine k_iadd C dX4_over_82 ?_
      refine k_iast C [(z0, cZ .null z1 (0, (-1), X.2.2.2.2.1, (X.2.2.2.2.2.1 + 1), X.2.2.2.2.2.2.1, X.2.2.2.2.2.2.2.1, X.2.2.2.2.2.2.2.2.1, X.2.2.2.2.2.2.2.2.2.1, (X.2.2.2.2.2.2.2.2.2.2 + X.2.2.2.2.1))), (z1, cQ cJ z2 z3), (z2, cA4 cI ((X.1.1 + 1), (X.1.2.1 + 1), (X.1.2.2.1 + 1), X.1.2.2.2)), (z3, cA4 cI X.2.1)] 2 rfl vi4_1 (ar4 ((X.1.1 + 1), (X.1.2.1 + 1), (X.1.2.2.1 + 1), X.1.2.2.2)) (ar4_s1 _ _) rfl dX4_over_83 ?_
      refine k_aload_n C dX4_over_84 1 rfl ?_
      refine k_dup C rfl dX4_over_85 ?_
      refine k_getX4 C 0 7 rfl (by decide) rfl q432 rfl dX4_over_86 ?_
      refine k_iconst C 1 (by decide) dX4_over_89 ?_
      refine k_iadd C dX4_over_90 ?_
      refine k_putX4 C [(z0, cZ .null z1 (0, (-1), X.2.2.2.2.1, (X.2.2.2.2.2.1 + 1), X.2.2.2.2.2.2.1, (X.2.2.2.2.2.2.2.1 + 1), X.2.2.2.2.2.2.2.2.1, X.2.2.2.2.2.2.2.2.2.1, (X.2.2.2.2.2.2.2.2.2.2 + X.2.2.2.2.1))), (z1, cQ cJ z2 z3), (z2, cA4 cI ((X.1.1 + 1), (X.1.2.1 + 1), (X.1.2.2.1 + 1), X.1.2.2.2)), (z3, cA4 cI X.2.1)] 0 7 rfl rfl (by decide) q432 rfl rfl fdI rfl rfl (Nat.le_of_ble_eq_true rfl) dX4_over_91 ?_
      refine k_aload_n C dX4_over_94 1 rfl ?_
      refine k_getX4 C 0 4 rfl (by decide) rfl q428 rfl dX4_over_95 ?_
      refine k_iconst C 0 (by decide) dX4_over_98 ?_
      refine k_aald C 1 rfl vi2_0 (fq_l0 _ _) dX4_over_99 ?_
      refine k_iconst C 0 (by decide) dX4_over_100 ?_
      refine k_iconst C 0 (by decide) dX4_over_101 ?_
      refine k_iast C [(z0, cZ .null z1 (0, (-1), X.2.2.2.2.1, (X.2.2.2.2.2.1 + 1), X.2.2.2.2.2.2.1, (X.2.2.2.2.2.2.2.1 + 1), X.2.2.2.2.2.2.2.2.1, X.2.2.2.2.2.2.2.2.2.1, (X.2.2.2.2.2.2.2.2.2.2 + X.2.2.2.2.1))), (z1, cQ cJ z2 z3), (z2, cA4 cI (0, (X.1.2.1 + 1), (X.1.2.2.1 + 1), X.1.2.2.2)), (z3, cA4 cI X.2.1)] 2 rfl vi4_0 (ar4 (0, (X.1.2.1 + 1), (X.1.2.2.1 + 1), X.1.2.2.2)) (ar4_s0 _ _) rfl dX4_over_102 ?_
      refine k_aload_n C dX4_over_103 1 rfl ?_
      refine k_getX4 C 0 4 rfl (by decide) rfl q428 rfl dX4_over_104 ?_
      refine k_iconst C 1 (by decide) dX4_over_107 ?_
      refine k_aald C 1 rfl vi2_1 (fq_l1 _ _) dX4_over_108 ?_
      refine k_iconst C 0 (by decide) dX4_over_109 ?_
      refine k_iconst C 0 (by decide) dX4_over_110 ?_
      refine k_iast C [(z0, cZ .null z1 (0, (-1), X.2.2.2.2.1, (X.2.2.2.2.2.1 + 1), X.2.2.2.2.2.2.1, (X.2.2.2.2.2.2.2.1 + 1), X.2.2.2.2.2.2.2.2.1, X.2.2.2.2.2.2.2.2.2.1, (X.2.2.2.2.2.2.2.2.2.2 + X.2.2.2.2.1))), (z1, cQ cJ z2 z3), (z2, cA4 cI (0, (X.1.2.1 + 1), (X.1.2.2.1 + 1), X.1.2.2.2)), (z3, cA4 cI (0, X.2.1.2))] 3 rfl vi4_0 (ar4 (0, X.2.1.2)) (ar4_s0 _ _) rfl dX4_over_111 ?_
      refine k_aload_n C dX4_over_112 1 rfl ?_
      refine k_bipush C 12 (by decide) dX4_over_113 ?_
      refine k_putX4 C [(z0, cZ .null z1 (0, (-1), X.2.2.2.2.1, (X.2.2.2.2.2.1 + 1), X.2.2.2.2.2.2.1, (X.2.2.2.2.2.2.2.1 + 1), 12, X.2.2.2.2.2.2.2.2.2.1, (X.2.2.2.2.2.2.2.2.2.2 + X.2.2.2.2.1))), (z1, cQ cJ z2 z3), (z2, cA4 cI (0, (X.1.2.1 + 1), (X.1.2.2.1 + 1), X.1.2.2.2)), (z3, cA4 cI (0, X.2.1.2))] 0 8 rfl rfl (by decide) q433 rfl rfl fdI rfl rfl (Nat.le_of_ble_eq_true rfl) dX4_over_115 ?_
      refine k_aload_n C dX4_over_118 1 rfl ?_
      refine k_iconst C 0 (by decide) dX4_over_119 ?_
      refine k_putX4 C [(z0, cZ .null z1 (0, (-1), X.2.2.2.2.1, (X.2.2.2.2.2.1 + 1), X.2.2.2.2.2.2.1, (X.2.2.2.2.2.2.2.1 + 1), 12, 0, (X.2.2.2.2.2.2.2.2.2.2 + X.2.2.2.2.1))), (z1, cQ cJ z2 z3), (z2, cA4 cI (0, (X.1.2.1 + 1), (X.1.2.2.1 + 1), X.1.2.2.2)), (z3, cA4 cI (0, X.2.1.2))] 0 9 rfl rfl (by decide) q435 rfl rfl fdZ rfl rfl (Nat.le_of_ble_eq_true rfl) dX4_over_120 ?_
      refine k_iconst C 2 (by decide) dX4_over_123 ?_
      refine k_iload_n C dX4_over_124 2 rfl ?_
      refine k_iaddL C 2 (show (2 : Int32) + 0 = 2 from by decide) dX4_over_125 ?_
      have hL : fX4_over_0 X = (2, ((0, (X.1.2.1 + 1), (X.1.2.2.1 + 1), X.1.2.2.2), (0, X.2.1.2), 0, (-1), X.2.2.2.2.1, (X.2.2.2.2.2.1 + 1), X.2.2.2.2.2.2.1, (X.2.2.2.2.2.2.2.1 + 1), 12, 0, (X.2.2.2.2.2.2.2.2.2.2 + X.2.2.2.2.1))) := by exact (if_pos c1).trans ((if_neg c3).trans rfl)
      exact k_iret C rfl (by rw [hL]) (by rw [hL]) dX4_over_126

noncomputable def fX4_over_1 (X : Zs) : Int32 × Zs :=
  if X.2.2.1 = 1 then (if (X.2.1.1 + 1) < X.2.2.2.2.2.2.2.2.1 then (3, (X.1, ((X.2.1.1 + 1), X.2.1.2.1, (X.2.1.2.2.1 + 1), X.2.1.2.2.2), 1, (-1), X.2.2.2.2.1, (X.2.2.2.2.2.1 + 1), X.2.2.2.2.2.2.1, X.2.2.2.2.2.2.2.1, X.2.2.2.2.2.2.2.2.1, X.2.2.2.2.2.2.2.2.2.1, (X.2.2.2.2.2.2.2.2.2.2 + X.2.2.2.2.1)))
    else (3, ((0, X.1.2), (0, (X.2.1.2.1 + 1), (X.2.1.2.2.1 + 1), X.2.1.2.2.2), 1, (-1), X.2.2.2.2.1, (X.2.2.2.2.2.1 + 1), X.2.2.2.2.2.2.1, (X.2.2.2.2.2.2.2.1 + 1), 12, 0, (X.2.2.2.2.2.2.2.2.2.2 + X.2.2.2.2.1))))
  else (if X.2.1.1 < X.2.2.2.2.2.2.2.2.1 then (3, (X.1, (X.2.1.1, X.2.1.2.1, (X.2.1.2.2.1 + 1), X.2.1.2.2.2), 1, (-1), X.2.2.2.2.1, (X.2.2.2.2.2.1 + 1), X.2.2.2.2.2.2.1, X.2.2.2.2.2.2.2.1, X.2.2.2.2.2.2.2.2.1, X.2.2.2.2.2.2.2.2.2.1, (X.2.2.2.2.2.2.2.2.2.2 + X.2.2.2.2.1)))
    else (3, ((0, X.1.2), (0, (X.2.1.2.1 + 1), (X.2.1.2.2.1 + 1), X.2.1.2.2.2), 1, (-1), X.2.2.2.2.1, (X.2.2.2.2.2.1 + 1), X.2.2.2.2.2.2.1, (X.2.2.2.2.2.2.2.1 + 1), 12, 0, (X.2.2.2.2.2.2.2.2.2.2 + X.2.2.2.2.1))))
set_option maxHeartbeats 4000000 in
set_option maxRecDepth 100000 in
theorem mX4_over_1 (l : Launch) (D : va_G) (cI cJ : ClassId) (z0 z1 z2 z3 : Nat) (bf : Value) (X : Zs)  : kCi l D cI cJ yX4_over (.code yX4_over cX4_over 3 (some .int)) { frames := 0, cells := 0, slots := 0, locals := 0 } [.ref z0, .int 1] [(z0, cZ bf z1 X.2.2), (z1, cQ cJ z2 z3), (z2, cA4 cI X.1), (z3, cA4 cI X.2.1)] (fX4_over_1 X).1 (wZ cI cJ z0 z1 z2 z3 .null (fX4_over_1 X).2) := by
  refine fun sz => k_of (lv := [(0, .ref z0), (1, .int 1)]) (by decide) sz (by exact Nat.le_of_ble_eq_true rfl) rfl ?_
  intro p e s m args below meth c hsz C
  refine k_aload_n C dX4_over_0 0 rfl ?_
  refine k_null C dX4_over_1 ?_
  refine k_putX4 C [(z0, cZ .null z1 X.2.2), (z1, cQ cJ z2 z3), (z2, cA4 cI X.1), (z3, cA4 cI X.2.1)] 0 3 rfl rfl (by decide) q426 rfl rfl fdB rfl rfl (Nat.le_of_ble_eq_true rfl) dX4_over_2 ?_
  refine k_aload_n C dX4_over_5 0 rfl ?_
  refine k_iconst C (-1) (by decide) dX4_over_6 ?_
  refine k_putX4 C [(z0, cZ .null z1 (X.2.2.1, (-1), X.2.2.2.2)), (z1, cQ cJ z2 z3), (z2, cA4 cI X.1), (z3, cA4 cI X.2.1)] 0 1 rfl rfl (by decide) q424 rfl rfl fdI rfl rfl (Nat.le_of_ble_eq_true rfl) dX4_over_7 ?_
  refine k_aload_n C dX4_over_10 0 rfl ?_
  refine k_getX4 C 0 4 rfl (by decide) rfl q428 rfl dX4_over_11 ?_
  refine k_iload_n C dX4_over_14 1 rfl ?_
  refine k_aald C 1 rfl vi2_1 (fq_l1 _ _) dX4_over_15 ?_
  refine k_astore_n C [(2, .ref z3), (0, .ref z0), (1, .int 1)] (by decide) rfl dX4_over_16 ?_
  refine k_aload_n C dX4_over_17 0 rfl ?_
  refine k_iconst C 2 (by decide) dX4_over_18 ?_
  refine k_dup2 C rfl rfl dX4_over_19 ?_
  refine k_iald C 3 rfl vi4_2 (ar4_l2 _) dX4_over_20 ?_
  refine k_iconst C 1 (by decide) dX4_over_21 ?_
  refine k_iadd C dX4_over_22 ?_
  refine k_iast C [(z0, cZ .null z1 (X.2.2.1, (-1), X.2.2.2.2)), (z1, cQ cJ z2 z3), (z2, cA4 cI X.1), (z3, cA4 cI (X.2.1.1, X.2.1.2.1, (X.2.1.2.2.1 + 1), X.2.1.2.2.2))] 3 rfl vi4_2 (ar4 (X.2.1.1, X.2.1.2.1, (X.2.1.2.2.1 + 1), X.2.1.2.2.2)) (ar4_s2 _ _) rfl dX4_over_23 ?_
  refine k_aload_n C dX4_over_24 1 rfl ?_
  refine k_dup C rfl dX4_over_25 ?_
  refine k_getX4 C 0 5 rfl (by decide) rfl q430 rfl dX4_over_26 ?_
  refine k_iconst C 1 (by decide) dX4_over_29 ?_
  refine k_iadd C dX4_over_30 ?_
  refine k_putX4 C [(z0, cZ .null z1 (X.2.2.1, (-1), X.2.2.2.2.1, (X.2.2.2.2.2.1 + 1), X.2.2.2.2.2.2)), (z1, cQ cJ z2 z3), (z2, cA4 cI X.1), (z3, cA4 cI (X.2.1.1, X.2.1.2.1, (X.2.1.2.2.1 + 1), X.2.1.2.2.2))] 0 5 rfl rfl (by decide) q430 rfl rfl fdI rfl rfl (Nat.le_of_ble_eq_true rfl) dX4_over_31 ?_
  refine k_aload_n C dX4_over_34 1 rfl ?_
  refine k_dup C rfl dX4_over_35 ?_
  refine k_getX4 C 0 10 rfl (by decide) rfl q437 rfl dX4_over_36 ?_
  refine k_aload_n C dX4_over_39 1 rfl ?_
  refine k_getX4 C 0 2 rfl (by decide) rfl q425 rfl dX4_over_40 ?_
  refine k_iadd C dX4_over_43 ?_
  refine k_putX4 C [(z0, cZ .null z1 (X.2.2.1, (-1), X.2.2.2.2.1, (X.2.2.2.2.2.1 + 1), X.2.2.2.2.2.2.1, X.2.2.2.2.2.2.2.1, X.2.2.2.2.2.2.2.2.1, X.2.2.2.2.2.2.2.2.2.1, (X.2.2.2.2.2.2.2.2.2.2 + X.2.2.2.2.1))), (z1, cQ cJ z2 z3), (z2, cA4 cI X.1), (z3, cA4 cI (X.2.1.1, X.2.1.2.1, (X.2.1.2.2.1 + 1), X.2.1.2.2.2))] 0 10 rfl rfl (by decide) q437 rfl rfl fdI rfl rfl (Nat.le_of_ble_eq_true rfl) dX4_over_44 ?_
  refine k_aload_n C dX4_over_47 1 rfl ?_
  refine k_getX4 C 0 0 rfl (by decide) rfl q423 rfl dX4_over_48 ?_
  refine k_iload_n C dX4_over_51 2 rfl ?_
  refine k_icmp_ne C 62 (by decide) dX4_over_52 (fun c1 => ?_) (fun c1 => ?_)
  ·
    refine k_aload_n C dX4_over_62 1 rfl ?_
    refine k_iload_n C dX4_over_63 2 rfl ?_
    refine k_putX4 C [(z0, cZ .null z1 (1, (-1), X.2.2.2.2.1, (X.2.2.2.2.2.1 + 1), X.2.2.2.2.2.2.1, X.2.2.2.2.2.2.2.1, X.2.2.2.2.2.2.2.2.1, X.2.2.2.2.2.2.2.2.2.1, (X.2.2.2.2.2.2.2.2.2.2 + X.2.2.2.2.1))), (z1, cQ cJ z2 z3), (z2, cA4 cI X.1), (z3, cA4 cI (X.2.1.1, X.2.1.2.1, (X.2.1.2.2.1 + 1), X.2.1.2.2.2))] 0 0 rfl rfl (by decide) q423 rfl rfl fdI rfl rfl (Nat.le_of_ble_eq_true rfl) dX4_over_64 ?_
    refine k_aload_n C dX4_over_67 0 rfl ?_
    refine k_iconst C 0 (by decide) dX4_over_68 ?_
    refine k_iald C 3 rfl vi4_0 (ar4_l0 _) dX4_over_69 ?_
    refine k_aload_n C dX4_over_70 1 rfl ?_
    refine k_getX4 C 0 8 rfl (by decide) rfl q433 rfl dX4_over_71 ?_
    refine k_icmp_lt C 123 (by decide) dX4_over_74 (fun c2 => ?_) (fun c2 => ?_)
    ·
      refine k_iconst C 2 (by decide) dX4_over_123 ?_
      refine k_iload_n C dX4_over_124 2 rfl ?_
      refine k_iaddL C 3 (show (2 : Int32) + 1 = 3 from by decide) dX4_over_125 ?_
      have hL : fX4_over_1 X = (3, (X.1, (X.2.1.1, X.2.1.2.1, (X.2.1.2.2.1 + 1), X.2.1.2.2.2), 1, (-1), X.2.2.2.2.1, (X.2.2.2.2.2.1 + 1), X.2.2.2.2.2.2.1, X.2.2.2.2.2.2.2.1, X.2.2.2.2.2.2.2.2.1, X.2.2.2.2.2.2.2.2.2.1, (X.2.2.2.2.2.2.2.2.2.2 + X.2.2.2.2.1))) := by exact (if_neg c1).trans ((if_pos c2).trans rfl)
      exact k_iret C rfl (by rw [hL]) (by rw [hL]) dX4_over_126
    ·
      refine k_aload_n C dX4_over_77 0 rfl ?_
      refine k_iconst C 1 (by decide) dX4_over_78 ?_
      refine k_dup2 C rfl rfl dX4_over_79 ?_
      refine k_iald C 3 rfl vi4_1 (ar4_l1 _) dX4_over_80 ?_
      refine k_iconst C 1 (by decide) dX4_over_81 ?_
      refine k_iadd C dX4_over_82 ?_
      refine k_iast C [(z0, cZ .null z1 (1, (-1), X.2.2.2.2.1, (X.2.2.2.2.2.1 + 1), X.2.2.2.2.2.2.1, X.2.2.2.2.2.2.2.1, X.2.2.2.2.2.2.2.2.1, X.2.2.2.2.2.2.2.2.2.1, (X.2.2.2.2.2.2.2.2.2.2 + X.2.2.2.2.1))), (z1, cQ cJ z2 z3), (z2, cA4 cI X.1), (z3, cA4 cI (X.2.1.1, (X.2.1.2.1 + 1), (X.2.1.2.2.1 + 1), X.2.1.2.2.2))] 3 rfl vi4_1 (ar4 (X.2.1.1, (X.2.1.2.1 + 1), (X.2.1.2.2.1 + 1), X.2.1.2.2.2)) (ar4_s1 _ _) rfl dX4_over_83 ?_
      refine k_aload_n C dX4_over_84 1 rfl ?_
      refine k_dup C rfl dX4_over_85 ?_
      refine k_getX4 C 0 7 rfl (by decide) rfl q432 rfl dX4_over_86 ?_
      refine k_iconst C 1 (by decide) dX4_over_89 ?_
      refine k_iadd C dX4_over_90 ?_
      refine k_putX4 C [(z0, cZ .null z1 (1, (-1), X.2.2.2.2.1, (X.2.2.2.2.2.1 + 1), X.2.2.2.2.2.2.1, (X.2.2.2.2.2.2.2.1 + 1), X.2.2.2.2.2.2.2.2.1, X.2.2.2.2.2.2.2.2.2.1, (X.2.2.2.2.2.2.2.2.2.2 + X.2.2.2.2.1))), (z1, cQ cJ z2 z3), (z2, cA4 cI X.1), (z3, cA4 cI (X.2.1.1, (X.2.1.2.1 + 1), (X.2.1.2.2.1 + 1), X.2.1.2.2.2))] 0 7 rfl rfl (by decide) q432 rfl rfl fdI rfl rfl (Nat.le_of_ble_eq_true rfl) dX4_over_91 ?_
      refine k_aload_n C dX4_over_94 1 rfl ?_
      refine k_getX4 C 0 4 rfl (by decide) rfl q428 rfl dX4_over_95 ?_
      refine k_iconst C 0 (by decide) dX4_over_98 ?_
      refine k_aald C 1 rfl vi2_0 (fq_l0 _ _) dX4_over_99 ?_
      refine k_iconst C 0 (by decide) dX4_over_100 ?_
      refine k_iconst C 0 (by decide) dX4_over_101 ?_
      refine k_iast C [(z0, cZ .null z1 (1, (-1), X.2.2.2.2.1, (X.2.2.2.2.2.1 + 1), X.2.2.2.2.2.2.1, (X.2.2.2.2.2.2.2.1 + 1), X.2.2.2.2.2.2.2.2.1, X.2.2.2.2.2.2.2.2.2.1, (X.2.2.2.2.2.2.2.2.2.2 + X.2.2.2.2.1))), (z1, cQ cJ z2 z3), (z2, cA4 cI (0, X.1.2)), (z3, cA4 cI (X.2.1.1, (X.2.1.2.1 + 1), (X.2.1.2.2.1 + 1), X.2.1.2.2.2))] 2 rfl vi4_0 (ar4 (0, X.1.2)) (ar4_s0 _ _) rfl dX4_over_102 ?_
      refine k_aload_n C dX4_over_103 1 rfl ?_
      refine k_getX4 C 0 4 rfl (by decide) rfl q428 rfl dX4_over_104 ?_
      refine k_iconst C 1 (by decide) dX4_over_107 ?_
      refine k_aald C 1 rfl vi2_1 (fq_l1 _ _) dX4_over_108 ?_
      refine k_iconst C 0 (by decide) dX4_over_109 ?_
      refine k_iconst C 0 (by decide) dX4_over_110 ?_
      refine k_iast C [(z0, cZ .null z1 (1, (-1), X.2.2.2.2.1, (X.2.2.2.2.2.1 + 1), X.2.2.2.2.2.2.1, (X.2.2.2.2.2.2.2.1 + 1), X.2.2.2.2.2.2.2.2.1, X.2.2.2.2.2.2.2.2.2.1, (X.2.2.2.2.2.2.2.2.2.2 + X.2.2.2.2.1))), (z1, cQ cJ z2 z3), (z2, cA4 cI (0, X.1.2)), (z3, cA4 cI (0, (X.2.1.2.1 + 1), (X.2.1.2.2.1 + 1), X.2.1.2.2.2))] 3 rfl vi4_0 (ar4 (0, (X.2.1.2.1 + 1), (X.2.1.2.2.1 + 1), X.2.1.2.2.2)) (ar4_s0 _ _) rfl dX4_over_111 ?_
      refine k_aload_n C dX4_over_112 1 rfl ?_
      refine k_bipush C 12 (by decide) dX4_over_113 ?_
      refine k_putX4 C [(z0, cZ .null z1 (1, (-1), X.2.2.2.2.1, (X.2.2.2.2.2.1 + 1), X.2.2.2.2.2.2.1, (X.2.2.2.2.2.2.2.1 + 1), 12, X.2.2.2.2.2.2.2.2.2.1, (X.2.2.2.2.2.2.2.2.2.2 + X.2.2.2.2.1))), (z1, cQ cJ z2 z3), (z2, cA4 cI (0, X.1.2)), (z3, cA4 cI (0, (X.2.1.2.1 + 1), (X.2.1.2.2.1 + 1), X.2.1.2.2.2))] 0 8 rfl rfl (by decide) q433 rfl rfl fdI rfl rfl (Nat.le_of_ble_eq_true rfl) dX4_over_115 ?_
      refine k_aload_n C dX4_over_118 1 rfl ?_
      refine k_iconst C 0 (by decide) dX4_over_119 ?_
      refine k_putX4 C [(z0, cZ .null z1 (1, (-1), X.2.2.2.2.1, (X.2.2.2.2.2.1 + 1), X.2.2.2.2.2.2.1, (X.2.2.2.2.2.2.2.1 + 1), 12, 0, (X.2.2.2.2.2.2.2.2.2.2 + X.2.2.2.2.1))), (z1, cQ cJ z2 z3), (z2, cA4 cI (0, X.1.2)), (z3, cA4 cI (0, (X.2.1.2.1 + 1), (X.2.1.2.2.1 + 1), X.2.1.2.2.2))] 0 9 rfl rfl (by decide) q435 rfl rfl fdZ rfl rfl (Nat.le_of_ble_eq_true rfl) dX4_over_120 ?_
      refine k_iconst C 2 (by decide) dX4_over_123 ?_
      refine k_iload_n C dX4_over_124 2 rfl ?_
      refine k_iaddL C 3 (show (2 : Int32) + 1 = 3 from by decide) dX4_over_125 ?_
      have hL : fX4_over_1 X = (3, ((0, X.1.2), (0, (X.2.1.2.1 + 1), (X.2.1.2.2.1 + 1), X.2.1.2.2.2), 1, (-1), X.2.2.2.2.1, (X.2.2.2.2.2.1 + 1), X.2.2.2.2.2.2.1, (X.2.2.2.2.2.2.2.1 + 1), 12, 0, (X.2.2.2.2.2.2.2.2.2.2 + X.2.2.2.2.1))) := by exact (if_neg c1).trans ((if_neg c2).trans rfl)
      exact k_iret C rfl (by rw [hL]) (by rw [hL]) dX4_over_126
  ·
    refine k_aload_n C dX4_over_55 0 rfl ?_
    refine k_iconst C 0 (by decide) dX4_over_56 ?_
    refine k_dup2 C rfl rfl dX4_over_57 ?_
    refine k_iald C 3 rfl vi4_0 (ar4_l0 _) dX4_over_58 ?_
    refine k_iconst C 1 (by decide) dX4_over_59 ?_
    refine k_iadd C dX4_over_60 ?_
    refine k_iast C [(z0, cZ .null z1 (X.2.2.1, (-1), X.2.2.2.2.1, (X.2.2.2.2.2.1 + 1), X.2.2.2.2.2.2.1, X.2.2.2.2.2.2.2.1, X.2.2.2.2.2.2.2.2.1, X.2.2.2.2.2.2.2.2.2.1, (X.2.2.2.2.2.2.2.2.2.2 + X.2.2.2.2.1))), (z1, cQ cJ z2 z3), (z2, cA4 cI X.1), (z3, cA4 cI ((X.2.1.1 + 1), X.2.1.2.1, (X.2.1.2.2.1 + 1), X.2.1.2.2.2))] 3 rfl vi4_0 (ar4 ((X.2.1.1 + 1), X.2.1.2.1, (X.2.1.2.2.1 + 1), X.2.1.2.2.2)) (ar4_s0 _ _) rfl dX4_over_61 ?_
    refine k_aload_n C dX4_over_62 1 rfl ?_
    refine k_iload_n C dX4_over_63 2 rfl ?_
    refine k_putX4 C [(z0, cZ .null z1 (1, (-1), X.2.2.2.2.1, (X.2.2.2.2.2.1 + 1), X.2.2.2.2.2.2.1, X.2.2.2.2.2.2.2.1, X.2.2.2.2.2.2.2.2.1, X.2.2.2.2.2.2.2.2.2.1, (X.2.2.2.2.2.2.2.2.2.2 + X.2.2.2.2.1))), (z1, cQ cJ z2 z3), (z2, cA4 cI X.1), (z3, cA4 cI ((X.2.1.1 + 1), X.2.1.2.1, (X.2.1.2.2.1 + 1), X.2.1.2.2.2))] 0 0 rfl rfl (by decide) q423 rfl rfl fdI rfl rfl (Nat.le_of_ble_eq_true rfl) dX4_over_64 ?_
    refine k_aload_n C dX4_over_67 0 rfl ?_
    refine k_iconst C 0 (by decide) dX4_over_68 ?_
    refine k_iald C 3 rfl vi4_0 (ar4_l0 _) dX4_over_69 ?_
    refine k_aload_n C dX4_over_70 1 rfl ?_
    refine k_getX4 C 0 8 rfl (by decide) rfl q433 rfl dX4_over_71 ?_
    refine k_icmp_lt C 123 (by decide) dX4_over_74 (fun c3 => ?_) (fun c3 => ?_)
    ·
      refine k_iconst C 2 (by decide) dX4_over_123 ?_
      refine k_iload_n C dX4_over_124 2 rfl ?_
      refine k_iaddL C 3 (show (2 : Int32) + 1 = 3 from by decide) dX4_over_125 ?_
      have hL : fX4_over_1 X = (3, (X.1, ((X.2.1.1 + 1), X.2.1.2.1, (X.2.1.2.2.1 + 1), X.2.1.2.2.2), 1, (-1), X.2.2.2.2.1, (X.2.2.2.2.2.1 + 1), X.2.2.2.2.2.2.1, X.2.2.2.2.2.2.2.1, X.2.2.2.2.2.2.2.2.1, X.2.2.2.2.2.2.2.2.2.1, (X.2.2.2.2.2.2.2.2.2.2 + X.2.2.2.2.1))) := by exact (if_pos c1).trans ((if_pos c3).trans rfl)
      exact k_iret C rfl (by rw [hL]) (by rw [hL]) dX4_over_126
    ·
      refine k_aload_n C dX4_over_77 0 rfl ?_
      refine k_iconst C 1 (by decide) dX4_over_78 ?_
      refine k_dup2 C rfl rfl dX4_over_79 ?_
      refine k_iald C 3 rfl vi4_1 (ar4_l1 _) dX4_over_80 ?_
      refine k_iconst C 1 (by decide) dX4_over_81 ?_
      refine k_iadd C dX4_over_82 ?_
      refine k_iast C [(z0, cZ .null z1 (1, (-1), X.2.2.2.2.1, (X.2.2.2.2.2.1 + 1), X.2.2.2.2.2.2.1, X.2.2.2.2.2.2.2.1, X.2.2.2.2.2.2.2.2.1, X.2.2.2.2.2.2.2.2.2.1, (X.2.2.2.2.2.2.2.2.2.2 + X.2.2.2.2.1))), (z1, cQ cJ z2 z3), (z2, cA4 cI X.1), (z3, cA4 cI ((X.2.1.1 + 1), (X.2.1.2.1 + 1), (X.2.1.2.2.1 + 1), X.2.1.2.2.2))] 3 rfl vi4_1 (ar4 ((X.2.1.1 + 1), (X.2.1.2.1 + 1), (X.2.1.2.2.1 + 1), X.2.1.2.2.2)) (ar4_s1 _ _) rfl dX4_over_83 ?_
      refine k_aload_n C dX4_over_84 1 rfl ?_
      refine k_dup C rfl dX4_over_85 ?_
      refine k_getX4 C 0 7 rfl (by decide) rfl q432 rfl dX4_over_86 ?_
      refine k_iconst C 1 (by decide) dX4_over_89 ?_
      refine k_iadd C dX4_over_90 ?_
      refine k_putX4 C [(z0, cZ .null z1 (1, (-1), X.2.2.2.2.1, (X.2.2.2.2.2.1 + 1), X.2.2.2.2.2.2.1, (X.2.2.2.2.2.2.2.1 + 1), X.2.2.2.2.2.2.2.2.1, X.2.2.2.2.2.2.2.2.2.1, (X.2.2.2.2.2.2.2.2.2.2 + X.2.2.2.2.1))), (z1, cQ cJ z2 z3), (z2, cA4 cI X.1), (z3, cA4 cI ((X.2.1.1 + 1), (X.2.1.2.1 + 1), (X.2.1.2.2.1 + 1), X.2.1.2.2.2))] 0 7 rfl rfl (by decide) q432 rfl rfl fdI rfl rfl (Nat.le_of_ble_eq_true rfl) dX4_over_91 ?_
      refine k_aload_n C dX4_over_94 1 rfl ?_
      refine k_getX4 C 0 4 rfl (by decide) rfl q428 rfl dX4_over_95 ?_
      refine k_iconst C 0 (by decide) dX4_over_98 ?_
      refine k_aald C 1 rfl vi2_0 (fq_l0 _ _) dX4_over_99 ?_
      refine k_iconst C 0 (by decide) dX4_over_100 ?_
      refine k_iconst C 0 (by decide) dX4_over_101 ?_
      refine k_iast C [(z0, cZ .null z1 (1, (-1), X.2.2.2.2.1, (X.2.2.2.2.2.1 + 1), X.2.2.2.2.2.2.1, (X.2.2.2.2.2.2.2.1 + 1), X.2.2.2.2.2.2.2.2.1, X.2.2.2.2.2.2.2.2.2.1, (X.2.2.2.2.2.2.2.2.2.2 + X.2.2.2.2.1))), (z1, cQ cJ z2 z3), (z2, cA4 cI (0, X.1.2)), (z3, cA4 cI ((X.2.1.1 + 1), (X.2.1.2.1 + 1), (X.2.1.2.2.1 + 1), X.2.1.2.2.2))] 2 rfl vi4_0 (ar4 (0, X.1.2)) (ar4_s0 _ _) rfl dX4_over_102 ?_
      refine k_aload_n C dX4_over_103 1 rfl ?_
      refine k_getX4 C 0 4 rfl (by decide) rfl q428 rfl dX4_over_104 ?_
      refine k_iconst C 1 (by decide) dX4_over_107 ?_
      refine k_aald C 1 rfl vi2_1 (fq_l1 _ _) dX4_over_108 ?_
      refine k_iconst C 0 (by decide) dX4_over_109 ?_
      refine k_iconst C 0 (by decide) dX4_over_110 ?_
      refine k_iast C [(z0, cZ .null z1 (1, (-1), X.2.2.2.2.1, (X.2.2.2.2.2.1 + 1), X.2.2.2.2.2.2.1, (X.2.2.2.2.2.2.2.1 + 1), X.2.2.2.2.2.2.2.2.1, X.2.2.2.2.2.2.2.2.2.1, (X.2.2.2.2.2.2.2.2.2.2 + X.2.2.2.2.1))), (z1, cQ cJ z2 z3), (z2, cA4 cI (0, X.1.2)), (z3, cA4 cI (0, (X.2.1.2.1 + 1), (X.2.1.2.2.1 + 1), X.2.1.2.2.2))] 3 rfl vi4_0 (ar4 (0, (X.2.1.2.1 + 1), (X.2.1.2.2.1 + 1), X.2.1.2.2.2)) (ar4_s0 _ _) rfl dX4_over_111 ?_
      refine k_aload_n C dX4_over_112 1 rfl ?_
      refine k_bipush C 12 (by decide) dX4_over_113 ?_
      refine k_putX4 C [(z0, cZ .null z1 (1, (-1), X.2.2.2.2.1, (X.2.2.2.2.2.1 + 1), X.2.2.2.2.2.2.1, (X.2.2.2.2.2.2.2.1 + 1), 12, X.2.2.2.2.2.2.2.2.2.1, (X.2.2.2.2.2.2.2.2.2.2 + X.2.2.2.2.1))), (z1, cQ cJ z2 z3), (z2, cA4 cI (0, X.1.2)), (z3, cA4 cI (0, (X.2.1.2.1 + 1), (X.2.1.2.2.1 + 1), X.2.1.2.2.2))] 0 8 rfl rfl (by decide) q433 rfl rfl fdI rfl rfl (Nat.le_of_ble_eq_true rfl) dX4_over_115 ?_
      refine k_aload_n C dX4_over_118 1 rfl ?_
      refine k_iconst C 0 (by decide) dX4_over_119 ?_
      refine k_putX4 C [(z0, cZ .null z1 (1, (-1), X.2.2.2.2.1, (X.2.2.2.2.2.1 + 1), X.2.2.2.2.2.2.1, (X.2.2.2.2.2.2.2.1 + 1), 12, 0, (X.2.2.2.2.2.2.2.2.2.2 + X.2.2.2.2.1))), (z1, cQ cJ z2 z3), (z2, cA4 cI (0, X.1.2)), (z3, cA4 cI (0, (X.2.1.2.1 + 1), (X.2.1.2.2.1 + 1), X.2.1.2.2.2))] 0 9 rfl rfl (by decide) q435 rfl rfl fdZ rfl rfl (Nat.le_of_ble_eq_true rfl) dX4_over_120 ?_
      refine k_iconst C 2 (by decide) dX4_over_123 ?_
      refine k_iload_n C dX4_over_124 2 rfl ?_
      refine k_iaddL C 3 (show (2 : Int32) + 1 = 3 from by decide) dX4_over_125 ?_
      have hL : fX4_over_1 X = (3, ((0, X.1.2), (0, (X.2.1.2.1 + 1), (X.2.1.2.2.1 + 1), X.2.1.2.2.2), 1, (-1), X.2.2.2.2.1, (X.2.2.2.2.2.1 + 1), X.2.2.2.2.2.2.1, (X.2.2.2.2.2.2.2.1 + 1), 12, 0, (X.2.2.2.2.2.2.2.2.2.2 + X.2.2.2.2.1))) := by exact (if_pos c1).trans ((if_neg c3).trans rfl)
      exact k_iret C rfl (by rw [hL]) (by rw [hL]) dX4_over_126

theorem hdX4_serve : yX4_serve.cls ≠ "java/lang/invoke/MethodHandle" ∧ yX4_serve.cls ≠ "java/lang/invoke/VarHandle" ∧ (parseMethodDescriptor yX4_serve.desc).map (fun d => d.parameters.length) = some 3 := by decide +kernel
noncomputable def fX4_serve_0 (p0 : Int32) (p1 : Int32) (p2 : Int32) (X : Zs) : Int32 × Zs × Option Lb :=
  (0, ((X.1.1, X.1.2.1, X.1.2.2.1, (X.1.2.2.2 + 1)), X.2.1, 0, 1, 1, X.2.2.2.2.2), some (fX3_of 6 14 3 p0 p1 p2))
set_option maxHeartbeats 4000000 in
set_option maxRecDepth 100000 in
theorem mX4_serve_0 (l : Launch) (D : va_G) (cI cJ : ClassId) (z0 z1 z2 z3 : Nat) (p0 : Int32) (p1 : Int32) (p2 : Int32) (X : Zs) : kGi l D cI cJ yX4_serve (.code yX4_serve cX4_serve 4 (some .int)) { frames := 3, cells := 1, slots := 10, locals := 66 } [.ref z0, .int p0, .int p1, .int p2] [(z0, cZ .null z1 (0, X.2.2.2)), (z1, cQ cJ z2 z3), (z2, cA4 cI X.1), (z3, cA4 cI X.2.1)] 1 10 (fun r U => r = (fX4_serve_0 p0 p1 p2 X).1 ∧ wSim cI cJ z0 (fX4_serve_0 p0 p1 p2 X).2.1 (fX4_serve_0 p0 p1 p2 X).2.2 U) := by
  refine fun sz => k_ofN (lv := [(0, .ref z0), (1, .int p0), (2, .int p1), (3, .int p2)]) (by decide) sz (Nat.le_of_ble_eq_true rfl) rfl ?_
  intro p e s m args below meth c hsz hnm C
  refine k_aload_n C dX4_serve_0 0 rfl ?_
  refine k_iconst C 0 (by decide) dX4_serve_1 ?_
  refine k_putX4 C [(z0, cZ .null z1 (0, X.2.2.2.1, 0, X.2.2.2.2.2)), (z1, cQ cJ z2 z3), (z2, cA4 cI X.1), (z3, cA4 cI X.2.1)] 0 2 rfl rfl (by decide) q425 rfl rfl fdI rfl rfl (Nat.le_of_ble_eq_true rfl) dX4_serve_2 ?_
  refine k_aload_n C dX4_serve_5 0 rfl ?_
  refine k_bipush C 6 (by decide) dX4_serve_6 ?_
  refine k_bipush C 14 (by decide) dX4_serve_8 ?_
  refine k_iconst C 3 (by decide) dX4_serve_10 ?_
  refine k_iload_n C dX4_serve_11 1 rfl ?_
  refine k_iload_n C dX4_serve_12 2 rfl ?_
  refine k_iload_n C dX4_serve_13 3 rfl ?_
  refine k_callGS_r C (mX3_of l D cI cJ 6 14 3 p0 p1 p2) (va_cwS 6 C.2.2.2.2.1 (kGS q620 q502 q47 q503) rfl rfl rfl hdX3_of ⟨Nat.le_of_ble_eq_true rfl, Nat.le_of_ble_eq_true rfl⟩) [] [0, 1, 2, 3] [(z0, cZ .null z1 (0, X.2.2.2.1, 0, X.2.2.2.2.2)), (z1, cQ cJ z2 z3), (z2, cA4 cI X.1), (z3, cA4 cI X.2.1)] rfl rfl rfl rfl (by decide) (Nat.le_of_ble_eq_true rfl) ⟨Nat.le_of_ble_eq_true rfl, Nat.le_of_ble_eq_true rfl⟩ rfl dX4_serve_14 (fun r1 U2 h3 => ?_)
  subst h3
  generalize ezz4 : fX3_of 6 14 3 p0 p1 p2 = zz4
  refine k_wsub (w' := [(z0, cZ .null z1 (0, X.2.2.2.1, 0, X.2.2.2.2.2)), (z1, cQ cJ z2 z3), (z2, cA4 cI X.1), (z3, cA4 cI X.2.1), (r1, cL zz4)]) [0, 1, 2, 3, 4] rfl rfl ?_
  refine k_putX4 C [(z0, cZ (.ref r1) z1 (0, X.2.2.2.1, 0, X.2.2.2.2.2)), (z1, cQ cJ z2 z3), (z2, cA4 cI X.1), (z3, cA4 cI X.2.1), (r1, cL zz4)] 0 3 rfl rfl (by decide) q426 rfl rfl fdB rfl rfl (Nat.le_of_ble_eq_true rfl) dX4_serve_17 ?_
  refine k_aload_n C dX4_serve_20 0 rfl ?_
  refine k_dup C rfl dX4_serve_21 ?_
  refine k_getX4 C 0 2 rfl (by decide) rfl q425 rfl dX4_serve_22 ?_
  refine k_iconst C 1 (by decide) dX4_serve_25 ?_
  refine k_iaddL C 1 (show (0 : Int32) + 1 = 1 from by decide) dX4_serve_26 ?_
  refine k_putX4 C [(z0, cZ (.ref r1) z1 (0, X.2.2.2.1, 1, X.2.2.2.2.2)), (z1, cQ cJ z2 z3), (z2, cA4 cI X.1), (z3, cA4 cI X.2.1), (r1, cL zz4)] 0 2 rfl rfl (by decide) q425 rfl rfl fdI rfl rfl (Nat.le_of_ble_eq_true rfl) dX4_serve_27 ?_
  refine k_aload_n C dX4_serve_30 0 rfl ?_
  refine k_getX4 C 0 4 rfl (by decide) rfl q428 rfl dX4_serve_31 ?_
  refine k_aload_n C dX4_serve_34 0 rfl ?_
  refine k_getX4 C 0 0 rfl (by decide) rfl q423 rfl dX4_serve_35 ?_
  refine k_aald C 1 rfl vi2_0 (fq_l0 _ _) dX4_serve_38 ?_
  refine k_iconst C 3 (by decide) dX4_serve_39 ?_
  refine k_dup2 C rfl rfl dX4_serve_40 ?_
  refine k_iald C 2 rfl vi4_3 (ar4_l3 _) dX4_serve_41 ?_
  refine k_iconst C 1 (by decide) dX4_serve_42 ?_
  refine k_iadd C dX4_serve_43 ?_
  refine k_iast C [(z0, cZ (.ref r1) z1 (0, X.2.2.2.1, 1, X.2.2.2.2.2)), (z1, cQ cJ z2 z3), (z2, cA4 cI (X.1.1, X.1.2.1, X.1.2.2.1, (X.1.2.2.2 + 1))), (z3, cA4 cI X.2.1), (r1, cL zz4)] 2 rfl vi4_3 (ar4 (X.1.1, X.1.2.1, X.1.2.2.1, (X.1.2.2.2 + 1))) (ar4_s3 _ _) rfl dX4_serve_44 ?_
  refine k_aload_n C dX4_serve_45 0 rfl ?_
  refine k_iconst C 1 (by decide) dX4_serve_46 ?_
  refine k_aload_n C dX4_serve_47 0 rfl ?_
  refine k_getX4 C 0 0 rfl (by decide) rfl q423 rfl dX4_serve_48 ?_
  refine k_isubL C 1 (show (1 : Int32) - 0 = 1 from by decide) dX4_serve_51 ?_
  refine k_putX4 C [(z0, cZ (.ref r1) z1 (0, 1, 1, X.2.2.2.2.2)), (z1, cQ cJ z2 z3), (z2, cA4 cI (X.1.1, X.1.2.1, X.1.2.2.1, (X.1.2.2.2 + 1))), (z3, cA4 cI X.2.1), (r1, cL zz4)] 0 1 rfl rfl (by decide) q424 rfl rfl fdI rfl rfl (Nat.le_of_ble_eq_true rfl) dX4_serve_52 ?_
  refine k_aload_n C dX4_serve_55 0 rfl ?_
  refine k_getX4 C 0 0 rfl (by decide) rfl q423 rfl dX4_serve_56 ?_
  have hL : fX4_serve_0 p0 p1 p2 X = (0, ((X.1.1, X.1.2.1, X.1.2.2.1, (X.1.2.2.2 + 1)), X.2.1, 0, 1, 1, X.2.2.2.2.2), some zz4) := by subst ezz4; exact rfl
  refine k_widen (k' := 1) (n' := 10) (Nat.le_of_ble_eq_true rfl) (Nat.le_of_ble_eq_true rfl) ?_
  refine k_wsub (w' := [(z0, cZ (.ref r1) z1 (0, 1, 1, X.2.2.2.2.2)), (z1, cQ cJ z2 z3), (z2, cA4 cI (X.1.1, X.1.2.1, X.1.2.2.1, (X.1.2.2.2 + 1))), (z3, cA4 cI X.2.1), (r1, cL zz4)]) [0, 1, 2, 3, 4] rfl rfl ?_
  exact k_iretG C rfl (by rw [hL]; exact ⟨rfl, wSim_some cI cJ z0 z1 z2 z3 r1 ((X.1.1, X.1.2.1, X.1.2.2.1, (X.1.2.2.2 + 1)), X.2.1, 0, 1, 1, X.2.2.2.2.2) zz4⟩) dX4_serve_59

noncomputable def fX4_serve_1 (p0 : Int32) (p1 : Int32) (p2 : Int32) (X : Zs) : Int32 × Zs × Option Lb :=
  (1, (X.1, (X.2.1.1, X.2.1.2.1, X.2.1.2.2.1, (X.2.1.2.2.2 + 1)), 1, 0, 1, X.2.2.2.2.2), some (fX3_of 6 14 3 p0 p1 p2))
set_option maxHeartbeats 4000000 in
set_option maxRecDepth 100000 in
theorem mX4_serve_1 (l : Launch) (D : va_G) (cI cJ : ClassId) (z0 z1 z2 z3 : Nat) (p0 : Int32) (p1 : Int32) (p2 : Int32) (X : Zs) : kGi l D cI cJ yX4_serve (.code yX4_serve cX4_serve 4 (some .int)) { frames := 3, cells := 1, slots := 10, locals := 66 } [.ref z0, .int p0, .int p1, .int p2] [(z0, cZ .null z1 (1, X.2.2.2)), (z1, cQ cJ z2 z3), (z2, cA4 cI X.1), (z3, cA4 cI X.2.1)] 1 10 (fun r U => r = (fX4_serve_1 p0 p1 p2 X).1 ∧ wSim cI cJ z0 (fX4_serve_1 p0 p1 p2 X).2.1 (fX4_serve_1 p0 p1 p2 X).2.2 U) := by
  refine fun sz => k_ofN (lv := [(0, .ref z0), (1, .int p0), (2, .int p1), (3, .int p2)]) (by decide) sz (Nat.le_of_ble_eq_true rfl) rfl ?_
  intro p e s m args below meth c hsz hnm C
  refine k_aload_n C dX4_serve_0 0 rfl ?_
  refine k_iconst C 0 (by decide) dX4_serve_1 ?_
  refine k_putX4 C [(z0, cZ .null z1 (1, X.2.2.2.1, 0, X.2.2.2.2.2)), (z1, cQ cJ z2 z3), (z2, cA4 cI X.1), (z3, cA4 cI X.2.1)] 0 2 rfl rfl (by decide) q425 rfl rfl fdI rfl rfl (Nat.le_of_ble_eq_true rfl) dX4_serve_2 ?_
  refine k_aload_n C dX4_serve_5 0 rfl ?_
  refine k_bipush C 6 (by decide) dX4_serve_6 ?_
  refine k_bipush C 14 (by decide) dX4_serve_8 ?_
  refine k_iconst C 3 (by decide) dX4_serve_10 ?_
  refine k_iload_n C dX4_serve_11 1 rfl ?_
  refine k_iload_n C dX4_serve_12 2 rfl ?_
  refine k_iload_n C dX4_serve_13 3 rfl ?_
  refine k_callGS_r C (mX3_of l D cI cJ 6 14 3 p0 p1 p2) (va_cwS 6 C.2.2.2.2.1 (kGS q620 q502 q47 q503) rfl rfl rfl hdX3_of ⟨Nat.le_of_ble_eq_true rfl, Nat.le_of_ble_eq_true rfl⟩) [] [0, 1, 2, 3] [(z0, cZ .null z1 (1, X.2.2.2.1, 0, X.2.2.2.2.2)), (z1, cQ cJ z2 z3), (z2, cA4 cI X.1), (z3, cA4 cI X.2.1)] rfl rfl rfl rfl (by decide) (Nat.le_of_ble_eq_true rfl) ⟨Nat.le_of_ble_eq_true rfl, Nat.le_of_ble_eq_true rfl⟩ rfl dX4_serve_14 (fun r1 U2 h3 => ?_)
  subst h3
  generalize ezz4 : fX3_of 6 14 3 p0 p1 p2 = zz4
  refine k_wsub (w' := [(z0, cZ .null z1 (1, X.2.2.2.1, 0, X.2.2.2.2.2)), (z1, cQ cJ z2 z3), (z2, cA4 cI X.1), (z3, cA4 cI X.2.1), (r1, cL zz4)]) [0, 1, 2, 3, 4] rfl rfl ?_
  refine k_putX4 C [(z0, cZ (.ref r1) z1 (1, X.2.2.2.1, 0, X.2.2.2.2.2)), (z1, cQ cJ z2 z3), (z2, cA4 cI X.1), (z3, cA4 cI X.2.1), (r1, cL zz4)] 0 3 rfl rfl (by decide) q426 rfl rfl fdB rfl rfl (Nat.le_of_ble_eq_true rfl) dX4_serve_17 ?_
  refine k_aload_n C dX4_serve_20 0 rfl ?_
  refine k_dup C rfl dX4_serve_21 ?_
  refine k_getX4 C 0 2 rfl (by decide) rfl q425 rfl dX4_serve_22 ?_
  refine k_iconst C 1 (by decide) dX4_serve_25 ?_
  refine k_iaddL C 1 (show (0 : Int32) + 1 = 1 from by decide) dX4_serve_26 ?_
  refine k_putX4 C [(z0, cZ (.ref r1) z1 (1, X.2.2.2.1, 1, X.2.2.2.2.2)), (z1, cQ cJ z2 z3), (z2, cA4 cI X.1), (z3, cA4 cI X.2.1), (r1, cL zz4)] 0 2 rfl rfl (by decide) q425 rfl rfl fdI rfl rfl (Nat.le_of_ble_eq_true rfl) dX4_serve_27 ?_
  refine k_aload_n C dX4_serve_30 0 rfl ?_
  refine k_getX4 C 0 4 rfl (by decide) rfl q428 rfl dX4_serve_31 ?_
  refine k_aload_n C dX4_serve_34 0 rfl ?_
  refine k_getX4 C 0 0 rfl (by decide) rfl q423 rfl dX4_serve_35 ?_
  refine k_aald C 1 rfl vi2_1 (fq_l1 _ _) dX4_serve_38 ?_
  refine k_iconst C 3 (by decide) dX4_serve_39 ?_
  refine k_dup2 C rfl rfl dX4_serve_40 ?_
  refine k_iald C 3 rfl vi4_3 (ar4_l3 _) dX4_serve_41 ?_
  refine k_iconst C 1 (by decide) dX4_serve_42 ?_
  refine k_iadd C dX4_serve_43 ?_
  refine k_iast C [(z0, cZ (.ref r1) z1 (1, X.2.2.2.1, 1, X.2.2.2.2.2)), (z1, cQ cJ z2 z3), (z2, cA4 cI X.1), (z3, cA4 cI (X.2.1.1, X.2.1.2.1, X.2.1.2.2.1, (X.2.1.2.2.2 + 1))), (r1, cL zz4)] 3 rfl vi4_3 (ar4 (X.2.1.1, X.2.1.2.1, X.2.1.2.2.1, (X.2.1.2.2.2 + 1))) (ar4_s3 _ _) rfl dX4_serve_44 ?_
  refine k_aload_n C dX4_serve_45 0 rfl ?_
  refine k_iconst C 1 (by decide) dX4_serve_46 ?_
  refine k_aload_n C dX4_serve_47 0 rfl ?_
  refine k_getX4 C 0 0 rfl (by decide) rfl q423 rfl dX4_serve_48 ?_
  refine k_isubL C 0 (show (1 : Int32) - 1 = 0 from by decide) dX4_serve_51 ?_
  refine k_putX4 C [(z0, cZ (.ref r1) z1 (1, 0, 1, X.2.2.2.2.2)), (z1, cQ cJ z2 z3), (z2, cA4 cI X.1), (z3, cA4 cI (X.2.1.1, X.2.1.2.1, X.2.1.2.2.1, (X.2.1.2.2.2 + 1))), (r1, cL zz4)] 0 1 rfl rfl (by decide) q424 rfl rfl fdI rfl rfl (Nat.le_of_ble_eq_true rfl) dX4_serve_52 ?_
  refine k_aload_n C dX4_serve_55 0 rfl ?_
  refine k_getX4 C 0 0 rfl (by decide) rfl q423 rfl dX4_serve_56 ?_
  have hL : fX4_serve_1 p0 p1 p2 X = (1, (X.1, (X.2.1.1, X.2.1.2.1, X.2.1.2.2.1, (X.2.1.2.2.2 + 1)), 1, 0, 1, X.2.2.2.2.2), some zz4) := by subst ezz4; exact rfl
  refine k_widen (k' := 1) (n' := 10) (Nat.le_of_ble_eq_true rfl) (Nat.le_of_ble_eq_true rfl) ?_
  refine k_wsub (w' := [(z0, cZ (.ref r1) z1 (1, 0, 1, X.2.2.2.2.2)), (z1, cQ cJ z2 z3), (z2, cA4 cI X.1), (z3, cA4 cI (X.2.1.1, X.2.1.2.1, X.2.1.2.2.1, (X.2.1.2.2.2 + 1))), (r1, cL zz4)]) [0, 1, 2, 3, 4] rfl rfl ?_
  exact k_iretG C rfl (by rw [hL]; exact ⟨rfl, wSim_some cI cJ z0 z1 z2 z3 r1 (X.1, (X.2.1.1, X.2.1.2.1, X.2.1.2.2.1, (X.2.1.2.2.2 + 1)), 1, 0, 1, X.2.2.2.2.2) zz4⟩) dX4_serve_59

theorem hdX4_strike : yX4_strike.cls ≠ "java/lang/invoke/MethodHandle" ∧ yX4_strike.cls ≠ "java/lang/invoke/VarHandle" ∧ (parseMethodDescriptor yX4_strike.desc).map (fun d => d.parameters.length) = some 4 := by decide +kernel
noncomputable def fX4_strike_0 (p0 : Int32) (p1 : Int32) (p2 : Int32) (p3 : Int32) (X : Zs) (b : Lb) : Int32 × Zs × Option Lb :=
  if (fX3_go_ p0 b).1 = 3 then ((fX4_over_1 (X.1, X.2.1, X.2.2.1, 0, X.2.2.2.2)).1, (fX4_over_1 (X.1, X.2.1, X.2.2.1, 0, X.2.2.2.2)).2, none)
  else (if (fX3_go_ p0 b).1 ≤ 0 then (if (fX3_go_ p0 b).2.2.2.2.2.2.2.1 = 0 then (1, (fX4_let (X.1, X.2.1, X.2.2.1, 0, X.2.2.2.2)).2, none)
      else (0, ((X.1.1, X.1.2.1, X.1.2.2.1, (X.1.2.2.2 + 1)), X.2.1, X.2.2.1, 1, (X.2.2.2.2.1 + 1), X.2.2.2.2.2), some (fX3_of (fX3_go_ p0 b).2.1 (fX3_go_ p0 b).2.2.1 (fX3_go_ p0 b).2.2.2.1 p1 p2 p3)))
    else ((fX4_over_0 (X.1, X.2.1, X.2.2.1, 0, X.2.2.2.2)).1, (fX4_over_0 (X.1, X.2.1, X.2.2.1, 0, X.2.2.2.2)).2, none))
set_option maxHeartbeats 4000000 in
set_option maxRecDepth 100000 in
theorem mX4_strike_0 (l : Launch) (D : va_G) (cI cJ : ClassId) (z0 z1 z2 z3 z4 : Nat) (p0 : Int32) (p1 : Int32) (p2 : Int32) (p3 : Int32) (X : Zs) (b : Lb) : kGi l D cI cJ yX4_strike (.code yX4_strike cX4_strike 7 (some .int)) { frames := 4, cells := 2, slots := 20, locals := 87 } [.ref z0, .int p0, .int p1, .int p2, .int p3] [(z0, cZ (.ref z4) z1 (X.2.2.1, 0, X.2.2.2.2)), (z1, cQ cJ z2 z3), (z2, cA4 cI X.1), (z3, cA4 cI X.2.1), (z4, cL b)] 2 20 (fun r U => r = (fX4_strike_0 p0 p1 p2 p3 X b).1 ∧ wSim cI cJ z0 (fX4_strike_0 p0 p1 p2 p3 X b).2.1 (fX4_strike_0 p0 p1 p2 p3 X b).2.2 U) := by
  refine fun sz => k_ofN (lv := [(0, .ref z0), (1, .int p0), (2, .int p1), (3, .int p2), (4, .int p3)]) (by decide) sz (Nat.le_of_ble_eq_true rfl) rfl ?_
  intro p e s m args below meth c hsz hnm C
  refine k_aload_n C dX4_strike_0 0 rfl ?_
  refine k_getX4 C 0 3 rfl (by decide) rfl q426 rfl dX4_strike_1 ?_
  refine k_callGV_r C (mX3_copyB l D cI cJ z4 b) (cwV 0 C.2.2.2.2.1 (kGV q646 q498 q499 q47 q500) rfl rfl rfl ⟨rfl, hdX3_copy⟩ ⟨Nat.le_of_ble_eq_true rfl, Nat.le_of_ble_eq_true rfl⟩) [4] [0, 1, 2, 3] [(z0, cZ (.ref z4) z1 (X.2.2.1, 0, X.2.2.2.2)), (z1, cQ cJ z2 z3), (z2, cA4 cI X.1), (z3, cA4 cI X.2.1)] rfl rfl rfl rfl (by decide) 4 3 rfl rfl rfl (Nat.le_of_ble_eq_true rfl) ⟨Nat.le_of_ble_eq_true rfl, Nat.le_of_ble_eq_true rfl⟩ rfl dX4_strike_4 (fun r1 U2 h3 => ?_)
  subst h3
  refine k_wsub (w' := [(z0, cZ (.ref z4) z1 (X.2.2.1, 0, X.2.2.2.2)), (z1, cQ cJ z2 z3), (z2, cA4 cI X.1), (z3, cA4 cI X.2.1), (z4, cL b), (r1, cL b)]) [0, 1, 2, 3, 4, 5] rfl rfl ?_
  refine k_astore C [(5, .ref r1), (0, .ref z0), (1, .int p0), (2, .int p1), (3, .int p2), (4, .int p3)] (by decide) rfl dX4_strike_7 ?_
  refine k_aload C dX4_strike_9 0 rfl ?_
  refine k_iload_n C dX4_strike_11 2 rfl ?_
  refine k_callV_i C (mX3_go_ l D cI cJ r1 p0 b) (cwV 1 C.2.2.2.2.1 (kGV q647 q648 q649 q47 q650) rfl rfl rfl ⟨rfl, hdX3_go_⟩ ⟨Nat.le_of_ble_eq_true rfl, Nat.le_of_ble_eq_true rfl⟩) [5] [0, 1, 2, 3, 4] [0, 1, 2, 3, 4, 5] [(z0, cZ (.ref z4) z1 (X.2.2.1, 0, X.2.2.2.2)), (z1, cQ cJ z2 z3), (z2, cA4 cI X.1), (z3, cA4 cI X.2.1), (z4, cL b)] ([(z0, cZ (.ref z4) z1 (X.2.2.1, 0, X.2.2.2.2)), (z1, cQ cJ z2 z3), (z2, cA4 cI X.1), (z3, cA4 cI X.2.1), (z4, cL b), (r1, cL (fX3_go_ p0 b).2)]) rfl rfl rfl rfl (by decide) [r1] rfl rfl rfl rfl 5 3 rfl rfl rfl (Nat.le_of_ble_eq_true rfl) ⟨Nat.le_of_ble_eq_true rfl, Nat.le_of_ble_eq_true rfl⟩ rfl dX4_strike_12 ?_
  generalize ezz4 : fX3_go_ p0 b = zz4
  refine k_istore C [(6, .int zz4.1), (5, .ref r1), (0, .ref z0), (1, .int p0), (2, .int p1), (3, .int p2), (4, .int p3)] (by decide) rfl dX4_strike_15 ?_
  refine k_iload C dX4_strike_17 0 rfl ?_
  refine k_iconst C 3 (by decide) dX4_strike_19 ?_
  refine k_icmp_ne C 34 (by decide) dX4_strike_20 (fun c5 => ?_) (fun c5 => ?_)
  ·
    refine k_iload C dX4_strike_34 0 rfl ?_
    refine k_if_le C 48 (by decide) dX4_strike_36 (fun c6 => ?_) (fun c6 => ?_)
    ·
      refine k_aload C dX4_strike_48 1 rfl ?_
      refine k_getX3 C 5 6 rfl (by decide) rfl q521 rfl dX4_strike_50 ?_
      refine k_if_ne C 63 (by decide) dX4_strike_53 (fun c7 => ?_) (fun c7 => ?_)
      ·
        refine k_aload_n C dX4_strike_63 2 rfl ?_
        refine k_aload C dX4_strike_64 1 rfl ?_
        refine k_getX3 C 5 0 rfl (by decide) rfl q511 rfl dX4_strike_66 ?_
        refine k_aload C dX4_strike_69 1 rfl ?_
        refine k_getX3 C 5 1 rfl (by decide) rfl q513 rfl dX4_strike_71 ?_
        refine k_aload C dX4_strike_74 1 rfl ?_
        refine k_getX3 C 5 2 rfl (by decide) rfl q515 rfl dX4_strike_76 ?_
        refine k_iload_n C dX4_strike_79 4 rfl ?_
        refine k_iload_n C dX4_strike_80 5 rfl ?_
        refine k_iload C dX4_strike_81 6 rfl ?_
        refine k_callGS_r C (mX3_of l D cI cJ zz4.2.1 zz4.2.2.1 zz4.2.2.2.1 p1 p2 p3) (va_cwS 6 C.2.2.2.2.1 (kGS q620 q502 q47 q503) rfl rfl rfl hdX3_of ⟨Nat.le_of_ble_eq_true rfl, Nat.le_of_ble_eq_true rfl⟩) [] [0, 1, 2, 3, 4, 5] [(z0, cZ (.ref z4) z1 (X.2.2.1, 0, X.2.2.2.2)), (z1, cQ cJ z2 z3), (z2, cA4 cI X.1), (z3, cA4 cI X.2.1), (z4, cL b), (r1, cL zz4.2)] rfl rfl rfl rfl (by decide) (Nat.le_of_ble_eq_true rfl) ⟨Nat.le_of_ble_eq_true rfl, Nat.le_of_ble_eq_true rfl⟩ rfl dX4_strike_83 (fun r8 U9 h10 => ?_)
        subst h10
        generalize ezz11 : fX3_of zz4.2.1 zz4.2.2.1 zz4.2.2.2.1 p1 p2 p3 = zz11
        refine k_wsub (w' := [(z0, cZ (.ref z4) z1 (X.2.2.1, 0, X.2.2.2.2)), (z1, cQ cJ z2 z3), (z2, cA4 cI X.1), (z3, cA4 cI X.2.1), (z4, cL b), (r1, cL zz4.2), (r8, cL zz11)]) [0, 1, 2, 3, 4, 5, 6] rfl rfl ?_
        refine k_putX4 C [(z0, cZ (.ref r8) z1 (X.2.2.1, 0, X.2.2.2.2)), (z1, cQ cJ z2 z3), (z2, cA4 cI X.1), (z3, cA4 cI X.2.1), (z4, cL b), (r1, cL zz4.2), (r8, cL zz11)] 0 3 rfl rfl (by decide) q426 rfl rfl fdB rfl rfl (Nat.le_of_ble_eq_true rfl) dX4_strike_86 ?_
        refine k_aload_n C dX4_strike_89 2 rfl ?_
        refine k_getX4 C 0 4 rfl (by decide) rfl q428 rfl dX4_strike_90 ?_
        refine k_aload_n C dX4_strike_93 2 rfl ?_
        refine k_getX4 C 0 1 rfl (by decide) rfl q424 rfl dX4_strike_94 ?_
        refine k_aald C 1 rfl vi2_0 (fq_l0 _ _) dX4_strike_97 ?_
        refine k_iconst C 3 (by decide) dX4_strike_98 ?_
        refine k_dup2 C rfl rfl dX4_strike_99 ?_
        refine k_iald C 2 rfl vi4_3 (ar4_l3 _) dX4_strike_100 ?_
        refine k_iconst C 1 (by decide) dX4_strike_101 ?_
        refine k_iadd C dX4_strike_102 ?_
        refine k_iast C [(z0, cZ (.ref r8) z1 (X.2.2.1, 0, X.2.2.2.2)), (z1, cQ cJ z2 z3), (z2, cA4 cI (X.1.1, X.1.2.1, X.1.2.2.1, (X.1.2.2.2 + 1))), (z3, cA4 cI X.2.1), (z4, cL b), (r1, cL zz4.2), (r8, cL zz11)] 2 rfl vi4_3 (ar4 (X.1.1, X.1.2.1, X.1.2.2.1, (X.1.2.2.2 + 1))) (ar4_s3 _ _) rfl dX4_strike_103 ?_
        refine k_aload_n C dX4_strike_104 2 rfl ?_
        refine k_dup C rfl dX4_strike_105 ?_
        refine k_getX4 C 0 2 rfl (by decide) rfl q425 rfl dX4_strike_106 ?_
        refine k_iconst C 1 (by decide) dX4_strike_109 ?_
        refine k_iadd C dX4_strike_110 ?_
        refine k_putX4 C [(z0, cZ (.ref r8) z1 (X.2.2.1, 0, (X.2.2.2.2.1 + 1), X.2.2.2.2.2)), (z1, cQ cJ z2 z3), (z2, cA4 cI (X.1.1, X.1.2.1, X.1.2.2.1, (X.1.2.2.2 + 1))), (z3, cA4 cI X.2.1), (z4, cL b), (r1, cL zz4.2), (r8, cL zz11)] 0 2 rfl rfl (by decide) q425 rfl rfl fdI rfl rfl (Nat.le_of_ble_eq_true rfl) dX4_strike_111 ?_
        refine k_aload_n C dX4_strike_114 2 rfl ?_
        refine k_iconst C 1 (by decide) dX4_strike_115 ?_
        refine k_aload_n C dX4_strike_116 2 rfl ?_
        refine k_getX4 C 0 1 rfl (by decide) rfl q424 rfl dX4_strike_117 ?_
        refine k_isubL C 1 (show (1 : Int32) - 0 = 1 from by decide) dX4_strike_120 ?_
        refine k_putX4 C [(z0, cZ (.ref r8) z1 (X.2.2.1, 1, (X.2.2.2.2.1 + 1), X.2.2.2.2.2)), (z1, cQ cJ z2 z3), (z2, cA4 cI (X.1.1, X.1.2.1, X.1.2.2.1, (X.1.2.2.2 + 1))), (z3, cA4 cI X.2.1), (z4, cL b), (r1, cL zz4.2), (r8, cL zz11)] 0 1 rfl rfl (by decide) q424 rfl rfl fdI rfl rfl (Nat.le_of_ble_eq_true rfl) dX4_strike_121 ?_
        refine k_iconst C 0 (by decide) dX4_strike_124 ?_
        have hL : fX4_strike_0 p0 p1 p2 p3 X b = (0, ((X.1.1, X.1.2.1, X.1.2.2.1, (X.1.2.2.2 + 1)), X.2.1, X.2.2.1, 1, (X.2.2.2.2.1 + 1), X.2.2.2.2.2), some zz11) := by subst ezz11; subst ezz4; exact (if_neg c5).trans ((if_pos c6).trans ((if_neg c7).trans rfl))
        refine k_widen (k' := 2) (n' := 20) (Nat.le_of_ble_eq_true rfl) (Nat.le_of_ble_eq_true rfl) ?_
        refine k_wsub (w' := [(z0, cZ (.ref r8) z1 (X.2.2.1, 1, (X.2.2.2.2.1 + 1), X.2.2.2.2.2)), (z1, cQ cJ z2 z3), (z2, cA4 cI (X.1.1, X.1.2.1, X.1.2.2.1, (X.1.2.2.2 + 1))), (z3, cA4 cI X.2.1), (r8, cL zz11)]) [0, 1, 2, 3, 6] rfl rfl ?_
        exact k_iretG C rfl (by rw [hL]; exact ⟨rfl, wSim_some cI cJ z0 z1 z2 z3 r8 ((X.1.1, X.1.2.1, X.1.2.2.1, (X.1.2.2.2 + 1)), X.2.1, X.2.2.1, 1, (X.2.2.2.2.1 + 1), X.2.2.2.2.2) zz11⟩) dX4_strike_125
      ·
        refine k_aload_n C dX4_strike_56 2 rfl ?_
        refine k_callV_i C (mX4_let l D cI cJ z0 z1 z2 z3 (.ref z4) (X.1, X.2.1, X.2.2.1, 0, X.2.2.2.2)) (cwV 0 C.2.2.2.2.1 (kGV q676 q665 q666 q38 q667) rfl rfl rfl ⟨rfl, hdX4_let⟩ ⟨Nat.le_of_ble_eq_true rfl, Nat.le_of_ble_eq_true rfl⟩) [0, 1, 2, 3] [4, 5] [2, 3, 4, 5, 0, 1] [(z4, cL b), (r1, cL zz4.2)] ([(z0, cZ .null z1 (((fX4_let (X.1, X.2.1, X.2.2.1, 0, X.2.2.2.2)).2).2.2.1, ((fX4_let (X.1, X.2.1, X.2.2.1, 0, X.2.2.2.2)).2).2.2.2.1, ((fX4_let (X.1, X.2.1, X.2.2.1, 0, X.2.2.2.2)).2).2.2.2.2.1, ((fX4_let (X.1, X.2.1, X.2.2.1, 0, X.2.2.2.2)).2).2.2.2.2.2.1, ((fX4_let (X.1, X.2.1, X.2.2.1, 0, X.2.2.2.2)).2).2.2.2.2.2.2.1, ((fX4_let (X.1, X.2.1, X.2.2.1, 0, X.2.2.2.2)).2).2.2.2.2.2.2.2.1, ((fX4_let (X.1, X.2.1, X.2.2.1, 0, X.2.2.2.2)).2).2.2.2.2.2.2.2.2.1, ((fX4_let (X.1, X.2.1, X.2.2.1, 0, X.2.2.2.2)).2).2.2.2.2.2.2.2.2.2.1, ((fX4_let (X.1, X.2.1, X.2.2.1, 0, X.2.2.2.2)).2).2.2.2.2.2.2.2.2.2.2)), (z1, cQ cJ z2 z3), (z2, cA4 cI (((fX4_let (X.1, X.2.1, X.2.2.1, 0, X.2.2.2.2)).2).1.1, ((fX4_let (X.1, X.2.1, X.2.2.1, 0, X.2.2.2.2)).2).1.2.1, ((fX4_let (X.1, X.2.1, X.2.2.1, 0, X.2.2.2.2)).2).1.2.2.1, ((fX4_let (X.1, X.2.1, X.2.2.1, 0, X.2.2.2.2)).2).1.2.2.2)), (z3, cA4 cI (((fX4_let (X.1, X.2.1, X.2.2.1, 0, X.2.2.2.2)).2).2.1.1, ((fX4_let (X.1, X.2.1, X.2.2.1, 0, X.2.2.2.2)).2).2.1.2.1, ((fX4_let (X.1, X.2.1, X.2.2.1, 0, X.2.2.2.2)).2).2.1.2.2.1, ((fX4_let (X.1, X.2.1, X.2.2.1, 0, X.2.2.2.2)).2).2.1.2.2.2)), (z4, cL b), (r1, cL zz4.2)]) rfl rfl rfl rfl (by decide) [z0, z1, z2, z3] rfl rfl rfl rfl 0 4 rfl rfl rfl (Nat.le_of_ble_eq_true rfl) ⟨Nat.le_of_ble_eq_true rfl, Nat.le_of_ble_eq_true rfl⟩ rfl dX4_strike_57 ?_
        generalize ezz12 : fX4_let (X.1, X.2.1, X.2.2.1, 0, X.2.2.2.2) = zz12
        refine k_pop C rfl dX4_strike_60 ?_
        refine k_iconst C 1 (by decide) dX4_strike_61 ?_
        have hL : fX4_strike_0 p0 p1 p2 p3 X b = (1, zz12.2, none) := by subst ezz12; subst ezz4; exact (if_neg c5).trans ((if_pos c6).trans ((if_pos c7).trans rfl))
        refine k_widen (k' := 2) (n' := 20) (Nat.le_of_ble_eq_true rfl) (Nat.le_of_ble_eq_true rfl) ?_
        refine k_wsub (w' := [(z0, cZ .null z1 zz12.2.2.2), (z1, cQ cJ z2 z3), (z2, cA4 cI zz12.2.1), (z3, cA4 cI zz12.2.2.1)]) [0, 1, 2, 3] rfl rfl ?_
        exact k_iretG C rfl (by rw [hL]; exact ⟨rfl, wSim_none cI cJ z0 z1 z2 z3 zz12.2⟩) dX4_strike_62
    ·
      refine k_aload_n C dX4_strike_39 2 rfl ?_
      refine k_aload_n C dX4_strike_40 2 rfl ?_
      refine k_getX4 C 0 1 rfl (by decide) rfl q424 rfl dX4_strike_41 ?_
      refine k_callV_i C (mX4_over_0 l D cI cJ z0 z1 z2 z3 (.ref z4) (X.1, X.2.1, X.2.2.1, 0, X.2.2.2.2)) (cwV 1 C.2.2.2.2.1 (kGV q652 q654 q32 q38 q655) rfl rfl rfl ⟨rfl, hdX4_over⟩ ⟨Nat.le_of_ble_eq_true rfl, Nat.le_of_ble_eq_true rfl⟩) [0, 1, 2, 3] [4, 5] [2, 3, 4, 5, 0, 1] [(z4, cL b), (r1, cL zz4.2)] ([(z0, cZ .null z1 (((fX4_over_0 (X.1, X.2.1, X.2.2.1, 0, X.2.2.2.2)).2).2.2.1, ((fX4_over_0 (X.1, X.2.1, X.2.2.1, 0, X.2.2.2.2)).2).2.2.2.1, ((fX4_over_0 (X.1, X.2.1, X.2.2.1, 0, X.2.2.2.2)).2).2.2.2.2.1, ((fX4_over_0 (X.1, X.2.1, X.2.2.1, 0, X.2.2.2.2)).2).2.2.2.2.2.1, ((fX4_over_0 (X.1, X.2.1, X.2.2.1, 0, X.2.2.2.2)).2).2.2.2.2.2.2.1, ((fX4_over_0 (X.1, X.2.1, X.2.2.1, 0, X.2.2.2.2)).2).2.2.2.2.2.2.2.1, ((fX4_over_0 (X.1, X.2.1, X.2.2.1, 0, X.2.2.2.2)).2).2.2.2.2.2.2.2.2.1, ((fX4_over_0 (X.1, X.2.1, X.2.2.1, 0, X.2.2.2.2)).2).2.2.2.2.2.2.2.2.2.1, ((fX4_over_0 (X.1, X.2.1, X.2.2.1, 0, X.2.2.2.2)).2).2.2.2.2.2.2.2.2.2.2)), (z1, cQ cJ z2 z3), (z2, cA4 cI (((fX4_over_0 (X.1, X.2.1, X.2.2.1, 0, X.2.2.2.2)).2).1.1, ((fX4_over_0 (X.1, X.2.1, X.2.2.1, 0, X.2.2.2.2)).2).1.2.1, ((fX4_over_0 (X.1, X.2.1, X.2.2.1, 0, X.2.2.2.2)).2).1.2.2.1, ((fX4_over_0 (X.1, X.2.1, X.2.2.1, 0, X.2.2.2.2)).2).1.2.2.2)), (z3, cA4 cI (((fX4_over_0 (X.1, X.2.1, X.2.2.1, 0, X.2.2.2.2)).2).2.1.1, ((fX4_over_0 (X.1, X.2.1, X.2.2.1, 0, X.2.2.2.2)).2).2.1.2.1, ((fX4_over_0 (X.1, X.2.1, X.2.2.1, 0, X.2.2.2.2)).2).2.1.2.2.1, ((fX4_over_0 (X.1, X.2.1, X.2.2.1, 0, X.2.2.2.2)).2).2.1.2.2.2)), (z4, cL b), (r1, cL zz4.2)]) rfl rfl rfl rfl (by decide) [z0, z1, z2, z3] rfl rfl rfl rfl 0 4 rfl rfl rfl (Nat.le_of_ble_eq_true rfl) ⟨Nat.le_of_ble_eq_true rfl, Nat.le_of_ble_eq_true rfl⟩ rfl dX4_strike_44 ?_
      generalize ezz13 : fX4_over_0 (X.1, X.2.1, X.2.2.1, 0, X.2.2.2.2) = zz13
      have hL : fX4_strike_0 p0 p1 p2 p3 X b = (zz13.1, zz13.2, none) := by subst ezz13; subst ezz4; exact (if_neg c5).trans ((if_neg c6).trans rfl)
      refine k_widen (k' := 2) (n' := 20) (Nat.le_of_ble_eq_true rfl) (Nat.le_of_ble_eq_true rfl) ?_
      refine k_wsub (w' := [(z0, cZ .null z1 zz13.2.2.2), (z1, cQ cJ z2 z3), (z2, cA4 cI zz13.2.1), (z3, cA4 cI zz13.2.2.1)]) [0, 1, 2, 3] rfl rfl ?_
      exact k_iretG C rfl (by rw [hL]; exact ⟨rfl, wSim_none cI cJ z0 z1 z2 z3 zz13.2⟩) dX4_strike_47
  ·
    refine k_aload_n C dX4_strike_23 2 rfl ?_
    refine k_iconst C 1 (by decide) dX4_strike_24 ?_
    refine k_aload_n C dX4_strike_25 2 rfl ?_
    refine k_getX4 C 0 1 rfl (by decide) rfl q424 rfl dX4_strike_26 ?_
    refine k_isubL C 1 (show (1 : Int32) - 0 = 1 from by decide) dX4_strike_29 ?_
    refine k_callV_i C (mX4_over_1 l D cI cJ z0 z1 z2 z3 (.ref z4) (X.1, X.2.1, X.2.2.1, 0, X.2.2.2.2)) (cwV 1 C.2.2.2.2.1 (kGV q652 q654 q32 q38 q655) rfl rfl rfl ⟨rfl, hdX4_over⟩ ⟨Nat.le_of_ble_eq_true rfl, Nat.le_of_ble_eq_true rfl⟩) [0, 1, 2, 3] [4, 5] [2, 3, 4, 5, 0, 1] [(z4, cL b), (r1, cL zz4.2)] ([(z0, cZ .null z1 (((fX4_over_1 (X.1, X.2.1, X.2.2.1, 0, X.2.2.2.2)).2).2.2.1, ((fX4_over_1 (X.1, X.2.1, X.2.2.1, 0, X.2.2.2.2)).2).2.2.2.1, ((fX4_over_1 (X.1, X.2.1, X.2.2.1, 0, X.2.2.2.2)).2).2.2.2.2.1, ((fX4_over_1 (X.1, X.2.1, X.2.2.1, 0, X.2.2.2.2)).2).2.2.2.2.2.1, ((fX4_over_1 (X.1, X.2.1, X.2.2.1, 0, X.2.2.2.2)).2).2.2.2.2.2.2.1, ((fX4_over_1 (X.1, X.2.1, X.2.2.1, 0, X.2.2.2.2)).2).2.2.2.2.2.2.2.1, ((fX4_over_1 (X.1, X.2.1, X.2.2.1, 0, X.2.2.2.2)).2).2.2.2.2.2.2.2.2.1, ((fX4_over_1 (X.1, X.2.1, X.2.2.1, 0, X.2.2.2.2)).2).2.2.2.2.2.2.2.2.2.1, ((fX4_over_1 (X.1, X.2.1, X.2.2.1, 0, X.2.2.2.2)).2).2.2.2.2.2.2.2.2.2.2)), (z1, cQ cJ z2 z3), (z2, cA4 cI (((fX4_over_1 (X.1, X.2.1, X.2.2.1, 0, X.2.2.2.2)).2).1.1, ((fX4_over_1 (X.1, X.2.1, X.2.2.1, 0, X.2.2.2.2)).2).1.2.1, ((fX4_over_1 (X.1, X.2.1, X.2.2.1, 0, X.2.2.2.2)).2).1.2.2.1, ((fX4_over_1 (X.1, X.2.1, X.2.2.1, 0, X.2.2.2.2)).2).1.2.2.2)), (z3, cA4 cI (((fX4_over_1 (X.1, X.2.1, X.2.2.1, 0, X.2.2.2.2)).2).2.1.1, ((fX4_over_1 (X.1, X.2.1, X.2.2.1, 0, X.2.2.2.2)).2).2.1.2.1, ((fX4_over_1 (X.1, X.2.1, X.2.2.1, 0, X.2.2.2.2)).2).2.1.2.2.1, ((fX4_over_1 (X.1, X.2.1, X.2.2.1, 0, X.2.2.2.2)).2).2.1.2.2.2)), (z4, cL b), (r1, cL zz4.2)]) rfl rfl rfl rfl (by decide) [z0, z1, z2, z3] rfl rfl rfl rfl 0 4 rfl rfl rfl (Nat.le_of_ble_eq_true rfl) ⟨Nat.le_of_ble_eq_true rfl, Nat.le_of_ble_eq_true rfl⟩ rfl dX4_strike_30 ?_
    generalize ezz14 : fX4_over_1 (X.1, X.2.1, X.2.2.1, 0, X.2.2.2.2) = zz14
    have hL : fX4_strike_0 p0 p1 p2 p3 X b = (zz14.1, zz14.2, none) := by subst ezz14; subst ezz4; exact (if_pos c5).trans rfl
    refine k_widen (k' := 2) (n' := 20) (Nat.le_of_ble_eq_true rfl) (Nat.le_of_ble_eq_true rfl) ?_
    refine k_wsub (w' := [(z0, cZ .null z1 zz14.2.2.2), (z1, cQ cJ z2 z3), (z2, cA4 cI zz14.2.1), (z3, cA4 cI zz14.2.2.1)]) [0, 1, 2, 3] rfl rfl ?_
    exact k_iretG C rfl (by rw [hL]; exact ⟨rfl, wSim_none cI cJ z0 z1 z2 z3 zz14.2⟩) dX4_strike_33

noncomputable def fX4_strike_1 (p0 : Int32) (p1 : Int32) (p2 : Int32) (p3 : Int32) (X : Zs) (b : Lb) : Int32 × Zs × Option Lb :=
  if (fX3_go_ p0 b).1 = 3 then ((fX4_over_0 (X.1, X.2.1, X.2.2.1, 1, X.2.2.2.2)).1, (fX4_over_0 (X.1, X.2.1, X.2.2.1, 1, X.2.2.2.2)).2, none)
  else (if (fX3_go_ p0 b).1 ≤ 0 then (if (fX3_go_ p0 b).2.2.2.2.2.2.2.1 = 0 then (1, (fX4_let (X.1, X.2.1, X.2.2.1, 1, X.2.2.2.2)).2, none)
      else (0, (X.1, (X.2.1.1, X.2.1.2.1, X.2.1.2.2.1, (X.2.1.2.2.2 + 1)), X.2.2.1, 0, (X.2.2.2.2.1 + 1), X.2.2.2.2.2), some (fX3_of (fX3_go_ p0 b).2.1 (fX3_go_ p0 b).2.2.1 (fX3_go_ p0 b).2.2.2.1 p1 p2 p3)))
    else ((fX4_over_1 (X.1, X.2.1, X.2.2.1, 1, X.2.2.2.2)).1, (fX4_over_1 (X.1, X.2.1, X.2.2.1, 1, X.2.2.2.2)).2, none))
set_option maxHeartbeats 4000000 in
set_option maxRecDepth 100000 in
theorem mX4_strike_1 (l : Launch) (D : va_G) (cI cJ : ClassId) (z0 z1 z2 z3 z4 : Nat) (p0 : Int32) (p1 : Int32) (p2 : Int32) (p3 : Int32) (X : Zs) (b : Lb) : kGi l D cI cJ yX4_strike (.code yX4_strike cX4_strike 7 (some .int)) { frames := 4, cells := 2, slots := 20, locals := 87 } [.ref z0, .int p0, .int p1, .int p2, .int p3] [(z0, cZ (.ref z4) z1 (X.2.2.1, 1, X.2.2.2.2)), (z1, cQ cJ z2 z3), (z2, cA4 cI X.1), (z3, cA4 cI X.2.1), (z4, cL b)] 2 20 (fun r U => r = (fX4_strike_1 p0 p1 p2 p3 X b).1 ∧ wSim cI cJ z0 (fX4_strike_1 p0 p1 p2 p3 X b).2.1 (fX4_strike_1 p0 p1 p2 p3 X b).2.2 U) := by
  refine fun sz => k_ofN (lv := [(0, .ref z0), (1, .int p0), (2, .int p1), (3, .int p2), (4, .int p3)]) (by decide) sz (Nat.le_of_ble_eq_true rfl) rfl ?_
  intro p e s m args below meth c hsz hnm C
  refine k_aload_n C dX4_strike_0 0 rfl ?_
  refine k_getX4 C 0 3 rfl (by decide) rfl q426 rfl dX4_strike_1 ?_
  refine k_callGV_r C (mX3_copyB l D cI cJ z4 b) (cwV 0 C.2.2.2.2.1 (kGV q646 q498 q499 q47 q500) rfl rfl rfl ⟨rfl, hdX3_copy⟩ ⟨Nat.le_of_ble_eq_true rfl, Nat.le_of_ble_eq_true rfl⟩) [4] [0, 1, 2, 3] [(z0, cZ (.ref z4) z1 (X.2.2.1, 1, X.2.2.2.2)), (z1, cQ cJ z2 z3), (z2, cA4 cI X.1), (z3, cA4 cI X.2.1)] rfl rfl rfl rfl (by decide) 4 3 rfl rfl rfl (Nat.le_of_ble_eq_true rfl) ⟨Nat.le_of_ble_eq_true rfl, Nat.le_of_ble_eq_true rfl⟩ rfl dX4_strike_4 (fun r1 U2 h3 => ?_)
  subst h3
  refine k_wsub (w' := [(z0, cZ (.ref z4) z1 (X.2.2.1, 1, X.2.2.2.2)), (z1, cQ cJ z2 z3), (z2, cA4 cI X.1), (z3, cA4 cI X.2.1), (z4, cL b), (r1, cL b)]) [0, 1, 2, 3, 4, 5] rfl rfl ?_
  refine k_astore C [(5, .ref r1), (0, .ref z0), (1, .int p0), (2, .int p1), (3, .int p2), (4, .int p3)] (by decide) rfl dX4_strike_7 ?_
  refine k_aload C dX4_strike_9 0 rfl ?_
  refine k_iload_n C dX4_strike_11 2 rfl ?_
  refine k_callV_i C (mX3_go_ l D cI cJ r1 p0 b) (cwV 1 C.2.2.2.2.1 (kGV q647 q648 q649 q47 q650) rfl rfl rfl ⟨rfl, hdX3_go_⟩ ⟨Nat.le_of_ble_eq_true rfl, Nat.le_of_ble_eq_true rfl⟩) [5] [0, 1, 2, 3, 4] [0, 1, 2, 3, 4, 5] [(z0, cZ (.ref z4) z1 (X.2.2.1, 1, X.2.2.2.2)), (z1, cQ cJ z2 z3), (z2, cA4 cI X.1), (z3, cA4 cI X.2.1), (z4, cL b)] ([(z0, cZ (.ref z4) z1 (X.2.2.1, 1, X.2.2.2.2)), (z1, cQ cJ z2 z3), (z2, cA4 cI X.1), (z3, cA4 cI X.2.1), (z4, cL b), (r1, cL (fX3_go_ p0 b).2)]) rfl rfl rfl rfl (by decide) [r1] rfl rfl rfl rfl 5 3 rfl rfl rfl (Nat.le_of_ble_eq_true rfl) ⟨Nat.le_of_ble_eq_true rfl, Nat.le_of_ble_eq_true rfl⟩ rfl dX4_strike_12 ?_
  generalize ezz4 : fX3_go_ p0 b = zz4
  refine k_istore C [(6, .int zz4.1), (5, .ref r1), (0, .ref z0), (1, .int p0), (2, .int p1), (3, .int p2), (4, .int p3)] (by decide) rfl dX4_strike_15 ?_
  refine k_iload C dX4_strike_17 0 rfl ?_
  refine k_iconst C 3 (by decide) dX4_strike_19 ?_
  refine k_icmp_ne C 34 (by decide) dX4_strike_20 (fun c5 => ?_) (fun c5 => ?_)
  ·
    refine k_iload C dX4_strike_34 0 rfl ?_
    refine k_if_le C 48 (by decide) dX4_strike_36 (fun c6 => ?_) (fun c6 => ?_)
    ·
      refine k_aload C dX4_strike_48 1 rfl ?_
      refine k_getX3 C 5 6 rfl (by decide) rfl q521 rfl dX4_strike_50 ?_
      refine k_if_ne C 63 (by decide) dX4_strike_53 (fun c7 => ?_) (fun c7 => ?_)
      ·
        refine k_aload_n C dX4_strike_63 2 rfl ?_
        refine k_aload C dX4_strike_64 1 rfl ?_
        refine k_getX3 C 5 0 rfl (by decide) rfl q511 rfl dX4_strike_66 ?_
        refine k_aload C dX4_strike_69 1 rfl ?_
        refine k_getX3 C 5 1 rfl (by decide) rfl q513 rfl dX4_strike_71 ?_
        refine k_aload C dX4_strike_74 1 rfl ?_
        refine k_getX3 C 5 2 rfl (by decide) rfl q515 rfl dX4_strike_76 ?_
        refine k_iload_n C dX4_strike_79 4 rfl ?_
        refine k_iload_n C dX4_strike_80 5 rfl ?_
        refine k_iload C dX4_strike_81 6 rfl ?_
        refine k_callGS_r C (mX3_of l D cI cJ zz4.2.1 zz4.2.2.1 zz4.2.2.2.1 p1 p2 p3) (va_cwS 6 C.2.2.2.2.1 (kGS q620 q502 q47 q503) rfl rfl rfl hdX3_of ⟨Nat.le_of_ble_eq_true rfl, Nat.le_of_ble_eq_true rfl⟩) [] [0, 1, 2, 3, 4, 5] [(z0, cZ (.ref z4) z1 (X.2.2.1, 1, X.2.2.2.2)), (z1, cQ cJ z2 z3), (z2, cA4 cI X.1), (z3, cA4 cI X.2.1), (z4, cL b), (r1, cL zz4.2)] rfl rfl rfl rfl (by decide) (Nat.le_of_ble_eq_true rfl) ⟨Nat.le_of_ble_eq_true rfl, Nat.le_of_ble_eq_true rfl⟩ rfl dX4_strike_83 (fun r8 U9 h10 => ?_)
        subst h10
        generalize ezz11 : fX3_of zz4.2.1 zz4.2.2.1 zz4.2.2.2.1 p1 p2 p3 = zz11
        refine k_wsub (w' := [(z0, cZ (.ref z4) z1 (X.2.2.1, 1, X.2.2.2.2)), (z1, cQ cJ z2 z3), (z2, cA4 cI X.1), (z3, cA4 cI X.2.1), (z4, cL b), (r1, cL zz4.2), (r8, cL zz11)]) [0, 1, 2, 3, 4, 5, 6] rfl rfl ?_
        refine k_putX4 C [(z0, cZ (.ref r8) z1 (X.2.2.1, 1, X.2.2.2.2)), (z1, cQ cJ z2 z3), (z2, cA4 cI X.1), (z3, cA4 cI X.2.1), (z4, cL b), (r1, cL zz4.2), (r8, cL zz11)] 0 3 rfl rfl (by decide) q426 rfl rfl fdB rfl rfl (Nat.le_of_ble_eq_true rfl) dX4_strike_86 ?_
        refine k_aload_n C dX4_strike_89 2 rfl ?_
        refine k_getX4 C 0 4 rfl (by decide) rfl q428 rfl dX4_strike_90 ?_
        refine k_aload_n C dX4_strike_93 2 rfl ?_
        refine k_getX4 C 0 1 rfl (by decide) rfl q424 rfl dX4_strike_94 ?_
        refine k_aald C 1 rfl vi2_1 (fq_l1 _ _) dX4_strike_97 ?_
        refine k_iconst C 3 (by decide) dX4_strike_98 ?_
        refine k_dup2 C rfl rfl dX4_strike_99 ?_
        refine k_iald C 3 rfl vi4_3 (ar4_l3 _) dX4_strike_100 ?_
        refine k_iconst C 1 (by decide) dX4_strike_101 ?_
        refine k_iadd C dX4_strike_102 ?_
        refine k_iast C [(z0, cZ (.ref r8) z1 (X.2.2.1, 1, X.2.2.2.2)), (z1, cQ cJ z2 z3), (z2, cA4 cI X.1), (z3, cA4 cI (X.2.1.1, X.2.1.2.1, X.2.1.2.2.1, (X.2.1.2.2.2 + 1))), (z4, cL b), (r1, cL zz4.2), (r8, cL zz11)] 3 rfl vi4_3 (ar4 (X.2.1.1, X.2.1.2.1, X.2.1.2.2.1, (X.2.1.2.2.2 + 1))) (ar4_s3 _ _) rfl dX4_strike_103 ?_
        refine k_aload_n C dX4_strike_104 2 rfl ?_
        refine k_dup C rfl dX4_strike_105 ?_
        refine k_getX4 C 0 2 rfl (by decide) rfl q425 rfl dX4_strike_106 ?_
        refine k_iconst C 1 (by decide) dX4_strike_109 ?_
        refine k_iadd C dX4_strike_110 ?_
        refine k_putX4 C [(z0, cZ (.ref r8) z1 (X.2.2.1, 1, (X.2.2.2.2.1 + 1), X.2.2.2.2.2)), (z1, cQ cJ z2 z3), (z2, cA4 cI X.1), (z3, cA4 cI (X.2.1.1, X.2.1.2.1, X.2.1.2.2.1, (X.2.1.2.2.2 + 1))), (z4, cL b), (r1, cL zz4.2), (r8, cL zz11)] 0 2 rfl rfl (by decide) q425 rfl rfl fdI rfl rfl (Nat.le_of_ble_eq_true rfl) dX4_strike_111 ?_
        refine k_aload_n C dX4_strike_114 2 rfl ?_
        refine k_iconst C 1 (by decide) dX4_strike_115 ?_
        refine k_aload_n C dX4_strike_116 2 rfl ?_
        refine k_getX4 C 0 1 rfl (by decide) rfl q424 rfl dX4_strike_117 ?_
        refine k_isubL C 0 (show (1 : Int32) - 1 = 0 from by decide) dX4_strike_120 ?_
        refine k_putX4 C [(z0, cZ (.ref r8) z1 (X.2.2.1, 0, (X.2.2.2.2.1 + 1), X.2.2.2.2.2)), (z1, cQ cJ z2 z3), (z2, cA4 cI X.1), (z3, cA4 cI (X.2.1.1, X.2.1.2.1, X.2.1.2.2.1, (X.2.1.2.2.2 + 1))), (z4, cL b), (r1, cL zz4.2), (r8, cL zz11)] 0 1 rfl rfl (by decide) q424 rfl rfl fdI rfl rfl (Nat.le_of_ble_eq_true rfl) dX4_strike_121 ?_
        refine k_iconst C 0 (by decide) dX4_strike_124 ?_
        have hL : fX4_strike_1 p0 p1 p2 p3 X b = (0, (X.1, (X.2.1.1, X.2.1.2.1, X.2.1.2.2.1, (X.2.1.2.2.2 + 1)), X.2.2.1, 0, (X.2.2.2.2.1 + 1), X.2.2.2.2.2), some zz11) := by subst ezz11; subst ezz4; exact (if_neg c5).trans ((if_pos c6).trans ((if_neg c7).trans rfl))
        refine k_widen (k' := 2) (n' := 20) (Nat.le_of_ble_eq_true rfl) (Nat.le_of_ble_eq_true rfl) ?_
        refine k_wsub (w' := [(z0, cZ (.ref r8) z1 (X.2.2.1, 0, (X.2.2.2.2.1 + 1), X.2.2.2.2.2)), (z1, cQ cJ z2 z3), (z2, cA4 cI X.1), (z3, cA4 cI (X.2.1.1, X.2.1.2.1, X.2.1.2.2.1, (X.2.1.2.2.2 + 1))), (r8, cL zz11)]) [0, 1, 2, 3, 6] rfl rfl ?_
        exact k_iretG C rfl (by rw [hL]; exact ⟨rfl, wSim_some cI cJ z0 z1 z2 z3 r8 (X.1, (X.2.1.1, X.2.1.2.1, X.2.1.2.2.1, (X.2.1.2.2.2 + 1)), X.2.2.1, 0, (X.2.2.2.2.1 + 1), X.2.2.2.2.2) zz11⟩) dX4_strike_125
      ·
        refine k_aload_n C dX4_strike_56 2 rfl ?_
        refine k_callV_i C (mX4_let l D cI cJ z0 z1 z2 z3 (.ref z4) (X.1, X.2.1, X.2.2.1, 1, X.2.2.2.2)) (cwV 0 C.2.2.2.2.1 (kGV q676 q665 q666 q38 q667) rfl rfl rfl ⟨rfl, hdX4_let⟩ ⟨Nat.le_of_ble_eq_true rfl, Nat.le_of_ble_eq_true rfl⟩) [0, 1, 2, 3] [4, 5] [2, 3, 4, 5, 0, 1] [(z4, cL b), (r1, cL zz4.2)] ([(z0, cZ .null z1 (((fX4_let (X.1, X.2.1, X.2.2.1, 1, X.2.2.2.2)).2).2.2.1, ((fX4_let (X.1, X.2.1, X.2.2.1, 1, X.2.2.2.2)).2).2.2.2.1, ((fX4_let (X.1, X.2.1, X.2.2.1, 1, X.2.2.2.2)).2).2.2.2.2.1, ((fX4_let (X.1, X.2.1, X.2.2.1, 1, X.2.2.2.2)).2).2.2.2.2.2.1, ((fX4_let (X.1, X.2.1, X.2.2.1, 1, X.2.2.2.2)).2).2.2.2.2.2.2.1, ((fX4_let (X.1, X.2.1, X.2.2.1, 1, X.2.2.2.2)).2).2.2.2.2.2.2.2.1, ((fX4_let (X.1, X.2.1, X.2.2.1, 1, X.2.2.2.2)).2).2.2.2.2.2.2.2.2.1, ((fX4_let (X.1, X.2.1, X.2.2.1, 1, X.2.2.2.2)).2).2.2.2.2.2.2.2.2.2.1, ((fX4_let (X.1, X.2.1, X.2.2.1, 1, X.2.2.2.2)).2).2.2.2.2.2.2.2.2.2.2)), (z1, cQ cJ z2 z3), (z2, cA4 cI (((fX4_let (X.1, X.2.1, X.2.2.1, 1, X.2.2.2.2)).2).1.1, ((fX4_let (X.1, X.2.1, X.2.2.1, 1, X.2.2.2.2)).2).1.2.1, ((fX4_let (X.1, X.2.1, X.2.2.1, 1, X.2.2.2.2)).2).1.2.2.1, ((fX4_let (X.1, X.2.1, X.2.2.1, 1, X.2.2.2.2)).2).1.2.2.2)), (z3, cA4 cI (((fX4_let (X.1, X.2.1, X.2.2.1, 1, X.2.2.2.2)).2).2.1.1, ((fX4_let (X.1, X.2.1, X.2.2.1, 1, X.2.2.2.2)).2).2.1.2.1, ((fX4_let (X.1, X.2.1, X.2.2.1, 1, X.2.2.2.2)).2).2.1.2.2.1, ((fX4_let (X.1, X.2.1, X.2.2.1, 1, X.2.2.2.2)).2).2.1.2.2.2)), (z4, cL b), (r1, cL zz4.2)]) rfl rfl rfl rfl (by decide) [z0, z1, z2, z3] rfl rfl rfl rfl 0 4 rfl rfl rfl (Nat.le_of_ble_eq_true rfl) ⟨Nat.le_of_ble_eq_true rfl, Nat.le_of_ble_eq_true rfl⟩ rfl dX4_strike_57 ?_
        generalize ezz12 : fX4_let (X.1, X.2.1, X.2.2.1, 1, X.2.2.2.2) = zz12
        refine k_pop C rfl dX4_strike_60 ?_
        refine k_iconst C 1 (by decide) dX4_strike_61 ?_
        have hL : fX4_strike_1 p0 p1 p2 p3 X b = (1, zz12.2, none) := by subst ezz12; subst ezz4; exact (if_neg c5).trans ((if_pos c6).trans ((if_pos c7).trans rfl))
        refine k_widen (k' := 2) (n' := 20) (Nat.le_of_ble_eq_true rfl) (Nat.le_of_ble_eq_true rfl) ?_
        refine k_wsub (w' := [(z0, cZ .null z1 zz12.2.2.2), (z1, cQ cJ z2 z3), (z2, cA4 cI zz12.2.1), (z3, cA4 cI zz12.2.2.1)]) [0, 1, 2, 3] rfl rfl ?_
        exact k_iretG C rfl (by rw [hL]; exact ⟨rfl, wSim_none cI cJ z0 z1 z2 z3 zz12.2⟩) dX4_strike_62
    ·
      refine k_aload_n C dX4_strike_39 2 rfl ?_
      refine k_aload_n C dX4_strike_40 2 rfl ?_
      refine k_getX4 C 0 1 rfl (by decide) rfl q424 rfl dX4_strike_41 ?_
      refine k_callV_i C (mX4_over_1 l D cI cJ z0 z1 z2 z3 (.ref z4) (X.1, X.2.1, X.2.2.1, 1, X.2.2.2.2)) (cwV 1 C.2.2.2.2.1 (kGV q652 q654 q32 q38 q655) rfl rfl rfl ⟨rfl, hdX4_over⟩ ⟨Nat.le_of_ble_eq_true rfl, Nat.le_of_ble_eq_true rfl⟩) [0, 1, 2, 3] [4, 5] [2, 3, 4, 5, 0, 1] [(z4, cL b), (r1, cL zz4.2)] ([(z0, cZ .null z1 (((fX4_over_1 (X.1, X.2.1, X.2.2.1, 1, X.2.2.2.2)).2).2.2.1, ((fX4_over_1 (X.1, X.2.1, X.2.2.1, 1, X.2.2.2.2)).2).2.2.2.1, ((fX4_over_1 (X.1, X.2.1, X.2.2.1, 1, X.2.2.2.2)).2).2.2.2.2.1, ((fX4_over_1 (X.1, X.2.1, X.2.2.1, 1, X.2.2.2.2)).2).2.2.2.2.2.1, ((fX4_over_1 (X.1, X.2.1, X.2.2.1, 1, X.2.2.2.2)).2).2.2.2.2.2.2.1, ((fX4_over_1 (X.1, X.2.1, X.2.2.1, 1, X.2.2.2.2)).2).2.2.2.2.2.2.2.1, ((fX4_over_1 (X.1, X.2.1, X.2.2.1, 1, X.2.2.2.2)).2).2.2.2.2.2.2.2.2.1, ((fX4_over_1 (X.1, X.2.1, X.2.2.1, 1, X.2.2.2.2)).2).2.2.2.2.2.2.2.2.2.1, ((fX4_over_1 (X.1, X.2.1, X.2.2.1, 1, X.2.2.2.2)).2).2.2.2.2.2.2.2.2.2.2)), (z1, cQ cJ z2 z3), (z2, cA4 cI (((fX4_over_1 (X.1, X.2.1, X.2.2.1, 1, X.2.2.2.2)).2).1.1, ((fX4_over_1 (X.1, X.2.1, X.2.2.1, 1, X.2.2.2.2)).2).1.2.1, ((fX4_over_1 (X.1, X.2.1, X.2.2.1, 1, X.2.2.2.2)).2).1.2.2.1, ((fX4_over_1 (X.1, X.2.1, X.2.2.1, 1, X.2.2.2.2)).2).1.2.2.2)), (z3, cA4 cI (((fX4_over_1 (X.1, X.2.1, X.2.2.1, 1, X.2.2.2.2)).2).2.1.1, ((fX4_over_1 (X.1, X.2.1, X.2.2.1, 1, X.2.2.2.2)).2).2.1.2.1, ((fX4_over_1 (X.1, X.2.1, X.2.2.1, 1, X.2.2.2.2)).2).2.1.2.2.1, ((fX4_over_1 (X.1, X.2.1, X.2.2.1, 1, X.2.2.2.2)).2).2.1.2.2.2)), (z4, cL b), (r1, cL zz4.2)]) rfl rfl rfl rfl (by decide) [z0, z1, z2, z3] rfl rfl rfl rfl 0 4 rfl rfl rfl (Nat.le_of_ble_eq_true rfl) ⟨Nat.le_of_ble_eq_true rfl, Nat.le_of_ble_eq_true rfl⟩ rfl dX4_strike_44 ?_
      generalize ezz13 : fX4_over_1 (X.1, X.2.1, X.2.2.1, 1, X.2.2.2.2) = zz13
      have hL : fX4_strike_1 p0 p1 p2 p3 X b = (zz13.1, zz13.2, none) := by subst ezz13; subst ezz4; exact (if_neg c5).trans ((if_neg c6).trans rfl)
      refine k_widen (k' := 2) (n' := 20) (Nat.le_of_ble_eq_true rfl) (Nat.le_of_ble_eq_true rfl) ?_
      refine k_wsub (w' := [(z0, cZ .null z1 zz13.2.2.2), (z1, cQ cJ z2 z3), (z2, cA4 cI zz13.2.1), (z3, cA4 cI zz13.2.2.1)]) [0, 1, 2, 3] rfl rfl ?_
      exact k_iretG C rfl (by rw [hL]; exact ⟨rfl, wSim_none cI cJ z0 z1 z2 z3 zz13.2⟩) dX4_strike_47
  ·
    refine k_aload_n C dX4_strike_23 2 rfl ?_
    refine k_iconst C 1 (by decide) dX4_strike_24 ?_
    refine k_aload_n C dX4_strike_25 2 rfl ?_
    refine k_getX4 C 0 1 rfl (by decide) rfl q424 rfl dX4_strike_26 ?_
    refine k_isubL C 0 (show (1 : Int32) - 1 = 0 from by decide) dX4_strike_29 ?_
    refine k_callV_i C (mX4_over_0 l D cI cJ z0 z1 z2 z3 (.ref z4) (X.1, X.2.1, X.2.2.1, 1, X.2.2.2.2)) (cwV 1 C.2.2.2.2.1 (kGV q652 q654 q32 q38 q655) rfl rfl rfl ⟨rfl, hdX4_over⟩ ⟨Nat.le_of_ble_eq_true rfl, Nat.le_of_ble_eq_true rfl⟩) [0, 1, 2, 3] [4, 5] [2, 3, 4, 5, 0, 1] [(z4, cL b), (r1, cL zz4.2)] ([(z0, cZ .null z1 (((fX4_over_0 (X.1, X.2.1, X.2.2.1, 1, X.2.2.2.2)).2).2.2.1, ((fX4_over_0 (X.1, X.2.1, X.2.2.1, 1, X.2.2.2.2)).2).2.2.2.1, ((fX4_over_0 (X.1, X.2.1, X.2.2.1, 1, X.2.2.2.2)).2).2.2.2.2.1, ((fX4_over_0 (X.1, X.2.1, X.2.2.1, 1, X.2.2.2.2)).2).2.2.2.2.2.1, ((fX4_over_0 (X.1, X.2.1, X.2.2.1, 1, X.2.2.2.2)).2).2.2.2.2.2.2.1, ((fX4_over_0 (X.1, X.2.1, X.2.2.1, 1, X.2.2.2.2)).2).2.2.2.2.2.2.2.1, ((fX4_over_0 (X.1, X.2.1, X.2.2.1, 1, X.2.2.2.2)).2).2.2.2.2.2.2.2.2.1, ((fX4_over_0 (X.1, X.2.1, X.2.2.1, 1, X.2.2.2.2)).2).2.2.2.2.2.2.2.2.2.1, ((fX4_over_0 (X.1, X.2.1, X.2.2.1, 1, X.2.2.2.2)).2).2.2.2.2.2.2.2.2.2.2)), (z1, cQ cJ z2 z3), (z2, cA4 cI (((fX4_over_0 (X.1, X.2.1, X.2.2.1, 1, X.2.2.2.2)).2).1.1, ((fX4_over_0 (X.1, X.2.1, X.2.2.1, 1, X.2.2.2.2)).2).1.2.1, ((fX4_over_0 (X.1, X.2.1, X.2.2.1, 1, X.2.2.2.2)).2).1.2.2.1, ((fX4_over_0 (X.1, X.2.1, X.2.2.1, 1, X.2.2.2.2)).2).1.2.2.2)), (z3, cA4 cI (((fX4_over_0 (X.1, X.2.1, X.2.2.1, 1, X.2.2.2.2)).2).2.1.1, ((fX4_over_0 (X.1, X.2.1, X.2.2.1, 1, X.2.2.2.2)).2).2.1.2.1, ((fX4_over_0 (X.1, X.2.1, X.2.2.1, 1, X.2.2.2.2)).2).2.1.2.2.1, ((fX4_over_0 (X.1, X.2.1, X.2.2.1, 1, X.2.2.2.2)).2).2.1.2.2.2)), (z4, cL b), (r1, cL zz4.2)]) rfl rfl rfl rfl (by decide) [z0, z1, z2, z3] rfl rfl rfl rfl 0 4 rfl rfl rfl (Nat.le_of_ble_eq_true rfl) ⟨Nat.le_of_ble_eq_true rfl, Nat.le_of_ble_eq_true rfl⟩ rfl dX4_strike_30 ?_
    generalize ezz14 : fX4_over_0 (X.1, X.2.1, X.2.2.1, 1, X.2.2.2.2) = zz14
    have hL : fX4_strike_1 p0 p1 p2 p3 X b = (zz14.1, zz14.2, none) := by subst ezz14; subst ezz4; exact (if_pos c5).trans rfl
    refine k_widen (k' := 2) (n' := 20) (Nat.le_of_ble_eq_true rfl) (Nat.le_of_ble_eq_true rfl) ?_
    refine k_wsub (w' := [(z0, cZ .null z1 zz14.2.2.2), (z1, cQ cJ z2 z3), (z2, cA4 cI zz14.2.1), (z3, cA4 cI zz14.2.2.1)]) [0, 1, 2, 3] rfl rfl ?_
    exact k_iretG C rfl (by rw [hL]; exact ⟨rfl, wSim_none cI cJ z0 z1 z2 z3 zz14.2⟩) dX4_strike_33

theorem hdX4_leave : yX4_leave.cls ≠ "java/lang/invoke/MethodHandle" ∧ yX4_leave.cls ≠ "java/lang/invoke/VarHandle" ∧ (parseMethodDescriptor yX4_leave.desc).map (fun d => d.parameters.length) = some 0 := by decide +kernel
noncomputable def fX4_leave_0 (X : Zs) (b : Lb) : Int32 × Zs × Option Lb :=
  if (fX3_go_ 9999 b).1 = 3 then ((fX4_over_1 (X.1, X.2.1, X.2.2.1, 0, X.2.2.2.2)).1, (fX4_over_1 (X.1, X.2.1, X.2.2.1, 0, X.2.2.2.2)).2, none)
  else ((fX4_over_0 (X.1, X.2.1, X.2.2.1, 0, X.2.2.2.2)).1, (fX4_over_0 (X.1, X.2.1, X.2.2.1, 0, X.2.2.2.2)).2, none)
set_option maxHeartbeats 4000000 in
set_option maxRecDepth 100000 in
theorem mX4_leave_0 (l : Launch) (D : va_G) (cI cJ : ClassId) (z0 z1 z2 z3 z4 : Nat) (X : Zs) (b : Lb) : kGi l D cI cJ yX4_leave (.code yX4_leave cX4_leave 2 (some .int)) { frames := 4, cells := 1, slots := 10, locals := 87 } [.ref z0] [(z0, cZ (.ref z4) z1 (X.2.2.1, 0, X.2.2.2.2)), (z1, cQ cJ z2 z3), (z2, cA4 cI X.1), (z3, cA4 cI X.2.1), (z4, cL b)] 1 10 (fun r U => r = (fX4_leave_0 X b).1 ∧ wSim cI cJ z0 (fX4_leave_0 X b).2.1 (fX4_leave_0 X b).2.2 U) := by
  refine fun sz => k_ofN (lv := [(0, .ref z0)]) (by decide) sz (Nat.le_of_ble_eq_true rfl) rfl ?_
  intro p e s m args below meth c hsz hnm C
  refine k_aload_n C dX4_leave_0 0 rfl ?_
  refine k_getX4 C 0 3 rfl (by decide) rfl q426 rfl dX4_leave_1 ?_
  refine k_callGV_r C (mX3_copyB l D cI cJ z4 b) (cwV 0 C.2.2.2.2.1 (kGV q646 q498 q499 q47 q500) rfl rfl rfl ⟨rfl, hdX3_copy⟩ ⟨Nat.le_of_ble_eq_true rfl, Nat.le_of_ble_eq_true rfl⟩) [4] [0, 1, 2, 3] [(z0, cZ (.ref z4) z1 (X.2.2.1, 0, X.2.2.2.2)), (z1, cQ cJ z2 z3), (z2, cA4 cI X.1), (z3, cA4 cI X.2.1)] rfl rfl rfl rfl (by decide) 4 3 rfl rfl rfl (Nat.le_of_ble_eq_true rfl) ⟨Nat.le_of_ble_eq_true rfl, Nat.le_of_ble_eq_true rfl⟩ rfl dX4_leave_4 (fun r1 U2 h3 => ?_)
  subst h3
  refine k_wsub (w' := [(z0, cZ (.ref z4) z1 (X.2.2.1, 0, X.2.2.2.2)), (z1, cQ cJ z2 z3), (z2, cA4 cI X.1), (z3, cA4 cI X.2.1), (z4, cL b), (r1, cL b)]) [0, 1, 2, 3, 4, 5] rfl rfl ?_
  refine k_sipush C 9999 (by decide) dX4_leave_7 ?_
  refine k_callV_i C (mX3_go_ l D cI cJ r1 9999 b) (cwV 1 C.2.2.2.2.1 (kGV q647 q648 q649 q47 q650) rfl rfl rfl ⟨rfl, hdX3_go_⟩ ⟨Nat.le_of_ble_eq_true rfl, Nat.le_of_ble_eq_true rfl⟩) [5] [0, 1, 2, 3, 4] [0, 1, 2, 3, 4, 5] [(z0, cZ (.ref z4) z1 (X.2.2.1, 0, X.2.2.2.2)), (z1, cQ cJ z2 z3), (z2, cA4 cI X.1), (z3, cA4 cI X.2.1), (z4, cL b)] ([(z0, cZ (.ref z4) z1 (X.2.2.1, 0, X.2.2.2.2)), (z1, cQ cJ z2 z3), (z2, cA4 cI X.1), (z3, cA4 cI X.2.1), (z4, cL b), (r1, cL (fX3_go_ 9999 b).2)]) rfl rfl rfl rfl (by decide) [r1] rfl rfl rfl rfl 5 3 rfl rfl rfl (Nat.le_of_ble_eq_true rfl) ⟨Nat.le_of_ble_eq_true rfl, Nat.le_of_ble_eq_true rfl⟩ rfl dX4_leave_10 ?_
  generalize ezz4 : fX3_go_ 9999 b = zz4
  refine k_istore_n C [(1, .int zz4.1), (0, .ref z0)] (by decide) rfl dX4_leave_13 ?_
  refine k_aload_n C dX4_leave_14 1 rfl ?_
  refine k_iload_n C dX4_leave_15 0 rfl ?_
  refine k_iconst C 3 (by decide) dX4_leave_16 ?_
  refine k_icmp_ne C 29 (by decide) dX4_leave_17 (fun c5 => ?_) (fun c5 => ?_)
  ·
    refine k_aload_n C dX4_leave_29 1 rfl ?_
    refine k_getX4 C 0 1 rfl (by decide) rfl q424 rfl dX4_leave_30 ?_
    refine k_callV_i C (mX4_over_0 l D cI cJ z0 z1 z2 z3 (.ref z4) (X.1, X.2.1, X.2.2.1, 0, X.2.2.2.2)) (cwV 1 C.2.2.2.2.1 (kGV q652 q654 q32 q38 q655) rfl rfl rfl ⟨rfl, hdX4_over⟩ ⟨Nat.le_of_ble_eq_true rfl, Nat.le_of_ble_eq_true rfl⟩) [0, 1, 2, 3] [4, 5] [2, 3, 4, 5, 0, 1] [(z4, cL b), (r1, cL zz4.2)] ([(z0, cZ .null z1 (((fX4_over_0 (X.1, X.2.1, X.2.2.1, 0, X.2.2.2.2)).2).2.2.1, ((fX4_over_0 (X.1, X.2.1, X.2.2.1, 0, X.2.2.2.2)).2).2.2.2.1, ((fX4_over_0 (X.1, X.2.1, X.2.2.1, 0, X.2.2.2.2)).2).2.2.2.2.1, ((fX4_over_0 (X.1, X.2.1, X.2.2.1, 0, X.2.2.2.2)).2).2.2.2.2.2.1, ((fX4_over_0 (X.1, X.2.1, X.2.2.1, 0, X.2.2.2.2)).2).2.2.2.2.2.2.1, ((fX4_over_0 (X.1, X.2.1, X.2.2.1, 0, X.2.2.2.2)).2).2.2.2.2.2.2.2.1, ((fX4_over_0 (X.1, X.2.1, X.2.2.1, 0, X.2.2.2.2)).2).2.2.2.2.2.2.2.2.1, ((fX4_over_0 (X.1, X.2.1, X.2.2.1, 0, X.2.2.2.2)).2).2.2.2.2.2.2.2.2.2.1, ((fX4_over_0 (X.1, X.2.1, X.2.2.1, 0, X.2.2.2.2)).2).2.2.2.2.2.2.2.2.2.2)), (z1, cQ cJ z2 z3), (z2, cA4 cI (((fX4_over_0 (X.1, X.2.1, X.2.2.1, 0, X.2.2.2.2)).2).1.1, ((fX4_over_0 (X.1, X.2.1, X.2.2.1, 0, X.2.2.2.2)).2).1.2.1, ((fX4_over_0 (X.1, X.2.1, X.2.2.1, 0, X.2.2.2.2)).2).1.2.2.1, ((fX4_over_0 (X.1, X.2.1, X.2.2.1, 0, X.2.2.2.2)).2).1.2.2.2)), (z3, cA4 cI (((fX4_over_0 (X.1, X.2.1, X.2.2.1, 0, X.2.2.2.2)).2).2.1.1, ((fX4_over_0 (X.1, X.2.1, X.2.2.1, 0, X.2.2.2.2)).2).2.1.2.1, ((fX4_over_0 (X.1, X.2.1, X.2.2.1, 0, X.2.2.2.2)).2).2.1.2.2.1, ((fX4_over_0 (X.1, X.2.1, X.2.2.1, 0, X.2.2.2.2)).2).2.1.2.2.2)), (z4, cL b), (r1, cL zz4.2)]) rfl rfl rfl rfl (by decide) [z0, z1, z2, z3] rfl rfl rfl rfl 0 4 rfl rfl rfl (Nat.le_of_ble_eq_true rfl) ⟨Nat.le_of_ble_eq_true rfl, Nat.le_of_ble_eq_true rfl⟩ rfl dX4_leave_33 ?_
    generalize ezz6 : fX4_over_0 (X.1, X.2.1, X.2.2.1, 0, X.2.2.2.2) = zz6
    have hL : fX4_leave_0 X b = (zz6.1, zz6.2, none) := by subst ezz6; subst ezz4; exact (if_neg c5).trans rfl
    refine k_widen (k' := 1) (n' := 10) (Nat.le_of_ble_eq_true rfl) (Nat.le_of_ble_eq_true rfl) ?_
    refine k_wsub (w' := [(z0, cZ .null z1 zz6.2.2.2), (z1, cQ cJ z2 z3), (z2, cA4 cI zz6.2.1), (z3, cA4 cI zz6.2.2.1)]) [0, 1, 2, 3] rfl rfl ?_
    exact k_iretG C rfl (by rw [hL]; exact ⟨rfl, wSim_none cI cJ z0 z1 z2 z3 zz6.2⟩) dX4_leave_36
  ·
    refine k_iconst C 1 (by decide) dX4_leave_20 ?_
    refine k_aload_n C dX4_leave_21 1 rfl ?_
    refine k_getX4 C 0 1 rfl (by decide) rfl q424 rfl dX4_leave_22 ?_
    refine k_isubL C 1 (show (1 : Int32) - 0 = 1 from by decide) dX4_leave_25 ?_
    refine k_goto C 33 (by decide) dX4_leave_26 ?_
    refine k_callV_i C (mX4_over_1 l D cI cJ z0 z1 z2 z3 (.ref z4) (X.1, X.2.1, X.2.2.1, 0, X.2.2.2.2)) (cwV 1 C.2.2.2.2.1 (kGV q652 q654 q32 q38 q655) rfl rfl rfl ⟨rfl, hdX4_over⟩ ⟨Nat.le_of_ble_eq_true rfl, Nat.le_of_ble_eq_true rfl⟩) [0, 1, 2, 3] [4, 5] [2, 3, 4, 5, 0, 1] [(z4, cL b), (r1, cL zz4.2)] ([(z0, cZ .null z1 (((fX4_over_1 (X.1, X.2.1, X.2.2.1, 0, X.2.2.2.2)).2).2.2.1, ((fX4_over_1 (X.1, X.2.1, X.2.2.1, 0, X.2.2.2.2)).2).2.2.2.1, ((fX4_over_1 (X.1, X.2.1, X.2.2.1, 0, X.2.2.2.2)).2).2.2.2.2.1, ((fX4_over_1 (X.1, X.2.1, X.2.2.1, 0, X.2.2.2.2)).2).2.2.2.2.2.1, ((fX4_over_1 (X.1, X.2.1, X.2.2.1, 0, X.2.2.2.2)).2).2.2.2.2.2.2.1, ((fX4_over_1 (X.1, X.2.1, X.2.2.1, 0, X.2.2.2.2)).2).2.2.2.2.2.2.2.1, ((fX4_over_1 (X.1, X.2.1, X.2.2.1, 0, X.2.2.2.2)).2).2.2.2.2.2.2.2.2.1, ((fX4_over_1 (X.1, X.2.1, X.2.2.1, 0, X.2.2.2.2)).2).2.2.2.2.2.2.2.2.2.1, ((fX4_over_1 (X.1, X.2.1, X.2.2.1, 0, X.2.2.2.2)).2).2.2.2.2.2.2.2.2.2.2)), (z1, cQ cJ z2 z3), (z2, cA4 cI (((fX4_over_1 (X.1, X.2.1, X.2.2.1, 0, X.2.2.2.2)).2).1.1, ((fX4_over_1 (X.1, X.2.1, X.2.2.1, 0, X.2.2.2.2)).2).1.2.1, ((fX4_over_1 (X.1, X.2.1, X.2.2.1, 0, X.2.2.2.2)).2).1.2.2.1, ((fX4_over_1 (X.1, X.2.1, X.2.2.1, 0, X.2.2.2.2)).2).1.2.2.2)), (z3, cA4 cI (((fX4_over_1 (X.1, X.2.1, X.2.2.1, 0, X.2.2.2.2)).2).2.1.1, ((fX4_over_1 (X.1, X.2.1, X.2.2.1, 0, X.2.2.2.2)).2).2.1.2.1, ((fX4_over_1 (X.1, X.2.1, X.2.2.1, 0, X.2.2.2.2)).2).2.1.2.2.1, ((fX4_over_1 (X.1, X.2.1, X.2.2.1, 0, X.2.2.2.2)).2).2.1.2.2.2)), (z4, cL b), (r1, cL zz4.2)]) rfl rfl rfl rfl (by decide) [z0, z1, z2, z3] rfl rfl rfl rfl 0 4 rfl rfl rfl (Nat.le_of_ble_eq_true rfl) ⟨Nat.le_of_ble_eq_true rfl, Nat.le_of_ble_eq_true rfl⟩ rfl dX4_leave_33 ?_
    generalize ezz7 : fX4_over_1 (X.1, X.2.1, X.2.2.1, 0, X.2.2.2.2) = zz7
    have hL : fX4_leave_0 X b = (zz7.1, zz7.2, none) := by subst ezz7; subst ezz4; exact (if_pos c5).trans rfl
    refine k_widen (k' := 1) (n' := 10) (Nat.le_of_ble_eq_true rfl) (Nat.le_of_ble_eq_true rfl) ?_
    refine k_wsub (w' := [(z0, cZ .null z1 zz7.2.2.2), (z1, cQ cJ z2 z3), (z2, cA4 cI zz7.2.1), (z3, cA4 cI zz7.2.2.1)]) [0, 1, 2, 3] rfl rfl ?_
    exact k_iretG C rfl (by rw [hL]; exact ⟨rfl, wSim_none cI cJ z0 z1 z2 z3 zz7.2⟩) dX4_leave_36

noncomputable def fX4_leave_1 (X : Zs) (b : Lb) : Int32 × Zs × Option Lb :=
  if (fX3_go_ 9999 b).1 = 3 then ((fX4_over_0 (X.1, X.2.1, X.2.2.1, 1, X.2.2.2.2)).1, (fX4_over_0 (X.1, X.2.1, X.2.2.1, 1, X.2.2.2.2)).2, none)
  else ((fX4_over_1 (X.1, X.2.1, X.2.2.1, 1, X.2.2.2.2)).1, (fX4_over_1 (X.1, X.2.1, X.2.2.1, 1, X.2.2.2.2)).2, none)
set_option maxHeartbeats 4000000 in
set_option maxRecDepth 100000 in
theorem mX4_leave_1 (l : Launch) (D : va_G) (cI cJ : ClassId) (z0 z1 z2 z3 z4 : Nat) (X : Zs) (b : Lb) : kGi l D cI cJ yX4_leave (.code yX4_leave cX4_leave 2 (some .int)) { frames := 4, cells := 1, slots := 10, locals := 87 } [.ref z0] [(z0, cZ (.ref z4) z1 (X.2.2.1, 1, X.2.2.2.2)), (z1, cQ cJ z2 z3), (z2, cA4 cI X.1), (z3, cA4 cI X.2.1), (z4, cL b)] 1 10 (fun r U => r = (fX4_leave_1 X b).1 ∧ wSim cI cJ z0 (fX4_leave_1 X b).2.1 (fX4_leave_1 X b).2.2 U) := by
  refine fun sz => k_ofN (lv := [(0, .ref z0)]) (by decide) sz (Nat.le_of_ble_eq_true rfl) rfl ?_
  intro p e s m args below meth c hsz hnm C
  refine k_aload_n C dX4_leave_0 0 rfl ?_
  refine k_getX4 C 0 3 rfl (by decide) rfl q426 rfl dX4_leave_1 ?_
  refine k_callGV_r C (mX3_copyB l D cI cJ z4 b) (cwV 0 C.2.2.2.2.1 (kGV q646 q498 q499 q47 q500) rfl rfl rfl ⟨rfl, hdX3_copy⟩ ⟨Nat.le_of_ble_eq_true rfl, Nat.le_of_ble_eq_true rfl⟩) [4] [0, 1, 2, 3] [(z0, cZ (.ref z4) z1 (X.2.2.1, 1, X.2.2.2.2)), (z1, cQ cJ z2 z3), (z2, cA4 cI X.1), (z3, cA4 cI X.2.1)] rfl rfl rfl rfl (by decide) 4 3 rfl rfl rfl (Nat.le_of_ble_eq_true rfl) ⟨Nat.le_of_ble_eq_true rfl, Nat.le_of_ble_eq_true rfl⟩ rfl dX4_leave_4 (fun r1 U2 h3 => ?_)
  subst h3
  refine k_wsub (w' := [(z0, cZ (.ref z4) z1 (X.2.2.1, 1, X.2.2.2.2)), (z1, cQ cJ z2 z3), (z2, cA4 cI X.1), (z3, cA4 cI X.2.1), (z4, cL b), (r1, cL b)]) [0, 1, 2, 3, 4, 5] rfl rfl ?_
  refine k_sipush C 9999 (by decide) dX4_leave_7 ?_
  refine k_callV_i C (mX3_go_ l D cI cJ r1 9999 b) (cwV 1 C.2.2.2.2.1 (kGV q647 q648 q649 q47 q650) rfl rfl rfl ⟨rfl, hdX3_go_⟩ ⟨Nat.le_of_ble_eq_true rfl, Nat.le_of_ble_eq_true rfl⟩) [5] [0, 1, 2, 3, 4] [0, 1, 2, 3, 4, 5] [(z0, cZ (.ref z4) z1 (X.2.2.1, 1, X.2.2.2.2)), (z1, cQ cJ z2 z3), (z2, cA4 cI X.1), (z3, cA4 cI X.2.1), (z4, cL b)] ([(z0, cZ (.ref z4) z1 (X.2.2.1, 1, X.2.2.2.2)), (z1, cQ cJ z2 z3), (z2, cA4 cI X.1), (z3, cA4 cI X.2.1), (z4, cL b), (r1, cL (fX3_go_ 9999 b).2)]) rfl rfl rfl rfl (by decide) [r1] rfl rfl rfl rfl 5 3 rfl rfl rfl (Nat.le_of_ble_eq_true rfl) ⟨Nat.le_of_ble_eq_true rfl, Nat.le_of_ble_eq_true rfl⟩ rfl dX4_leave_10 ?_
  generalize ezz4 : fX3_go_ 9999 b = zz4
  refine k_istore_n C [(1, .int zz4.1), (0, .ref z0)] (by decide) rfl dX4_leave_13 ?_
  refine k_aload_n C dX4_leave_14 1 rfl ?_
  refine k_iload_n C dX4_leave_15 0 rfl ?_
  refine k_iconst C 3 (by decide) dX4_leave_16 ?_
  refine k_icmp_ne C 29 (by decide) dX4_leave_17 (fun c5 => ?_) (fun c5 => ?_)
  ·
    refine k_aload_n C dX4_leave_29 1 rfl ?_
    refine k_getX4 C 0 1 rfl (by decide) rfl q424 rfl dX4_leave_30 ?_
    refine k_callV_i C (mX4_over_1 l D cI cJ z0 z1 z2 z3 (.ref z4) (X.1, X.2.1, X.2.2.1, 1, X.2.2.2.2)) (cwV 1 C.2.2.2.2.1 (kGV q652 q654 q32 q38 q655) rfl rfl rfl ⟨rfl, hdX4_over⟩ ⟨Nat.le_of_ble_eq_true rfl, Nat.le_of_ble_eq_true rfl⟩) [0, 1, 2, 3] [4, 5] [2, 3, 4, 5, 0, 1] [(z4, cL b), (r1, cL zz4.2)] ([(z0, cZ .null z1 (((fX4_over_1 (X.1, X.2.1, X.2.2.1, 1, X.2.2.2.2)).2).2.2.1, ((fX4_over_1 (X.1, X.2.1, X.2.2.1, 1, X.2.2.2.2)).2).2.2.2.1, ((fX4_over_1 (X.1, X.2.1, X.2.2.1, 1, X.2.2.2.2)).2).2.2.2.2.1, ((fX4_over_1 (X.1, X.2.1, X.2.2.1, 1, X.2.2.2.2)).2).2.2.2.2.2.1, ((fX4_over_1 (X.1, X.2.1, X.2.2.1, 1, X.2.2.2.2)).2).2.2.2.2.2.2.1, ((fX4_over_1 (X.1, X.2.1, X.2.2.1, 1, X.2.2.2.2)).2).2.2.2.2.2.2.2.1, ((fX4_over_1 (X.1, X.2.1, X.2.2.1, 1, X.2.2.2.2)).2).2.2.2.2.2.2.2.2.1, ((fX4_over_1 (X.1, X.2.1, X.2.2.1, 1, X.2.2.2.2)).2).2.2.2.2.2.2.2.2.2.1, ((fX4_over_1 (X.1, X.2.1, X.2.2.1, 1, X.2.2.2.2)).2).2.2.2.2.2.2.2.2.2.2)), (z1, cQ cJ z2 z3), (z2, cA4 cI (((fX4_over_1 (X.1, X.2.1, X.2.2.1, 1, X.2.2.2.2)).2).1.1, ((fX4_over_1 (X.1, X.2.1, X.2.2.1, 1, X.2.2.2.2)).2).1.2.1, ((fX4_over_1 (X.1, X.2.1, X.2.2.1, 1, X.2.2.2.2)).2).1.2.2.1, ((fX4_over_1 (X.1, X.2.1, X.2.2.1, 1, X.2.2.2.2)).2).1.2.2.2)), (z3, cA4 cI (((fX4_over_1 (X.1, X.2.1, X.2.2.1, 1, X.2.2.2.2)).2).2.1.1, ((fX4_over_1 (X.1, X.2.1, X.2.2.1, 1, X.2.2.2.2)).2).2.1.2.1, ((fX4_over_1 (X.1, X.2.1, X.2.2.1, 1, X.2.2.2.2)).2).2.1.2.2.1, ((fX4_over_1 (X.1, X.2.1, X.2.2.1, 1, X.2.2.2.2)).2).2.1.2.2.2)), (z4, cL b), (r1, cL zz4.2)]) rfl rfl rfl rfl (by decide) [z0, z1, z2, z3] rfl rfl rfl rfl 0 4 rfl rfl rfl (Nat.le_of_ble_eq_true rfl) ⟨Nat.le_of_ble_eq_true rfl, Nat.le_of_ble_eq_true rfl⟩ rfl dX4_leave_33 ?_
    generalize ezz6 : fX4_over_1 (X.1, X.2.1, X.2.2.1, 1, X.2.2.2.2) = zz6
    have hL : fX4_leave_1 X b = (zz6.1, zz6.2, none) := by subst ezz6; subst ezz4; exact (if_neg c5).trans rfl
    refine k_widen (k' := 1) (n' := 10) (Nat.le_of_ble_eq_true rfl) (Nat.le_of_ble_eq_true rfl) ?_
    refine k_wsub (w' := [(z0, cZ .null z1 zz6.2.2.2), (z1, cQ cJ z2 z3), (z2, cA4 cI zz6.2.1), (z3, cA4 cI zz6.2.2.1)]) [0, 1, 2, 3] rfl rfl ?_
    exact k_iretG C rfl (by rw [hL]; exact ⟨rfl, wSim_none cI cJ z0 z1 z2 z3 zz6.2⟩) dX4_leave_36
  ·
    refine k_iconst C 1 (by decide) dX4_leave_20 ?_
    refine k_aload_n C dX4_leave_21 1 rfl ?_
    refine k_getX4 C 0 1 rfl (by decide) rfl q424 rfl dX4_leave_22 ?_
    refine k_isubL C 0 (show (1 : Int32) - 1 = 0 from by decide) dX4_leave_25 ?_
    refine k_goto C 33 (by decide) dX4_leave_26 ?_
    refine k_callV_i C (mX4_over_0 l D cI cJ z0 z1 z2 z3 (.ref z4) (X.1, X.2.1, X.2.2.1, 1, X.2.2.2.2)) (cwV 1 C.2.2.2.2.1 (kGV q652 q654 q32 q38 q655) rfl rfl rfl ⟨rfl, hdX4_over⟩ ⟨Nat.le_of_ble_eq_true rfl, Nat.le_of_ble_eq_true rfl⟩) [0, 1, 2, 3] [4, 5] [2, 3, 4, 5, 0, 1] [(z4, cL b), (r1, cL zz4.2)] ([(z0, cZ .null z1 (((fX4_over_0 (X.1, X.2.1, X.2.2.1, 1, X.2.2.2.2)).2).2.2.1, ((fX4_over_0 (X.1, X.2.1, X.2.2.1, 1, X.2.2.2.2)).2).2.2.2.1, ((fX4_over_0 (X.1, X.2.1, X.2.2.1, 1, X.2.2.2.2)).2).2.2.2.2.1, ((fX4_over_0 (X.1, X.2.1, X.2.2.1, 1, X.2.2.2.2)).2).2.2.2.2.2.1, ((fX4_over_0 (X.1, X.2.1, X.2.2.1, 1, X.2.2.2.2)).2).2.2.2.2.2.2.1, ((fX4_over_0 (X.1, X.2.1, X.2.2.1, 1, X.2.2.2.2)).2).2.2.2.2.2.2.2.1, ((fX4_over_0 (X.1, X.2.1, X.2.2.1, 1, X.2.2.2.2)).2).2.2.2.2.2.2.2.2.1, ((fX4_over_0 (X.1, X.2.1, X.2.2.1, 1, X.2.2.2.2)).2).2.2.2.2.2.2.2.2.2.1, ((fX4_over_0 (X.1, X.2.1, X.2.2.1, 1, X.2.2.2.2)).2).2.2.2.2.2.2.2.2.2.2)), (z1, cQ cJ z2 z3), (z2, cA4 cI (((fX4_over_0 (X.1, X.2.1, X.2.2.1, 1, X.2.2.2.2)).2).1.1, ((fX4_over_0 (X.1, X.2.1, X.2.2.1, 1, X.2.2.2.2)).2).1.2.1, ((fX4_over_0 (X.1, X.2.1, X.2.2.1, 1, X.2.2.2.2)).2).1.2.2.1, ((fX4_over_0 (X.1, X.2.1, X.2.2.1, 1, X.2.2.2.2)).2).1.2.2.2)), (z3, cA4 cI (((fX4_over_0 (X.1, X.2.1, X.2.2.1, 1, X.2.2.2.2)).2).2.1.1, ((fX4_over_0 (X.1, X.2.1, X.2.2.1, 1, X.2.2.2.2)).2).2.1.2.1, ((fX4_over_0 (X.1, X.2.1, X.2.2.1, 1, X.2.2.2.2)).2).2.1.2.2.1, ((fX4_over_0 (X.1, X.2.1, X.2.2.1, 1, X.2.2.2.2)).2).2.1.2.2.2)), (z4, cL b), (r1, cL zz4.2)]) rfl rfl rfl rfl (by decide) [z0, z1, z2, z3] rfl rfl rfl rfl 0 4 rfl rfl rfl (Nat.le_of_ble_eq_true rfl) ⟨Nat.le_of_ble_eq_true rfl, Nat.le_of_ble_eq_true rfl⟩ rfl dX4_leave_33 ?_
    generalize ezz7 : fX4_over_0 (X.1, X.2.1, X.2.2.1, 1, X.2.2.2.2) = zz7
    have hL : fX4_leave_1 X b = (zz7.1, zz7.2, none) := by subst ezz7; subst ezz4; exact (if_pos c5).trans rfl
    refine k_widen (k' := 1) (n' := 10) (Nat.le_of_ble_eq_true rfl) (Nat.le_of_ble_eq_true rfl) ?_
    refine k_wsub (w' := [(z0, cZ .null z1 zz7.2.2.2), (z1, cQ cJ z2 z3), (z2, cA4 cI zz7.2.1), (z3, cA4 cI zz7.2.2.1)]) [0, 1, 2, 3] rfl rfl ?_
    exact k_iretG C rfl (by rw [hL]; exact ⟨rfl, wSim_none cI cJ z0 z1 z2 z3 zz7.2⟩) dX4_leave_36

theorem hdX4_match : yX4_match.cls ≠ "java/lang/invoke/MethodHandle" ∧ yX4_match.cls ≠ "java/lang/invoke/VarHandle" ∧ (parseMethodDescriptor yX4_match.desc).map (fun d => d.parameters.length) = some 1 := by decide +kernel
noncomputable def fX4_match (p0 : Int32) (X : Zs) : Int32 × Zs × Option Lb :=
  ((X.1.2.1 + X.2.1.2.1), ((0, 0, 0, 0), (0, 0, 0, 0), p0, (-1), X.2.2.2.2.1, X.2.2.2.2.2.1, X.2.2.2.2.2.2.1, X.2.2.2.2.2.2.2.1, 12, 0, X.2.2.2.2.2.2.2.2.2.2), none)
set_option maxHeartbeats 4000000 in
set_option maxRecDepth 100000 in
theorem mX4_match (l : Launch) (D : va_G) (cI cJ : ClassId) (z0 z1 z2 z3 : Nat) (p0 : Int32) (X : Zs) : kGi l D cI cJ yX4_match (.code yX4_match cX4_match 3 (some .int)) { frames := 0, cells := 3, slots := 10, locals := 0 } [.ref z0, .int p0] [(z0, cZ .null z1 X.2.2), (z1, cQ cJ z2 z3), (z2, cA4 cI X.1), (z3, cA4 cI X.2.1)] 3 10 (fun r U => r = (fX4_match p0 X).1 ∧ wSim cI cJ z0 (fX4_match p0 X).2.1 (fX4_match p0 X).2.2 U) := by
  refine fun sz => k_ofN (lv := [(0, .ref z0), (1, .int p0)]) (by decide) sz (Nat.le_of_ble_eq_true rfl) rfl ?_
  intro p e s m args below meth c hsz hnm C
  refine k_aload_n C dX4_match_0 0 rfl ?_
  refine k_getX4 C 0 4 rfl (by decide) rfl q428 rfl dX4_match_1 ?_
  refine k_iconst C 0 (by decide) dX4_match_4 ?_
  refine k_aald C 1 rfl vi2_0 (fq_l0 _ _) dX4_match_5 ?_
  refine k_iconst C 1 (by decide) dX4_match_6 ?_
  refine k_iald C 2 rfl vi4_1 (ar4_l1 _) dX4_match_7 ?_
  refine k_aload_n C dX4_match_8 0 rfl ?_
  refine k_getX4 C 0 4 rfl (by decide) rfl q428 rfl dX4_match_9 ?_
  refine k_iconst C 1 (by decide) dX4_match_12 ?_
  refine k_aald C 1 rfl vi2_1 (fq_l1 _ _) dX4_match_13 ?_
  refine k_iconst C 1 (by decide) dX4_match_14 ?_
  refine k_iald C 3 rfl vi4_1 (ar4_l1 _) dX4_match_15 ?_
  refine k_iadd C dX4_match_16 ?_
  refine k_istore_n C [(2, .int (X.1.2.1 + X.2.1.2.1)), (0, .ref z0), (1, .int p0)] (by decide) rfl dX4_match_17 ?_
  refine k_aload_n C dX4_match_18 1 rfl ?_
  refine k_iconst C 2 (by decide) dX4_match_19 ?_
  refine k_iconst C 4 (by decide) dX4_match_20 ?_
  refine k_new24 C (Nat.le_of_ble_eq_true rfl) (Nat.le_of_ble_eq_true rfl) dX4_match_21 (fun q1 q2 q3 => ?_)
  refine k_putX4 C [(z0, cZ .null q1 X.2.2), (z1, cQ cJ z2 z3), (z2, cA4 cI X.1), (z3, cA4 cI X.2.1), (q1, cQ cJ q2 q3), (q2, cA4 cI (0, 0, 0, 0)), (q3, cA4 cI (0, 0, 0, 0))] 0 4 rfl rfl (by decide) q428 rfl rfl fdQ rfl rfl (Nat.le_of_ble_eq_true rfl) dX4_match_25 ?_
  refine k_aload_n C dX4_match_28 1 rfl ?_
  refine k_bipush C 12 (by decide) dX4_match_29 ?_
  refine k_putX4 C [(z0, cZ .null q1 (X.2.2.1, X.2.2.2.1, X.2.2.2.2.1, X.2.2.2.2.2.1, X.2.2.2.2.2.2.1, X.2.2.2.2.2.2.2.1, 12, X.2.2.2.2.2.2.2.2.2)), (z1, cQ cJ z2 z3), (z2, cA4 cI X.1), (z3, cA4 cI X.2.1), (q1, cQ cJ q2 q3), (q2, cA4 cI (0, 0, 0, 0)), (q3, cA4 cI (0, 0, 0, 0))] 0 8 rfl rfl (by decide) q433 rfl rfl fdI rfl rfl (Nat.le_of_ble_eq_true rfl) dX4_match_31 ?_
  refine k_aload_n C dX4_match_34 1 rfl ?_
  refine k_iconst C 0 (by decide) dX4_match_35 ?_
  refine k_putX4 C [(z0, cZ .null q1 (X.2.2.1, X.2.2.2.1, X.2.2.2.2.1, X.2.2.2.2.2.1, X.2.2.2.2.2.2.1, X.2.2.2.2.2.2.2.1, 12, 0, X.2.2.2.2.2.2.2.2.2.2)), (z1, cQ cJ z2 z3), (z2, cA4 cI X.1), (z3, cA4 cI X.2.1), (q1, cQ cJ q2 q3), (q2, cA4 cI (0, 0, 0, 0)), (q3, cA4 cI (0, 0, 0, 0))] 0 9 rfl rfl (by decide) q435 rfl rfl fdZ rfl rfl (Nat.le_of_ble_eq_true rfl) dX4_match_36 ?_
  refine k_aload_n C dX4_match_39 1 rfl ?_
  refine k_null C dX4_match_40 ?_
  refine k_putX4 C [(z0, cZ .null q1 (X.2.2.1, X.2.2.2.1, X.2.2.2.2.1, X.2.2.2.2.2.1, X.2.2.2.2.2.2.1, X.2.2.2.2.2.2.2.1, 12, 0, X.2.2.2.2.2.2.2.2.2.2)), (z1, cQ cJ z2 z3), (z2, cA4 cI X.1), (z3, cA4 cI X.2.1), (q1, cQ cJ q2 q3), (q2, cA4 cI (0, 0, 0, 0)), (q3, cA4 cI (0, 0, 0, 0))] 0 3 rfl rfl (by decide) q426 rfl rfl fdB rfl rfl (Nat.le_of_ble_eq_true rfl) dX4_match_41 ?_
  refine k_aload_n C dX4_match_44 1 rfl ?_
  refine k_iconst C (-1) (by decide) dX4_match_45 ?_
  refine k_putX4 C [(z0, cZ .null q1 (X.2.2.1, (-1), X.2.2.2.2.1, X.2.2.2.2.2.1, X.2.2.2.2.2.2.1, X.2.2.2.2.2.2.2.1, 12, 0, X.2.2.2.2.2.2.2.2.2.2)), (z1, cQ cJ z2 z3), (z2, cA4 cI X.1), (z3, cA4 cI X.2.1), (q1, cQ cJ q2 q3), (q2, cA4 cI (0, 0, 0, 0)), (q3, cA4 cI (0, 0, 0, 0))] 0 1 rfl rfl (by decide) q424 rfl rfl fdI rfl rfl (Nat.le_of_ble_eq_true rfl) dX4_match_46 ?_
  refine k_aload_n C dX4_match_49 1 rfl ?_
  refine k_iload_n C dX4_match_50 2 rfl ?_
  refine k_putX4 C [(z0, cZ .null q1 (p0, (-1), X.2.2.2.2.1, X.2.2.2.2.2.1, X.2.2.2.2.2.2.1, X.2.2.2.2.2.2.2.1, 12, 0, X.2.2.2.2.2.2.2.2.2.2)), (z1, cQ cJ z2 z3), (z2, cA4 cI X.1), (z3, cA4 cI X.2.1), (q1, cQ cJ q2 q3), (q2, cA4 cI (0, 0, 0, 0)), (q3, cA4 cI (0, 0, 0, 0))] 0 0 rfl rfl (by decide) q423 rfl rfl fdI rfl rfl (Nat.le_of_ble_eq_true rfl) dX4_match_51 ?_
  refine k_iload_n C dX4_match_54 0 rfl ?_
  have hL : fX4_match p0 X = ((X.1.2.1 + X.2.1.2.1), ((0, 0, 0, 0), (0, 0, 0, 0), p0, (-1), X.2.2.2.2.1, X.2.2.2.2.2.1, X.2.2.2.2.2.2.1, X.2.2.2.2.2.2.2.1, 12, 0, X.2.2.2.2.2.2.2.2.2.2), none) := by exact rfl
  refine k_widen (k' := 3) (n' := 10) (Nat.le_of_ble_eq_true rfl) (Nat.le_of_ble_eq_true rfl) ?_
  refine k_wsub (w' := [(z0, cZ .null q1 (p0, (-1), X.2.2.2.2.1, X.2.2.2.2.2.1, X.2.2.2.2.2.2.1, X.2.2.2.2.2.2.2.1, 12, 0, X.2.2.2.2.2.2.2.2.2.2)), (q1, cQ cJ q2 q3), (q2, cA4 cI (0, 0, 0, 0)), (q3, cA4 cI (0, 0, 0, 0))]) [0, 4, 5, 6] rfl rfl ?_
  exact k_iretG C rfl (by rw [hL]; exact ⟨rfl, wSim_none cI cJ z0 q1 q2 q3 ((0, 0, 0, 0), (0, 0, 0, 0), p0, (-1), X.2.2.2.2.1, X.2.2.2.2.2.1, X.2.2.2.2.2.2.1, X.2.2.2.2.2.2.2.1, 12, 0, X.2.2.2.2.2.2.2.2.2.2)⟩) dX4_match_55
