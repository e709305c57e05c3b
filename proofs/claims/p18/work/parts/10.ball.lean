/-! the ball: methods without a loop -/
theorem hdX0_isButtress : yX0_isButtress.cls ≠ "java/lang/invoke/MethodHandle" ∧ yX0_isButtress.cls ≠ "java/lang/invoke/VarHandle" ∧ (parseMethodDescriptor yX0_isButtress.desc).map (fun d => d.parameters.length) = some 2 := by decide +kernel
noncomputable def fX0_isButtress (p0 : Int32) (p1 : Int32) : Int32 :=
  if 1 < p0 then 0
  else (if p1 < 10 then 0
    else (if 12 < p1 then 0
      else 1))
set_option maxHeartbeats 4000000 in
set_option maxRecDepth 100000 in
theorem mX0_isButtress (l : Launch) (D : va_G) (cI cJ : ClassId) (p0 : Int32) (p1 : Int32)  : kCi l D cI cJ yX0_isButtress (.code yX0_isButtress cX0_isButtress 2 (some .boolean)) { frames := 0, cells := 0, slots := 0, locals := 0 } [.int p0, .int p1] [] (fX0_isButtress p0 p1) [] := by
  refine fun sz => k_of (lv := [(0, .int p0), (1, .int p1)]) (by decide) sz (by exact Nat.le_of_ble_eq_true rfl) rfl ?_
  intro p e s m args below meth c hsz C
  refine k_iload_n C dX0_isButtress_0 0 rfl ?_
  refine k_iconst C 1 (by decide) dX0_isButtress_1 ?_
  refine k_icmp_gt C 21 (by decide) dX0_isButtress_2 (fun c1 => ?_) (fun c1 => ?_)
  ·
    refine k_iconst C 0 (by decide) dX0_isButtress_21 ?_
    have hL : fX0_isButtress p0 p1 = 0 := by exact (if_pos c1).trans rfl
    exact k_zret C rfl rfl (hL.symm) rfl dX0_isButtress_22
  ·
    refine k_iload_n C dX0_isButtress_5 1 rfl ?_
    refine k_bipush C 10 (by decide) dX0_isButtress_6 ?_
    refine k_icmp_lt C 21 (by decide) dX0_isButtress_8 (fun c2 => ?_) (fun c2 => ?_)
    ·
      refine k_iconst C 0 (by decide) dX0_isButtress_21 ?_
      have hL : fX0_isButtress p0 p1 = 0 := by exact (if_neg c1).trans ((if_pos c2).trans rfl)
      exact k_zret C rfl rfl (hL.symm) rfl dX0_isButtress_22
    ·
      refine k_iload_n C dX0_isButtress_11 1 rfl ?_
      refine k_bipush C 12 (by decide) dX0_isButtress_12 ?_
      refine k_icmp_gt C 21 (by decide) dX0_isButtress_14 (fun c3 => ?_) (fun c3 => ?_)
      ·
        refine k_iconst C 0 (by decide) dX0_isButtress_21 ?_
        have hL : fX0_isButtress p0 p1 = 0 := by exact (if_neg c1).trans ((if_neg c2).trans ((if_pos c3).trans rfl))
        exact k_zret C rfl rfl (hL.symm) rfl dX0_isButtress_22
      ·
        refine k_iconst C 1 (by decide) dX0_isButtress_17 ?_
        refine k_goto C 22 (by decide) dX0_isButtress_18 ?_
        have hL : fX0_isButtress p0 p1 = 1 := by exact (if_neg c1).trans ((if_neg c2).trans ((if_neg c3).trans rfl))
        exact k_zret C rfl rfl (hL.symm) rfl dX0_isButtress_22

theorem hdX0_placeToServe : yX0_placeToServe.cls ≠ "java/lang/invoke/MethodHandle" ∧ yX0_placeToServe.cls ≠ "java/lang/invoke/VarHandle" ∧ (parseMethodDescriptor yX0_placeToServe.desc).map (fun d => d.parameters.length) = some 0 := by decide +kernel
noncomputable def fX0_placeToServe (b : Ba) : Ba :=
  (6, 14, 3, b.2.2.2)
set_option maxHeartbeats 4000000 in
set_option maxRecDepth 100000 in
theorem mX0_placeToServe (l : Launch) (D : va_G) (cI cJ : ClassId) (h : Nat) (b : Ba)  : kCv l D cI cJ yX0_placeToServe (.code yX0_placeToServe cX0_placeToServe 1 none) { frames := 0, cells := 0, slots := 0, locals := 0 } [.ref h] [(h, cB b)] [(h, cB (fX0_placeToServe b))] := by
  refine fun sz => k_of (lv := [(0, .ref h)]) (by decide) sz (by exact Nat.le_of_ble_eq_true rfl) rfl ?_
  intro p e s m args below meth c hsz C
  refine k_aload_n C dX0_placeToServe_0 0 rfl ?_
  refine k_bipush C 6 (by decide) dX0_placeToServe_1 ?_
  refine k_putX0 C [(h, cB (6, b.2))] 0 0 rfl rfl (by decide) q85 rfl rfl fdI rfl rfl (Nat.le_of_ble_eq_true rfl) dX0_placeToServe_3 ?_
  refine k_aload_n C dX0_placeToServe_6 0 rfl ?_
  refine k_bipush C 14 (by decide) dX0_placeToServe_7 ?_
  refine k_putX0 C [(h, cB (6, 14, b.2.2))] 0 1 rfl rfl (by decide) q86 rfl rfl fdI rfl rfl (Nat.le_of_ble_eq_true rfl) dX0_placeToServe_9 ?_
  refine k_aload_n C dX0_placeToServe_12 0 rfl ?_
  refine k_iconst C 3 (by decide) dX0_placeToServe_13 ?_
  refine k_putX0 C [(h, cB (6, 14, 3, b.2.2.2))] 0 2 rfl rfl (by decide) q87 rfl rfl fdI rfl rfl (Nat.le_of_ble_eq_true rfl) dX0_placeToServe_14 ?_
  have hL : fX0_placeToServe b = (6, 14, 3, b.2.2.2) := by exact rfl
  exact k_vret C rfl (by rw [hL]) dX0_placeToServe_17

theorem hdX0_become : yX0_become.cls ≠ "java/lang/invoke/MethodHandle" ∧ yX0_become.cls ≠ "java/lang/invoke/VarHandle" ∧ (parseMethodDescriptor yX0_become.desc).map (fun d => d.parameters.length) = some 1 := by decide +kernel
noncomputable def fX0_become (b : Ba) (b2 : Ba) : Ba :=
  b2
set_option maxHeartbeats 4000000 in
set_option maxRecDepth 100000 in
theorem mX0_become (l : Launch) (D : va_G) (cI cJ : ClassId) (h h2 : Nat) (b : Ba) (b2 : Ba)  : kCv l D cI cJ yX0_become (.code yX0_become cX0_become 2 none) { frames := 0, cells := 0, slots := 0, locals := 0 } [.ref h, .ref h2] [(h, cB b), (h2, cB b2)] [(h, cB (fX0_become b b2)), (h2, cB b2)] := by
  refine fun sz => k_of (lv := [(0, .ref h), (1, .ref h2)]) (by decide) sz (by exact Nat.le_of_ble_eq_true rfl) rfl ?_
  intro p e s m args below meth c hsz C
  refine k_aload_n C dX0_become_0 0 rfl ?_
  refine k_aload_n C dX0_become_1 1 rfl ?_
  refine k_getX0 C 1 0 rfl (by decide) rfl q85 rfl dX0_become_2 ?_
  refine k_putX0 C [(h, cB (b2.1, b.2)), (h2, cB b2)] 0 0 rfl rfl (by decide) q85 rfl rfl fdI rfl rfl (Nat.le_of_ble_eq_true rfl) dX0_become_5 ?_
  refine k_aload_n C dX0_become_8 0 rfl ?_
  refine k_aload_n C dX0_become_9 1 rfl ?_
  refine k_getX0 C 1 1 rfl (by decide) rfl q86 rfl dX0_become_10 ?_
  refine k_putX0 C [(h, cB (b2.1, b2.2.1, b.2.2)), (h2, cB b2)] 0 1 rfl rfl (by decide) q86 rfl rfl fdI rfl rfl (Nat.le_of_ble_eq_true rfl) dX0_become_13 ?_
  refine k_aload_n C dX0_become_16 0 rfl ?_
  refine k_aload_n C dX0_become_17 1 rfl ?_
  refine k_getX0 C 1 2 rfl (by decide) rfl q87 rfl dX0_become_18 ?_
  refine k_putX0 C [(h, cB (b2.1, b2.2.1, b2.2.2.1, b.2.2.2)), (h2, cB b2)] 0 2 rfl rfl (by decide) q87 rfl rfl fdI rfl rfl (Nat.le_of_ble_eq_true rfl) dX0_become_21 ?_
  refine k_aload_n C dX0_become_24 0 rfl ?_
  refine k_aload_n C dX0_become_25 1 rfl ?_
  refine k_getX0 C 1 3 rfl (by decide) rfl q88 rfl dX0_become_26 ?_
  refine k_putX0 C [(h, cB (b2.1, b2.2.1, b2.2.2.1, b2.2.2.2.1, b.2.2.2.2)), (h2, cB b2)] 0 3 rfl rfl (by decide) q88 rfl rfl fdI rfl rfl (Nat.le_of_ble_eq_true rfl) dX0_become_29 ?_
  refine k_aload_n C dX0_become_32 0 rfl ?_
  refine k_aload_n C dX0_become_33 1 rfl ?_
  refine k_getX0 C 1 4 rfl (by decide) rfl q89 rfl dX0_become_34 ?_
  refine k_putX0 C [(h, cB (b2.1, b2.2.1, b2.2.2.1, b2.2.2.2.1, b2.2.2.2.2.1, b.2.2.2.2.2)), (h2, cB b2)] 0 4 rfl rfl (by decide) q89 rfl rfl fdI rfl rfl (Nat.le_of_ble_eq_true rfl) dX0_become_37 ?_
  refine k_aload_n C dX0_become_40 0 rfl ?_
  refine k_aload_n C dX0_become_41 1 rfl ?_
  refine k_getX0 C 1 5 rfl (by decide) rfl q90 rfl dX0_become_42 ?_
  refine k_putX0 C [(h, cB (b2.1, b2.2.1, b2.2.2.1, b2.2.2.2.1, b2.2.2.2.2.1, b2.2.2.2.2.2.1, b.2.2.2.2.2.2)), (h2, cB b2)] 0 5 rfl rfl (by decide) q90 rfl rfl fdI rfl rfl (Nat.le_of_ble_eq_true rfl) dX0_become_45 ?_
  refine k_aload_n C dX0_become_48 0 rfl ?_
  refine k_aload_n C dX0_become_49 1 rfl ?_
  refine k_getX0 C 1 6 rfl (by decide) rfl q91 rfl dX0_become_50 ?_
  refine k_putX0 C [(h, cB (b2.1, b2.2.1, b2.2.2.1, b2.2.2.2.1, b2.2.2.2.2.1, b2.2.2.2.2.2.1, b2.2.2.2.2.2.2.1, b.2.2.2.2.2.2.2)), (h2, cB b2)] 0 6 rfl rfl (by decide) q91 rfl rfl fdI rfl rfl (Nat.le_of_ble_eq_true rfl) dX0_become_53 ?_
  refine k_aload_n C dX0_become_56 0 rfl ?_
  refine k_aload_n C dX0_become_57 1 rfl ?_
  refine k_getX0 C 1 7 rfl (by decide) rfl q93 rfl dX0_become_58 ?_
  refine k_putX0 C [(h, cB (b2.1, b2.2.1, b2.2.2.1, b2.2.2.2.1, b2.2.2.2.2.1, b2.2.2.2.2.2.1, b2.2.2.2.2.2.2.1, b2.2.2.2.2.2.2.2.1, b.2.2.2.2.2.2.2.2)), (h2, cB b2)] 0 7 rfl rfl (by decide) q93 rfl rfl fdI rfl rfl (Nat.le_of_ble_eq_true rfl) dX0_become_61 ?_
  refine k_aload_n C dX0_become_64 0 rfl ?_
  refine k_aload_n C dX0_become_65 1 rfl ?_
  refine k_getX0 C 1 8 rfl (by decide) rfl q94 rfl dX0_become_66 ?_
  refine k_putX0 C [(h, cB (b2.1, b2.2.1, b2.2.2.1, b2.2.2.2.1, b2.2.2.2.2.1, b2.2.2.2.2.2.1, b2.2.2.2.2.2.2.1, b2.2.2.2.2.2.2.2.1, b2.2.2.2.2.2.2.2.2.1, b.2.2.2.2.2.2.2.2.2)), (h2, cB b2)] 0 8 rfl rfl (by decide) q94 rfl rfl fdI rfl rfl (Nat.le_of_ble_eq_true rfl) dX0_become_69 ?_
  refine k_aload_n C dX0_become_72 0 rfl ?_
  refine k_aload_n C dX0_become_73 1 rfl ?_
  refine k_getX0 C 1 9 rfl (by decide) rfl q95 rfl dX0_become_74 ?_
  refine k_putX0 C [(h, cB (b2.1, b2.2.1, b2.2.2.1, b2.2.2.2.1, b2.2.2.2.2.1, b2.2.2.2.2.2.1, b2.2.2.2.2.2.2.1, b2.2.2.2.2.2.2.2.1, b2.2.2.2.2.2.2.2.2.1, b2.2.2.2.2.2.2.2.2.2.1, b.2.2.2.2.2.2.2.2.2.2)), (h2, cB b2)] 0 9 rfl rfl (by decide) q95 rfl rfl fdI rfl rfl (Nat.le_of_ble_eq_true rfl) dX0_become_77 ?_
  refine k_aload_n C dX0_become_80 0 rfl ?_
  refine k_aload_n C dX0_become_81 1 rfl ?_
  refine k_getX0 C 1 10 rfl (by decide) rfl q97 rfl dX0_become_82 ?_
  refine k_putX0 C [(h, cB b2), (h2, cB b2)] 0 10 rfl rfl (by decide) q97 rfl rfl fdI rfl rfl (Nat.le_of_ble_eq_true rfl) dX0_become_85 ?_
  have hL : fX0_become b b2 = b2 := by exact rfl
  exact k_vret C rfl (by rw [hL]) dX0_become_88

theorem hdX0_launch : yX0_launch.cls ≠ "java/lang/invoke/MethodHandle" ∧ yX0_launch.cls ≠ "java/lang/invoke/VarHandle" ∧ (parseMethodDescriptor yX0_launch.desc).map (fun d => d.parameters.length) = some 3 := by decide +kernel
noncomputable def fX0_launch (p0 : Int32) (p1 : Int32) (p2 : Int32) (b : Ba) : Ba :=
  (b.1, b.2.1, (if b.2.2.1 < 1 then 1 else b.2.2.1), p0, p1, p2, 0, 0, 0, 0, 0)
set_option maxHeartbeats 4000000 in
set_option maxRecDepth 100000 in
theorem mX0_launch (l : Launch) (D : va_G) (cI cJ : ClassId) (h : Nat) (p0 : Int32) (p1 : Int32) (p2 : Int32) (b : Ba)  : kCv l D cI cJ yX0_launch (.code yX0_launch cX0_launch 4 none) { frames := 1, cells := 0, slots := 0, locals := 21 } [.ref h, .int p0, .int p1, .int p2] [(h, cB b)] [(h, cB (fX0_launch p0 p1 p2 b))] := by
  refine fun sz => k_of (lv := [(0, .ref h), (1, .int p0), (2, .int p1), (3, .int p2)]) (by decide) sz (by exact Nat.le_of_ble_eq_true rfl) rfl ?_
  intro p e s m args below meth c hsz C
  refine k_aload_n C dX0_launch_0 0 rfl ?_
  refine k_aload_n C dX0_launch_1 0 rfl ?_
  refine k_getX0 C 0 2 rfl (by decide) rfl q87 rfl dX0_launch_2 ?_
  refine k_iconst C 1 (by decide) dX0_launch_5 ?_
  refine k_max C q394 q395 q45 q396 (Nat.le_of_ble_eq_true rfl) (Nat.le_of_ble_eq_true rfl) (Nat.zero_le _) (Nat.zero_le _) dX0_launch_6 ?_
  refine k_putX0 C [(h, cB (b.1, b.2.1, (if b.2.2.1 < 1 then 1 else b.2.2.1), b.2.2.2))] 0 2 rfl rfl (by decide) q87 rfl rfl fdI rfl rfl (Nat.le_of_ble_eq_true rfl) dX0_launch_9 ?_
  refine k_aload_n C dX0_launch_12 0 rfl ?_
  refine k_iload_n C dX0_launch_13 1 rfl ?_
  refine k_putX0 C [(h, cB (b.1, b.2.1, (if b.2.2.1 < 1 then 1 else b.2.2.1), p0, b.2.2.2.2))] 0 3 rfl rfl (by decide) q88 rfl rfl fdI rfl rfl (Nat.le_of_ble_eq_true rfl) dX0_launch_14 ?_
  refine k_aload_n C dX0_launch_17 0 rfl ?_
  refine k_iload_n C dX0_launch_18 2 rfl ?_
  refine k_putX0 C [(h, cB (b.1, b.2.1, (if b.2.2.1 < 1 then 1 else b.2.2.1), p0, p1, b.2.2.2.2.2))] 0 4 rfl rfl (by decide) q89 rfl rfl fdI rfl rfl (Nat.le_of_ble_eq_true rfl) dX0_launch_19 ?_
  refine k_aload_n C dX0_launch_22 0 rfl ?_
  refine k_iload_n C dX0_launch_23 3 rfl ?_
  refine k_putX0 C [(h, cB (b.1, b.2.1, (if b.2.2.1 < 1 then 1 else b.2.2.1), p0, p1, p2, b.2.2.2.2.2.2))] 0 5 rfl rfl (by decide) q90 rfl rfl fdI rfl rfl (Nat.le_of_ble_eq_true rfl) dX0_launch_24 ?_
  refine k_aload_n C dX0_launch_27 0 rfl ?_
  refine k_iconst C 0 (by decide) dX0_launch_28 ?_
  refine k_putX0 C [(h, cB (b.1, b.2.1, (if b.2.2.1 < 1 then 1 else b.2.2.1), p0, p1, p2, 0, b.2.2.2.2.2.2.2))] 0 6 rfl rfl (by decide) q91 rfl rfl fdI rfl rfl (Nat.le_of_ble_eq_true rfl) dX0_launch_29 ?_
  refine k_aload_n C dX0_launch_32 0 rfl ?_
  refine k_iconst C 0 (by decide) dX0_launch_33 ?_
  refine k_putX0 C [(h, cB (b.1, b.2.1, (if b.2.2.1 < 1 then 1 else b.2.2.1), p0, p1, p2, 0, 0, b.2.2.2.2.2.2.2.2))] 0 7 rfl rfl (by decide) q93 rfl rfl fdI rfl rfl (Nat.le_of_ble_eq_true rfl) dX0_launch_34 ?_
  refine k_aload_n C dX0_launch_37 0 rfl ?_
  refine k_iconst C 0 (by decide) dX0_launch_38 ?_
  refine k_putX0 C [(h, cB (b.1, b.2.1, (if b.2.2.1 < 1 then 1 else b.2.2.1), p0, p1, p2, 0, 0, 0, b.2.2.2.2.2.2.2.2.2))] 0 8 rfl rfl (by decide) q94 rfl rfl fdI rfl rfl (Nat.le_of_ble_eq_true rfl) dX0_launch_39 ?_
  refine k_aload_n C dX0_launch_42 0 rfl ?_
  refine k_iconst C 0 (by decide) dX0_launch_43 ?_
  refine k_putX0 C [(h, cB (b.1, b.2.1, (if b.2.2.1 < 1 then 1 else b.2.2.1), p0, p1, p2, 0, 0, 0, 0, b.2.2.2.2.2.2.2.2.2.2))] 0 9 rfl rfl (by decide) q95 rfl rfl fdI rfl rfl (Nat.le_of_ble_eq_true rfl) dX0_launch_44 ?_
  refine k_aload_n C dX0_launch_47 0 rfl ?_
  refine k_iconst C 0 (by decide) dX0_launch_48 ?_
  refine k_putX0 C [(h, cB (b.1, b.2.1, (if b.2.2.1 < 1 then 1 else b.2.2.1), p0, p1, p2, 0, 0, 0, 0, 0))] 0 10 rfl rfl (by decide) q97 rfl rfl fdI rfl rfl (Nat.le_of_ble_eq_true rfl) dX0_launch_49 ?_
  have hL : fX0_launch p0 p1 p2 b = (b.1, b.2.1, (if b.2.2.1 < 1 then 1 else b.2.2.1), p0, p1, p2, 0, 0, 0, 0, 0) := by exact rfl
  exact k_vret C rfl (by rw [hL]) dX0_launch_52

theorem hdX0_touchFront : yX0_touchFront.cls ≠ "java/lang/invoke/MethodHandle" ∧ yX0_touchFront.cls ≠ "java/lang/invoke/VarHandle" ∧ (parseMethodDescriptor yX0_touchFront.desc).map (fun d => d.parameters.length) = some 0 := by decide +kernel
noncomputable def fX0_touchFront (b : Ba) : Ba :=
  if 4 ≤ b.2.2.1 then (b.1, b.2.1, b.2.2.1, b.2.2.2.1, (-b.2.2.2.2.1), b.2.2.2.2.2.1, (b.2.2.2.2.2.2.1 + 1), b.2.2.2.2.2.2.2)
  else (b.1, b.2.1, b.2.2.1, b.2.2.2.1, (-b.2.2.2.2.1), b.2.2.2.2.2.1, (b.2.2.2.2.2.2.1 + 1), b.2.2.2.2.2.2.2.1, b.2.2.2.2.2.2.2.2.1, b.2.2.2.2.2.2.2.2.2.1, 1)
set_option maxHeartbeats 4000000 in
set_option maxRecDepth 100000 in
theorem mX0_touchFront (l : Launch) (D : va_G) (cI cJ : ClassId) (h : Nat) (b : Ba)  : kCv l D cI cJ yX0_touchFront (.code yX0_touchFront cX0_touchFront 1 none) { frames := 0, cells := 0, slots := 0, locals := 0 } [.ref h] [(h, cB b)] [(h, cB (fX0_touchFront b))] := by
  refine fun sz => k_of (lv := [(0, .ref h)]) (by decide) sz (by exact Nat.le_of_ble_eq_true rfl) rfl ?_
  intro p e s m args below meth c hsz C
  refine k_aload_n C dX0_touchFront_0 0 rfl ?_
  refine k_aload_n C dX0_touchFront_1 0 rfl ?_
  refine k_getX0 C 0 4 rfl (by decide) rfl q89 rfl dX0_touchFront_2 ?_
  refine k_ineg C dX0_touchFront_5 ?_
  refine k_putX0 C [(h, cB (b.1, b.2.1, b.2.2.1, b.2.2.2.1, (-b.2.2.2.2.1), b.2.2.2.2.2))] 0 4 rfl rfl (by decide) q89 rfl rfl fdI rfl rfl (Nat.le_of_ble_eq_true rfl) dX0_touchFront_6 ?_
  refine k_aload_n C dX0_touchFront_9 0 rfl ?_
  refine k_dup C rfl dX0_touchFront_10 ?_
  refine k_getX0 C 0 6 rfl (by decide) rfl q91 rfl dX0_touchFront_11 ?_
  refine k_iconst C 1 (by decide) dX0_touchFront_14 ?_
  refine k_iadd C dX0_touchFront_15 ?_
  refine k_putX0 C [(h, cB (b.1, b.2.1, b.2.2.1, b.2.2.2.1, (-b.2.2.2.2.1), b.2.2.2.2.2.1, (b.2.2.2.2.2.2.1 + 1), b.2.2.2.2.2.2.2))] 0 6 rfl rfl (by decide) q91 rfl rfl fdI rfl rfl (Nat.le_of_ble_eq_true rfl) dX0_touchFront_16 ?_
  refine k_aload_n C dX0_touchFront_19 0 rfl ?_
  refine k_getX0 C 0 2 rfl (by decide) rfl q87 rfl dX0_touchFront_20 ?_
  refine k_iconst C 4 (by decide) dX0_touchFront_23 ?_
  refine k_icmp_ge C 32 (by decide) dX0_touchFront_24 (fun c1 => ?_) (fun c1 => ?_)
  ·
    have hL : fX0_touchFront b = (b.1, b.2.1, b.2.2.1, b.2.2.2.1, (-b.2.2.2.2.1), b.2.2.2.2.2.1, (b.2.2.2.2.2.2.1 + 1), b.2.2.2.2.2.2.2) := by exact (if_pos c1).trans rfl
    exact k_vret C rfl (by rw [hL]) dX0_touchFront_32
  ·
    refine k_aload_n C dX0_touchFront_27 0 rfl ?_
    refine k_iconst C 1 (by decide) dX0_touchFront_28 ?_
    refine k_putX0 C [(h, cB (b.1, b.2.1, b.2.2.1, b.2.2.2.1, (-b.2.2.2.2.1), b.2.2.2.2.2.1, (b.2.2.2.2.2.2.1 + 1), b.2.2.2.2.2.2.2.1, b.2.2.2.2.2.2.2.2.1, b.2.2.2.2.2.2.2.2.2.1, 1))] 0 10 rfl rfl (by decide) q97 rfl rfl fdI rfl rfl (Nat.le_of_ble_eq_true rfl) dX0_touchFront_29 ?_
    have hL : fX0_touchFront b = (b.1, b.2.1, b.2.2.1, b.2.2.2.1, (-b.2.2.2.2.1), b.2.2.2.2.2.1, (b.2.2.2.2.2.2.1 + 1), b.2.2.2.2.2.2.2.1, b.2.2.2.2.2.2.2.2.1, b.2.2.2.2.2.2.2.2.2.1, 1) := by exact (if_neg c1).trans rfl
    exact k_vret C rfl (by rw [hL]) dX0_touchFront_32

theorem hdX0_bounce : yX0_bounce.cls ≠ "java/lang/invoke/MethodHandle" ∧ yX0_bounce.cls ≠ "java/lang/invoke/VarHandle" ∧ (parseMethodDescriptor yX0_bounce.desc).map (fun d => d.parameters.length) = some 0 := by decide +kernel
noncomputable def fX0_bounce (b : Ba) : Ba :=
  if b.2.2.2.2.2.2.1 = 0 then (b.1, b.2.1, 0, b.2.2.2.1, b.2.2.2.2.1, ((-b.2.2.2.2.2.1) / 2), b.2.2.2.2.2.2.1, (b.2.2.2.2.2.2.2.1 + 1), b.2.2.2.2.2.2.2.2.1, b.2.2.2.2.2.2.2.2.2.1, 1)
  else (if (b.2.2.2.2.2.2.2.1 + 1) = 2 then (b.1, b.2.1, 0, b.2.2.2.1, b.2.2.2.2.1, ((-b.2.2.2.2.2.1) / 2), b.2.2.2.2.2.2.1, (b.2.2.2.2.2.2.2.1 + 1), b.2.2.2.2.2.2.2.2.1, b.2.2.2.2.2.2.2.2.2.1, 3)
    else (b.1, b.2.1, 0, b.2.2.2.1, b.2.2.2.2.1, ((-b.2.2.2.2.2.1) / 2), b.2.2.2.2.2.2.1, (b.2.2.2.2.2.2.2.1 + 1), b.2.2.2.2.2.2.2.2))
set_option maxHeartbeats 4000000 in
set_option maxRecDepth 100000 in
theorem mX0_bounce (l : Launch) (D : va_G) (cI cJ : ClassId) (h : Nat) (b : Ba)  : kCv l D cI cJ yX0_bounce (.code yX0_bounce cX0_bounce 1 none) { frames := 0, cells := 0, slots := 0, locals := 0 } [.ref h] [(h, cB b)] [(h, cB (fX0_bounce b))] := by
  refine fun sz => k_of (lv := [(0, .ref h)]) (by decide) sz (by exact Nat.le_of_ble_eq_true rfl) rfl ?_
  intro p e s m args below meth c hsz C
  refine k_aload_n C dX0_bounce_0 0 rfl ?_
  refine k_iconst C 0 (by decide) dX0_bounce_1 ?_
  refine k_putX0 C [(h, cB (b.1, b.2.1, 0, b.2.2.2))] 0 2 rfl rfl (by decide) q87 rfl rfl fdI rfl rfl (Nat.le_of_ble_eq_true rfl) dX0_bounce_2 ?_
  refine k_aload_n C dX0_bounce_5 0 rfl ?_
  refine k_aload_n C dX0_bounce_6 0 rfl ?_
  refine k_getX0 C 0 5 rfl (by decide) rfl q90 rfl dX0_bounce_7 ?_
  refine k_ineg C dX0_bounce_10 ?_
  refine k_iconst C 2 (by decide) dX0_bounce_11 ?_
  refine k_idiv C (by decide) dX0_bounce_12 ?_
  refine k_putX0 C [(h, cB (b.1, b.2.1, 0, b.2.2.2.1, b.2.2.2.2.1, ((-b.2.2.2.2.2.1) / 2), b.2.2.2.2.2.2))] 0 5 rfl rfl (by decide) q90 rfl rfl fdI rfl rfl (Nat.le_of_ble_eq_true rfl) dX0_bounce_13 ?_
  refine k_aload_n C dX0_bounce_16 0 rfl ?_
  refine k_dup C rfl dX0_bounce_17 ?_
  refine k_getX0 C 0 7 rfl (by decide) rfl q93 rfl dX0_bounce_18 ?_
  refine k_iconst C 1 (by decide) dX0_bounce_21 ?_
  refine k_iadd C dX0_bounce_22 ?_
  refine k_putX0 C [(h, cB (b.1, b.2.1, 0, b.2.2.2.1, b.2.2.2.2.1, ((-b.2.2.2.2.2.1) / 2), b.2.2.2.2.2.2.1, (b.2.2.2.2.2.2.2.1 + 1), b.2.2.2.2.2.2.2.2))] 0 7 rfl rfl (by decide) q93 rfl rfl fdI rfl rfl (Nat.le_of_ble_eq_true rfl) dX0_bounce_23 ?_
  refine k_aload_n C dX0_bounce_26 0 rfl ?_
  refine k_getX0 C 0 6 rfl (by decide) rfl q91 rfl dX0_bounce_27 ?_
  refine k_if_ne C 41 (by decide) dX0_bounce_30 (fun c1 => ?_) (fun c1 => ?_)
  ·
    refine k_aload_n C dX0_bounce_41 0 rfl ?_
    refine k_getX0 C 0 7 rfl (by decide) rfl q93 rfl dX0_bounce_42 ?_
    refine k_iconst C 2 (by decide) dX0_bounce_45 ?_
    refine k_icmp_ne C 54 (by decide) dX0_bounce_46 (fun c2 => ?_) (fun c2 => ?_)
    ·
      have hL : fX0_bounce b = (b.1, b.2.1, 0, b.2.2.2.1, b.2.2.2.2.1, ((-b.2.2.2.2.2.1) / 2), b.2.2.2.2.2.2.1, (b.2.2.2.2.2.2.2.1 + 1), b.2.2.2.2.2.2.2.2) := by exact (if_neg c1).trans ((if_neg c2).trans rfl)
      exact k_vret C rfl (by rw [hL]) dX0_bounce_54
    ·
      refine k_aload_n C dX0_bounce_49 0 rfl ?_
      refine k_iconst C 3 (by decide) dX0_bounce_50 ?_
      refine k_putX0 C [(h, cB (b.1, b.2.1, 0, b.2.2.2.1, b.2.2.2.2.1, ((-b.2.2.2.2.2.1) / 2), b.2.2.2.2.2.2.1, (b.2.2.2.2.2.2.2.1 + 1), b.2.2.2.2.2.2.2.2.1, b.2.2.2.2.2.2.2.2.2.1, 3))] 0 10 rfl rfl (by decide) q97 rfl rfl fdI rfl rfl (Nat.le_of_ble_eq_true rfl) dX0_bounce_51 ?_
      have hL : fX0_bounce b = (b.1, b.2.1, 0, b.2.2.2.1, b.2.2.2.2.1, ((-b.2.2.2.2.2.1) / 2), b.2.2.2.2.2.2.1, (b.2.2.2.2.2.2.2.1 + 1), b.2.2.2.2.2.2.2.2.1, b.2.2.2.2.2.2.2.2.2.1, 3) := by exact (if_neg c1).trans ((if_pos c2).trans rfl)
      exact k_vret C rfl (by rw [hL]) dX0_bounce_54
  ·
    refine k_aload_n C dX0_bounce_33 0 rfl ?_
    refine k_iconst C 1 (by decide) dX0_bounce_34 ?_
    refine k_putX0 C [(h, cB (b.1, b.2.1, 0, b.2.2.2.1, b.2.2.2.2.1, ((-b.2.2.2.2.2.1) / 2), b.2.2.2.2.2.2.1, (b.2.2.2.2.2.2.2.1 + 1), b.2.2.2.2.2.2.2.2.1, b.2.2.2.2.2.2.2.2.2.1, 1))] 0 10 rfl rfl (by decide) q97 rfl rfl fdI rfl rfl (Nat.le_of_ble_eq_true rfl) dX0_bounce_35 ?_
    refine k_goto C 54 (by decide) dX0_bounce_38 ?_
    have hL : fX0_bounce b = (b.1, b.2.1, 0, b.2.2.2.1, b.2.2.2.2.1, ((-b.2.2.2.2.2.1) / 2), b.2.2.2.2.2.2.1, (b.2.2.2.2.2.2.2.1 + 1), b.2.2.2.2.2.2.2.2.1, b.2.2.2.2.2.2.2.2.2.1, 1) := by exact (if_pos c1).trans rfl
    exact k_vret C rfl (by rw [hL]) dX0_bounce_54

theorem hdX0_goUpOrDown : yX0_goUpOrDown.cls ≠ "java/lang/invoke/MethodHandle" ∧ yX0_goUpOrDown.cls ≠ "java/lang/invoke/VarHandle" ∧ (parseMethodDescriptor yX0_goUpOrDown.desc).map (fun d => d.parameters.length) = some 0 := by decide +kernel
noncomputable def fX0_goUpOrDown (b : Ba) : Ba :=
  if 0 < (b.2.2.1 + b.2.2.2.2.2.1) then (b.1, b.2.1, (b.2.2.1 + b.2.2.2.2.2.1), b.2.2.2.1, b.2.2.2.2.1, (b.2.2.2.2.2.1 - 1), b.2.2.2.2.2.2)
  else (if 0 ≤ (b.2.2.2.2.2.1 - 1) then (b.1, b.2.1, (b.2.2.1 + b.2.2.2.2.2.1), b.2.2.2.1, b.2.2.2.2.1, (b.2.2.2.2.2.1 - 1), b.2.2.2.2.2.2)
    else (fX0_bounce (b.1, b.2.1, (b.2.2.1 + b.2.2.2.2.2.1), b.2.2.2.1, b.2.2.2.2.1, (b.2.2.2.2.2.1 - 1), b.2.2.2.2.2.2)))
set_option maxHeartbeats 4000000 in
set_option maxRecDepth 100000 in
theorem mX0_goUpOrDown (l : Launch) (D : va_G) (cI cJ : ClassId) (h : Nat) (b : Ba)  : kCv l D cI cJ yX0_goUpOrDown (.code yX0_goUpOrDown cX0_goUpOrDown 1 none) { frames := 1, cells := 0, slots := 0, locals := 20 } [.ref h] [(h, cB b)] [(h, cB (fX0_goUpOrDown b))] := by
  refine fun sz => k_of (lv := [(0, .ref h)]) (by decide) sz (by exact Nat.le_of_ble_eq_true rfl) rfl ?_
  intro p e s m args below meth c hsz C
  refine k_aload_n C dX0_goUpOrDown_0 0 rfl ?_
  refine k_dup C rfl dX0_goUpOrDown_1 ?_
  refine k_getX0 C 0 2 rfl (by decide) rfl q87 rfl dX0_goUpOrDown_2 ?_
  refine k_aload_n C dX0_goUpOrDown_5 0 rfl ?_
  refine k_getX0 C 0 5 rfl (by decide) rfl q90 rfl dX0_goUpOrDown_6 ?_
  refine k_iadd C dX0_goUpOrDown_9 ?_
  refine k_putX0 C [(h, cB (b.1, b.2.1, (b.2.2.1 + b.2.2.2.2.2.1), b.2.2.2))] 0 2 rfl rfl (by decide) q87 rfl rfl fdI rfl rfl (Nat.le_of_ble_eq_true rfl) dX0_goUpOrDown_10 ?_
  refine k_aload_n C dX0_goUpOrDown_13 0 rfl ?_
  refine k_dup C rfl dX0_goUpOrDown_14 ?_
  refine k_getX0 C 0 5 rfl (by decide) rfl q90 rfl dX0_goUpOrDown_15 ?_
  refine k_iconst C 1 (by decide) dX0_goUpOrDown_18 ?_
  refine k_isub C dX0_goUpOrDown_19 ?_
  refine k_putX0 C [(h, cB (b.1, b.2.1, (b.2.2.1 + b.2.2.2.2.2.1), b.2.2.2.1, b.2.2.2.2.1, (b.2.2.2.2.2.1 - 1), b.2.2.2.2.2.2))] 0 5 rfl rfl (by decide) q90 rfl rfl fdI rfl rfl (Nat.le_of_ble_eq_true rfl) dX0_goUpOrDown_20 ?_
  refine k_aload_n C dX0_goUpOrDown_23 0 rfl ?_
  refine k_getX0 C 0 2 rfl (by decide) rfl q87 rfl dX0_goUpOrDown_24 ?_
  refine k_if_gt C 41 (by decide) dX0_goUpOrDown_27 (fun c1 => ?_) (fun c1 => ?_)
  ·
    have hL : fX0_goUpOrDown b = (b.1, b.2.1, (b.2.2.1 + b.2.2.2.2.2.1), b.2.2.2.1, b.2.2.2.2.1, (b.2.2.2.2.2.1 - 1), b.2.2.2.2.2.2) := by exact (if_pos c1).trans rfl
    exact k_vret C rfl (by rw [hL]) dX0_goUpOrDown_41
  ·
    refine k_aload_n C dX0_goUpOrDown_30 0 rfl ?_
    refine k_getX0 C 0 5 rfl (by decide) rfl q90 rfl dX0_goUpOrDown_31 ?_
    refine k_if_ge C 41 (by decide) dX0_goUpOrDown_34 (fun c2 => ?_) (fun c2 => ?_)
    ·
      have hL : fX0_goUpOrDown b = (b.1, b.2.1, (b.2.2.1 + b.2.2.2.2.2.1), b.2.2.2.1, b.2.2.2.2.1, (b.2.2.2.2.2.1 - 1), b.2.2.2.2.2.2) := by exact (if_neg c1).trans ((if_pos c2).trans rfl)
      exact k_vret C rfl (by rw [hL]) dX0_goUpOrDown_41
    ·
      refine k_aload_n C dX0_goUpOrDown_37 0 rfl ?_
      refine k_callV_v C (mX0_bounce l D cI cJ h (b.1, b.2.1, (b.2.2.1 + b.2.2.2.2.2.1), b.2.2.2.1, b.2.2.2.2.1, (b.2.2.2.2.2.1 - 1), b.2.2.2.2.2.2)) (cwV 0 C.2.2.2.2.1 (kGV q349 q351 q16 q37 q352) rfl rfl rfl ⟨rfl, hdX0_bounce⟩ ⟨Nat.le_of_ble_eq_true rfl, Nat.le_of_ble_eq_true rfl⟩) [0] [] [0] [] ([(h, cB (fX0_bounce (b.1, b.2.1, (b.2.2.1 + b.2.2.2.2.2.1), b.2.2.2.1, b.2.2.2.2.1, (b.2.2.2.2.2.1 - 1), b.2.2.2.2.2.2)))]) rfl rfl rfl rfl (by decide) [h] rfl rfl rfl rfl 0 0 rfl rfl rfl (Nat.le_of_ble_eq_true rfl) ⟨Nat.zero_le _, Nat.zero_le _⟩ rfl dX0_goUpOrDown_38 ?_
      generalize ezz3 : fX0_bounce (b.1, b.2.1, (b.2.2.1 + b.2.2.2.2.2.1), b.2.2.2.1, b.2.2.2.2.1, (b.2.2.2.2.2.1 - 1), b.2.2.2.2.2.2) = zz3
      have hL : fX0_goUpOrDown b = zz3 := by subst ezz3; exact (if_neg c1).trans ((if_neg c2).trans rfl)
      exact k_vret C rfl (by rw [hL]) dX0_goUpOrDown_41

theorem hdX0_goOneRow : yX0_goOneRow.cls ≠ "java/lang/invoke/MethodHandle" ∧ yX0_goOneRow.cls ≠ "java/lang/invoke/VarHandle" ∧ (parseMethodDescriptor yX0_goOneRow.desc).map (fun d => d.parameters.length) = some 0 := by decide +kernel
noncomputable def fX0_goOneRow (b : Ba) : Ba :=
  if 0 ≤ (b.2.1 + (fJ6_signum b.2.2.2.2.1)) then (if (b.2.1 + (fJ6_signum b.2.2.2.2.1)) < 30 then (if (fX0_isButtress b.1 (b.2.1 + (fJ6_signum b.2.2.2.2.1))) = 0 then (b.1, (b.2.1 + (fJ6_signum b.2.2.2.2.1)), b.2.2)
      else (b.1, b.2.1, b.2.2.1, b.2.2.2.1, (-b.2.2.2.2.1), b.2.2.2.2.2.1, b.2.2.2.2.2.2.1, b.2.2.2.2.2.2.2.1, (b.2.2.2.2.2.2.2.2.1 + 1), b.2.2.2.2.2.2.2.2.2))
    else (if b.2.2.2.2.2.2.2.1 = 0 then (b.1, b.2.1, b.2.2.1, b.2.2.2.1, b.2.2.2.2.1, b.2.2.2.2.2.1, b.2.2.2.2.2.2.1, b.2.2.2.2.2.2.2.1, b.2.2.2.2.2.2.2.2.1, b.2.2.2.2.2.2.2.2.2.1, 2)
      else (b.1, b.2.1, b.2.2.1, b.2.2.2.1, b.2.2.2.2.1, b.2.2.2.2.2.1, b.2.2.2.2.2.2.1, b.2.2.2.2.2.2.2.1, b.2.2.2.2.2.2.2.2.1, b.2.2.2.2.2.2.2.2.2.1, 3)))
  else (fX0_touchFront b)
set_option maxHeartbeats 4000000 in
set_option maxRecDepth 100000 in
theorem mX0_goOneRow (l : Launch) (D : va_G) (cI cJ : ClassId) (h : Nat) (b : Ba)  : kCv l D cI cJ yX0_goOneRow (.code yX0_goOneRow cX0_goOneRow 2 none) { frames := 1, cells := 0, slots := 0, locals := 21 } [.ref h] [(h, cB b)] [(h, cB (fX0_goOneRow b))] := by
  refine fun sz => k_of (lv := [(0, .ref h)]) (by decide) sz (by exact Nat.le_of_ble_eq_true rfl) rfl ?_
  intro p e s m args below meth c hsz C
  refine k_aload_n C dX0_goOneRow_0 0 rfl ?_
  refine k_getX0 C 0 1 rfl (by decide) rfl q86 rfl dX0_goOneRow_1 ?_
  refine k_aload_n C dX0_goOneRow_4 0 rfl ?_
  refine k_getX0 C 0 4 rfl (by decide) rfl q89 rfl dX0_goOneRow_5 ?_
  refine k_callS_i C (mJ6_signum l D cI cJ b.2.2.2.2.1) (va_cwS 1 C.2.2.2.2.1 (kGS q327 q328 q46 q329) rfl rfl rfl hdJ6_signum_0f7a4 ⟨Nat.le_of_ble_eq_true rfl, Nat.le_of_ble_eq_true rfl⟩) [] [0] [0] [(h, cB b)] ([(h, cB b)]) rfl rfl rfl rfl (by decide) [] rfl rfl rfl rfl (Nat.le_of_ble_eq_true rfl) ⟨Nat.zero_le _, Nat.zero_le _⟩ rfl dX0_goOneRow_8 ?_
  generalize er1 : fJ6_signum b.2.2.2.2.1 = r1
  refine k_iadd C dX0_goOneRow_11 ?_
  refine k_istore_n C [(1, .int (b.2.1 + r1)), (0, .ref h)] (by decide) rfl dX0_goOneRow_12 ?_
  refine k_iload_n C dX0_goOneRow_13 0 rfl ?_
  refine k_if_ge C 24 (by decide) dX0_goOneRow_14 (fun c2 => ?_) (fun c2 => ?_)
  ·
    refine k_iload_n C dX0_goOneRow_24 0 rfl ?_
    refine k_bipush C 30 (by decide) dX0_goOneRow_25 ?_
    refine k_icmp_lt C 49 (by decide) dX0_goOneRow_27 (fun c3 => ?_) (fun c3 => ?_)
    ·
      refine k_aload_n C dX0_goOneRow_49 1 rfl ?_
      refine k_getX0 C 0 0 rfl (by decide) rfl q85 rfl dX0_goOneRow_50 ?_
      refine k_iload_n C dX0_goOneRow_53 0 rfl ?_
      refine k_callS_i C (mX0_isButtress l D cI cJ b.1 (b.2.1 + r1)) (va_cwS 2 C.2.2.2.2.1 (kGS q330 q331 q37 q332) rfl rfl rfl hdX0_isButtress ⟨Nat.le_of_ble_eq_true rfl, Nat.le_of_ble_eq_true rfl⟩) [] [0] [0] [(h, cB b)] ([(h, cB b)]) rfl rfl rfl rfl (by decide) [] rfl rfl rfl rfl (Nat.le_of_ble_eq_true rfl) ⟨Nat.zero_le _, Nat.zero_le _⟩ rfl dX0_goOneRow_54 ?_
      generalize er4 : fX0_isButtress b.1 (b.2.1 + r1) = r4
      refine k_if_eq C 82 (by decide) dX0_goOneRow_57 (fun c5 => ?_) (fun c5 => ?_)
      ·
        refine k_aload_n C dX0_goOneRow_82 1 rfl ?_
        refine k_iload_n C dX0_goOneRow_83 0 rfl ?_
        refine k_putX0 C [(h, cB (b.1, (b.2.1 + r1), b.2.2))] 0 1 rfl rfl (by decide) q86 rfl rfl fdI rfl rfl (Nat.le_of_ble_eq_true rfl) dX0_goOneRow_84 ?_
        have hL : fX0_goOneRow b = (b.1, (b.2.1 + r1), b.2.2) := by subst er4; subst er1; exact (if_pos c2).trans ((if_pos c3).trans ((if_pos c5).trans rfl))
        exact k_vret C rfl (by rw [hL]) dX0_goOneRow_87
      ·
        refine k_aload_n C dX0_goOneRow_60 1 rfl ?_
        refine k_aload_n C dX0_goOneRow_61 1 rfl ?_
        refine k_getX0 C 0 4 rfl (by decide) rfl q89 rfl dX0_goOneRow_62 ?_
        refine k_ineg C dX0_goOneRow_65 ?_
        refine k_putX0 C [(h, cB (b.1, b.2.1, b.2.2.1, b.2.2.2.1, (-b.2.2.2.2.1), b.2.2.2.2.2))] 0 4 rfl rfl (by decide) q89 rfl rfl fdI rfl rfl (Nat.le_of_ble_eq_true rfl) dX0_goOneRow_66 ?_
        refine k_aload_n C dX0_goOneRow_69 1 rfl ?_
        refine k_dup C rfl dX0_goOneRow_70 ?_
        refine k_getX0 C 0 8 rfl (by decide) rfl q94 rfl dX0_goOneRow_71 ?_
        refine k_iconst C 1 (by decide) dX0_goOneRow_74 ?_
        refine k_iadd C dX0_goOneRow_75 ?_
        refine k_putX0 C [(h, cB (b.1, b.2.1, b.2.2.1, b.2.2.2.1, (-b.2.2.2.2.1), b.2.2.2.2.2.1, b.2.2.2.2.2.2.1, b.2.2.2.2.2.2.2.1, (b.2.2.2.2.2.2.2.2.1 + 1), b.2.2.2.2.2.2.2.2.2))] 0 8 rfl rfl (by decide) q94 rfl rfl fdI rfl rfl (Nat.le_of_ble_eq_true rfl) dX0_goOneRow_76 ?_
        refine k_goto C 87 (by decide) dX0_goOneRow_79 ?_
        have hL : fX0_goOneRow b = (b.1, b.2.1, b.2.2.1, b.2.2.2.1, (-b.2.2.2.2.1), b.2.2.2.2.2.1, b.2.2.2.2.2.2.1, b.2.2.2.2.2.2.2.1, (b.2.2.2.2.2.2.2.2.1 + 1), b.2.2.2.2.2.2.2.2.2) := by subst er4; subst er1; exact (if_pos c2).trans ((if_pos c3).trans ((if_neg c5).trans rfl))
        exact k_vret C rfl (by rw [hL]) dX0_goOneRow_87
    ·
      refine k_aload_n C dX0_goOneRow_30 1 rfl ?_
      refine k_aload_n C dX0_goOneRow_31 1 rfl ?_
      refine k_getX0 C 0 7 rfl (by decide) rfl q93 rfl dX0_goOneRow_32 ?_
      refine k_if_ne C 42 (by decide) dX0_goOneRow_35 (fun c6 => ?_) (fun c6 => ?_)
      ·
        refine k_iconst C 3 (by decide) dX0_goOneRow_42 ?_
        refine k_putX0 C [(h, cB (b.1, b.2.1, b.2.2.1, b.2.2.2.1, b.2.2.2.2.1, b.2.2.2.2.2.1, b.2.2.2.2.2.2.1, b.2.2.2.2.2.2.2.1, b.2.2.2.2.2.2.2.2.1, b.2.2.2.2.2.2.2.2.2.1, 3))] 0 10 rfl rfl (by decide) q97 rfl rfl fdI rfl rfl (Nat.le_of_ble_eq_true rfl) dX0_goOneRow_43 ?_
        refine k_goto C 87 (by decide) dX0_goOneRow_46 ?_
        have hL : fX0_goOneRow b = (b.1, b.2.1, b.2.2.1, b.2.2.2.1, b.2.2.2.2.1, b.2.2.2.2.2.1, b.2.2.2.2.2.2.1, b.2.2.2.2.2.2.2.1, b.2.2.2.2.2.2.2.2.1, b.2.2.2.2.2.2.2.2.2.1, 3) := by subst er1; exact (if_pos c2).trans ((if_neg c3).trans ((if_neg c6).trans rfl))
        exact k_vret C rfl (by rw [hL]) dX0_goOneRow_87
      ·
        refine k_iconst C 2 (by decide) dX0_goOneRow_38 ?_
        refine k_goto C 43 (by decide) dX0_goOneRow_39 ?_
        refine k_putX0 C [(h, cB (b.1, b.2.1, b.2.2.1, b.2.2.2.1, b.2.2.2.2.1, b.2.2.2.2.2.1, b.2.2.2.2.2.2.1, b.2.2.2.2.2.2.2.1, b.2.2.2.2.2.2.2.2.1, b.2.2.2.2.2.2.2.2.2.1, 2))] 0 10 rfl rfl (by decide) q97 rfl rfl fdI rfl rfl (Nat.le_of_ble_eq_true rfl) dX0_goOneRow_43 ?_
        refine k_goto C 87 (by decide) dX0_goOneRow_46 ?_
        have hL : fX0_goOneRow b = (b.1, b.2.1, b.2.2.1, b.2.2.2.1, b.2.2.2.2.1, b.2.2.2.2.2.1, b.2.2.2.2.2.2.1, b.2.2.2.2.2.2.2.1, b.2.2.2.2.2.2.2.2.1, b.2.2.2.2.2.2.2.2.2.1, 2) := by subst er1; exact (if_pos c2).trans ((if_neg c3).trans ((if_pos c6).trans rfl))
        exact k_vret C rfl (by rw [hL]) dX0_goOneRow_87
  ·
    refine k_aload_n C dX0_goOneRow_17 1 rfl ?_
    refine k_callV_v C (mX0_touchFront l D cI cJ h b) (cwV 0 C.2.2.2.2.1 (kGV q341 q343 q14 q37 q344) rfl rfl rfl ⟨rfl, hdX0_touchFront⟩ ⟨Nat.le_of_ble_eq_true rfl, Nat.le_of_ble_eq_true rfl⟩) [0] [] [0] [] ([(h, cB (fX0_touchFront b))]) rfl rfl rfl rfl (by decide) [h] rfl rfl rfl rfl 0 0 rfl rfl rfl (Nat.le_of_ble_eq_true rfl) ⟨Nat.zero_le _, Nat.zero_le _⟩ rfl dX0_goOneRow_18 ?_
    generalize ezz7 : fX0_touchFront b = zz7
    refine k_goto C 87 (by decide) dX0_goOneRow_21 ?_
    have hL : fX0_goOneRow b = zz7 := by subst ezz7; subst er1; exact (if_neg c2).trans rfl
    exact k_vret C rfl (by rw [hL]) dX0_goOneRow_87

theorem hdX0_part : yX0_part.cls ≠ "java/lang/invoke/MethodHandle" ∧ yX0_part.cls ≠ "java/lang/invoke/VarHandle" ∧ (parseMethodDescriptor yX0_part.desc).map (fun d => d.parameters.length) = some 1 := by decide +kernel
set_option maxHeartbeats 4000000 in
set_option maxRecDepth 100000 in
theorem mX0_part_0 (l : Launch) (D : va_G) (cI cJ : ClassId) (h : Nat) (b : Ba)  : kCi l D cI cJ yX0_part (.code yX0_part cX0_part 2 (some .int)) { frames := 0, cells := 0, slots := 0, locals := 0 } [.ref h, .int 0] [(h, cB b)] (b.1) [(h, cB b)] := by
  refine fun sz => k_of (lv := [(0, .ref h), (1, .int 0)]) (by decide) sz (by exact Nat.le_of_ble_eq_true rfl) rfl ?_
  intro p e s m args below meth c hsz C
  refine k_iload_n C dX0_part_0 1 rfl ?_
  refine k_tabIn (off := 47) C 48 (by decide) (by decide) (by decide +kernel) (by decide) dX0_part_1 ?_
  refine k_aload_n C dX0_part_48 0 rfl ?_
  refine k_getX0 C 0 0 rfl (by decide) rfl q85 rfl dX0_part_49 ?_
  exact k_iret C rfl rfl rfl dX0_part_52

set_option maxHeartbeats 4000000 in
set_option maxRecDepth 100000 in
theorem mX0_part_1 (l : Launch) (D : va_G) (cI cJ : ClassId) (h : Nat) (b : Ba)  : kCi l D cI cJ yX0_part (.code yX0_part cX0_part 2 (some .int)) { frames := 0, cells := 0, slots := 0, locals := 0 } [.ref h, .int 1] [(h, cB b)] (b.2.1) [(h, cB b)] := by
  refine fun sz => k_of (lv := [(0, .ref h), (1, .int 1)]) (by decide) sz (by exact Nat.le_of_ble_eq_true rfl) rfl ?_
  intro p e s m args below meth c hsz C
  refine k_iload_n C dX0_part_0 1 rfl ?_
  refine k_tabIn (off := 52) C 53 (by decide) (by decide) (by decide +kernel) (by decide) dX0_part_1 ?_
  refine k_aload_n C dX0_part_53 0 rfl ?_
  refine k_getX0 C 0 1 rfl (by decide) rfl q86 rfl dX0_part_54 ?_
  exact k_iret C rfl rfl rfl dX0_part_57

set_option maxHeartbeats 4000000 in
set_option maxRecDepth 100000 in
theorem mX0_part_2 (l : Launch) (D : va_G) (cI cJ : ClassId) (h : Nat) (b : Ba)  : kCi l D cI cJ yX0_part (.code yX0_part cX0_part 2 (some .int)) { frames := 0, cells := 0, slots := 0, locals := 0 } [.ref h, .int 2] [(h, cB b)] (b.2.2.1) [(h, cB b)] := by
  refine fun sz => k_of (lv := [(0, .ref h), (1, .int 2)]) (by decide) sz (by exact Nat.le_of_ble_eq_true rfl) rfl ?_
  intro p e s m args below meth c hsz C
  refine k_iload_n C dX0_part_0 1 rfl ?_
  refine k_tabIn (off := 57) C 58 (by decide) (by decide) (by decide +kernel) (by decide) dX0_part_1 ?_
  refine k_aload_n C dX0_part_58 0 rfl ?_
  refine k_getX0 C 0 2 rfl (by decide) rfl q87 rfl dX0_part_59 ?_
  exact k_iret C rfl rfl rfl dX0_part_62

set_option maxHeartbeats 4000000 in
set_option maxRecDepth 100000 in
theorem mX0_part_3 (l : Launch) (D : va_G) (cI cJ : ClassId) (h : Nat) (b : Ba)  : kCi l D cI cJ yX0_part (.code yX0_part cX0_part 2 (some .int)) { frames := 0, cells := 0, slots := 0, locals := 0 } [.ref h, .int 3] [(h, cB b)] (b.2.2.2.1) [(h, cB b)] := by
  refine fun sz => k_of (lv := [(0, .ref h), (1, .int 3)]) (by decide) sz (by exact Nat.le_of_ble_eq_true rfl) rfl ?_
  intro p e s m args below meth c hsz C
  refine k_iload_n C dX0_part_0 1 rfl ?_
  refine k_tabIn (off := 62) C 63 (by decide) (by decide) (by decide +kernel) (by decide) dX0_part_1 ?_
  refine k_aload_n C dX0_part_63 0 rfl ?_
  refine k_getX0 C 0 3 rfl (by decide) rfl q88 rfl dX0_part_64 ?_
  exact k_iret C rfl rfl rfl dX0_part_67

set_option maxHeartbeats 4000000 in
set_option maxRecDepth 100000 in
theorem mX0_part_4 (l : Launch) (D : va_G) (cI cJ : ClassId) (h : Nat) (b : Ba)  : kCi l D cI cJ yX0_part (.code yX0_part cX0_part 2 (some .int)) { frames := 0, cells := 0, slots := 0, locals := 0 } [.ref h, .int 4] [(h, cB b)] (b.2.2.2.2.1) [(h, cB b)] := by
  refine fun sz => k_of (lv := [(0, .ref h), (1, .int 4)]) (by decide) sz (by exact Nat.le_of_ble_eq_true rfl) rfl ?_
  intro p e s m args below meth c hsz C
  refine k_iload_n C dX0_part_0 1 rfl ?_
  refine k_tabIn (off := 67) C 68 (by decide) (by decide) (by decide +kernel) (by decide) dX0_part_1 ?_
  refine k_aload_n C dX0_part_68 0 rfl ?_
  refine k_getX0 C 0 4 rfl (by decide) rfl q89 rfl dX0_part_69 ?_
  exact k_iret C rfl rfl rfl dX0_part_72

set_option maxHeartbeats 4000000 in
set_option maxRecDepth 100000 in
theorem mX0_part_5 (l : Launch) (D : va_G) (cI cJ : ClassId) (h : Nat) (b : Ba)  : kCi l D cI cJ yX0_part (.code yX0_part cX0_part 2 (some .int)) { frames := 0, cells := 0, slots := 0, locals := 0 } [.ref h, .int 5] [(h, cB b)] (b.2.2.2.2.2.1) [(h, cB b)] := by
  refine fun sz => k_of (lv := [(0, .ref h), (1, .int 5)]) (by decide) sz (by exact Nat.le_of_ble_eq_true rfl) rfl ?_
  intro p e s m args below meth c hsz C
  refine k_iload_n C dX0_part_0 1 rfl ?_
  refine k_tabIn (off := 72) C 73 (by decide) (by decide) (by decide +kernel) (by decide) dX0_part_1 ?_
  refine k_aload_n C dX0_part_73 0 rfl ?_
  refine k_getX0 C 0 5 rfl (by decide) rfl q90 rfl dX0_part_74 ?_
  exact k_iret C rfl rfl rfl dX0_part_77

set_option maxHeartbeats 4000000 in
set_option maxRecDepth 100000 in
theorem mX0_part_6 (l : Launch) (D : va_G) (cI cJ : ClassId) (h : Nat) (b : Ba)  : kCi l D cI cJ yX0_part (.code yX0_part cX0_part 2 (some .int)) { frames := 0, cells := 0, slots := 0, locals := 0 } [.ref h, .int 6] [(h, cB b)] (b.2.2.2.2.2.2.1) [(h, cB b)] := by
  refine fun sz => k_of (lv := [(0, .ref h), (1, .int 6)]) (by decide) sz (by exact Nat.le_of_ble_eq_true rfl) rfl ?_
  intro p e s m args below meth c hsz C
  refine k_iload_n C dX0_part_0 1 rfl ?_
  refine k_tabIn (off := 77) C 78 (by decide) (by decide) (by decide +kernel) (by decide) dX0_part_1 ?_
  refine k_aload_n C dX0_part_78 0 rfl ?_
  refine k_getX0 C 0 6 rfl (by decide) rfl q91 rfl dX0_part_79 ?_
  exact k_iret C rfl rfl rfl dX0_part_82

set_option maxHeartbeats 4000000 in
set_option maxRecDepth 100000 in
theorem mX0_part_7 (l : Launch) (D : va_G) (cI cJ : ClassId) (h : Nat) (b : Ba)  : kCi l D cI cJ yX0_part (.code yX0_part cX0_part 2 (some .int)) { frames := 0, cells := 0, slots := 0, locals := 0 } [.ref h, .int 7] [(h, cB b)] (b.2.2.2.2.2.2.2.1) [(h, cB b)] := by
  refine fun sz => k_of (lv := [(0, .ref h), (1, .int 7)]) (by decide) sz (by exact Nat.le_of_ble_eq_true rfl) rfl ?_
  intro p e s m args below meth c hsz C
  refine k_iload_n C dX0_part_0 1 rfl ?_
  refine k_tabIn (off := 82) C 83 (by decide) (by decide) (by decide +kernel) (by decide) dX0_part_1 ?_
  refine k_aload_n C dX0_part_83 0 rfl ?_
  refine k_getX0 C 0 7 rfl (by decide) rfl q93 rfl dX0_part_84 ?_
  exact k_iret C rfl rfl rfl dX0_part_87

set_option maxHeartbeats 4000000 in
set_option maxRecDepth 100000 in
theorem mX0_part_8 (l : Launch) (D : va_G) (cI cJ : ClassId) (h : Nat) (b : Ba)  : kCi l D cI cJ yX0_part (.code yX0_part cX0_part 2 (some .int)) { frames := 0, cells := 0, slots := 0, locals := 0 } [.ref h, .int 8] [(h, cB b)] (b.2.2.2.2.2.2.2.2.1) [(h, cB b)] := by
  refine fun sz => k_of (lv := [(0, .ref h), (1, .int 8)]) (by decide) sz (by exact Nat.le_of_ble_eq_true rfl) rfl ?_
  intro p e s m args below meth c hsz C
  refine k_iload_n C dX0_part_0 1 rfl ?_
  refine k_tabOut C 88 (by decide) (by decide) dX0_part_1 ?_
  refine k_aload_n C dX0_part_88 0 rfl ?_
  refine k_getX0 C 0 8 rfl (by decide) rfl q94 rfl dX0_part_89 ?_
  exact k_iret C rfl rfl rfl dX0_part_92

theorem hdX0_endPart : yX0_endPart.cls ≠ "java/lang/invoke/MethodHandle" ∧ yX0_endPart.cls ≠ "java/lang/invoke/VarHandle" ∧ (parseMethodDescriptor yX0_endPart.desc).map (fun d => d.parameters.length) = some 1 := by decide +kernel
set_option maxHeartbeats 4000000 in
set_option maxRecDepth 100000 in
theorem mX0_endPart_0 (l : Launch) (D : va_G) (cI cJ : ClassId) (h : Nat) (b : Ba)  : kCi l D cI cJ yX0_endPart (.code yX0_endPart cX0_endPart 2 (some .int)) { frames := 0, cells := 0, slots := 0, locals := 0 } [.ref h, .int 0] [(h, cB b)] (b.2.2.2.2.2.2.2.2.2.2) [(h, cB b)] := by
  refine fun sz => k_of (lv := [(0, .ref h), (1, .int 0)]) (by decide) sz (by exact Nat.le_of_ble_eq_true rfl) rfl ?_
  intro p e s m args below meth c hsz C
  refine k_iload_n C dX0_endPart_0 1 rfl ?_
  refine k_tabIn (off := 31) C 32 (by decide) (by decide) (by decide +kernel) (by decide) dX0_endPart_1 ?_
  refine k_aload_n C dX0_endPart_32 0 rfl ?_
  refine k_getX0 C 0 10 rfl (by decide) rfl q97 rfl dX0_endPart_33 ?_
  exact k_iret C rfl rfl rfl dX0_endPart_36

set_option maxHeartbeats 4000000 in
set_option maxRecDepth 100000 in
theorem mX0_endPart_1 (l : Launch) (D : va_G) (cI cJ : ClassId) (h : Nat) (b : Ba)  : kCi l D cI cJ yX0_endPart (.code yX0_endPart cX0_endPart 2 (some .int)) { frames := 0, cells := 0, slots := 0, locals := 0 } [.ref h, .int 1] [(h, cB b)] (b.2.2.2.2.2.2.2.2.2.1) [(h, cB b)] := by
  refine fun sz => k_of (lv := [(0, .ref h), (1, .int 1)]) (by decide) sz (by exact Nat.le_of_ble_eq_true rfl) rfl ?_
  intro p e s m args below meth c hsz C
  refine k_iload_n C dX0_endPart_0 1 rfl ?_
  refine k_tabIn (off := 36) C 37 (by decide) (by decide) (by decide +kernel) (by decide) dX0_endPart_1 ?_
  refine k_aload_n C dX0_endPart_37 0 rfl ?_
  refine k_getX0 C 0 9 rfl (by decide) rfl q95 rfl dX0_endPart_38 ?_
  exact k_iret C rfl rfl rfl dX0_endPart_41

set_option maxHeartbeats 4000000 in
set_option maxRecDepth 100000 in
theorem mX0_endPart_2 (l : Launch) (D : va_G) (cI cJ : ClassId) (h : Nat) (b : Ba)  : kCi l D cI cJ yX0_endPart (.code yX0_endPart cX0_endPart 2 (some .int)) { frames := 0, cells := 0, slots := 0, locals := 0 } [.ref h, .int 2] [(h, cB b)] (b.2.2.2.2.2.2.1) [(h, cB b)] := by
  refine fun sz => k_of (lv := [(0, .ref h), (1, .int 2)]) (by decide) sz (by exact Nat.le_of_ble_eq_true rfl) rfl ?_
  intro p e s m args below meth c hsz C
  refine k_iload_n C dX0_endPart_0 1 rfl ?_
  refine k_tabIn (off := 41) C 42 (by decide) (by decide) (by decide +kernel) (by decide) dX0_endPart_1 ?_
  refine k_aload_n C dX0_endPart_42 0 rfl ?_
  refine k_getX0 C 0 6 rfl (by decide) rfl q91 rfl dX0_endPart_43 ?_
  exact k_iret C rfl rfl rfl dX0_endPart_46

set_option maxHeartbeats 4000000 in
set_option maxRecDepth 100000 in
theorem mX0_endPart_3 (l : Launch) (D : va_G) (cI cJ : ClassId) (h : Nat) (b : Ba)  : kCi l D cI cJ yX0_endPart (.code yX0_endPart cX0_endPart 2 (some .int)) { frames := 0, cells := 0, slots := 0, locals := 0 } [.ref h, .int 3] [(h, cB b)] (b.2.2.2.2.2.2.2.1) [(h, cB b)] := by
  refine fun sz => k_of (lv := [(0, .ref h), (1, .int 3)]) (by decide) sz (by exact Nat.le_of_ble_eq_true rfl) rfl ?_
  intro p e s m args below meth c hsz C
  refine k_iload_n C dX0_endPart_0 1 rfl ?_
  refine k_tabIn (off := 46) C 47 (by decide) (by decide) (by decide +kernel) (by decide) dX0_endPart_1 ?_
  refine k_aload_n C dX0_endPart_47 0 rfl ?_
  refine k_getX0 C 0 7 rfl (by decide) rfl q93 rfl dX0_endPart_48 ?_
  exact k_iret C rfl rfl rfl dX0_endPart_51

set_option maxHeartbeats 4000000 in
set_option maxRecDepth 100000 in
theorem mX0_endPart_4 (l : Launch) (D : va_G) (cI cJ : ClassId) (h : Nat) (b : Ba)  : kCi l D cI cJ yX0_endPart (.code yX0_endPart cX0_endPart 2 (some .int)) { frames := 0, cells := 0, slots := 0, locals := 0 } [.ref h, .int 4] [(h, cB b)] (b.2.2.2.2.2.2.2.2.1) [(h, cB b)] := by
  refine fun sz => k_of (lv := [(0, .ref h), (1, .int 4)]) (by decide) sz (by exact Nat.le_of_ble_eq_true rfl) rfl ?_
  intro p e s m args below meth c hsz C
  refine k_iload_n C dX0_endPart_0 1 rfl ?_
  refine k_tabOut C 52 (by decide) (by decide) dX0_endPart_1 ?_
  refine k_aload_n C dX0_endPart_52 0 rfl ?_
  refine k_getX0 C 0 8 rfl (by decide) rfl q94 rfl dX0_endPart_53 ?_
  exact k_iret C rfl rfl rfl dX0_endPart_56
