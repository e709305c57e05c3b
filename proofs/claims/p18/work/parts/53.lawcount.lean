/-! the match by hand: what it counts -/
theorem hdX4_counted : yX4_counted.cls ≠ "java/lang/invoke/MethodHandle" ∧ yX4_counted.cls ≠ "java/lang/invoke/VarHandle" ∧ (parseMethodDescriptor yX4_counted.desc).map (fun d => d.parameters.length) = some 1 := by decide +kernel
noncomputable def fX4_counted_n0 (X : Zs) : Int32 :=
  if (fX4_canSet_n X) = 0 then X.2.2.1
  else X.2.2.1
set_option maxHeartbeats 4000000 in
set_option maxRecDepth 100000 in
theorem mX4_counted_n0 (l : Launch) (D : va_G) (cI cJ : ClassId) (z0 z1 z2 z3 : Nat) (X : Zs) : kGi l D cI cJ yX4_counted (.code yX4_counted cX4_counted 3 (some .int)) { frames := 1, cells := 1, slots := 9, locals := 20 } [.ref z0, .int 0] [(z0, cZ .null z1 X.2.2), (z1, cQ cJ z2 z3), (z2, cA4 cI X.1), (z3, cA4 cI X.2.1)] 1 9 (fun r U => r = fX4_counted_n0 X ∧ U = [(z0, cZ .null z1 X.2.2), (z1, cQ cJ z2 z3), (z2, cA4 cI X.1), (z3, cA4 cI X.2.1)]) := by
  refine fun sz => k_ofN (lv := [(0, .ref z0), (1, .int 0)]) (by decide) sz (Nat.le_of_ble_eq_true rfl) rfl ?_
  intro p e s m args below meth c hsz hnm C
  refine k_bipush C 9 (by decide) dX4_counted_0 ?_
  refine k_newI C 9 (ar9 (0, 0, 0, 0, 0, 0, 0, 0, 0)) zf9 (by decide) (by decide) (by decide) (Nat.le_of_ble_eq_true rfl) (Nat.le_of_ble_eq_true rfl) dX4_counted_2 (fun q1 => ?_)
  refine k_dup C rfl dX4_counted_4 ?_
  refine k_iconst C 0 (by decide) dX4_counted_5 ?_
  refine k_aload_n C dX4_counted_6 0 rfl ?_
  refine k_getX4 C 0 0 rfl (by decide) rfl q423 rfl dX4_counted_7 ?_
  refine k_iast C [(z0, cZ .null z1 X.2.2), (z1, cQ cJ z2 z3), (z2, cA4 cI X.1), (z3, cA4 cI X.2.1), (q1, cA9 cI (X.2.2.1, 0, 0, 0, 0, 0, 0, 0, 0))] 4 rfl vi9_0 (ar9 (X.2.2.1, 0, 0, 0, 0, 0, 0, 0, 0)) (ar9_s0 _ _) rfl dX4_counted_10 ?_
  refine k_dup C rfl dX4_counted_11 ?_
  refine k_iconst C 1 (by decide) dX4_counted_12 ?_
  refine k_aload_n C dX4_counted_13 0 rfl ?_
  refine k_getX4 C 0 1 rfl (by decide) rfl q424 rfl dX4_counted_14 ?_
  refine k_iast C [(z0, cZ .null z1 X.2.2), (z1, cQ cJ z2 z3), (z2, cA4 cI X.1), (z3, cA4 cI X.2.1), (q1, cA9 cI (X.2.2.1, X.2.2.2.1, 0, 0, 0, 0, 0, 0, 0))] 4 rfl vi9_1 (ar9 (X.2.2.1, X.2.2.2.1, 0, 0, 0, 0, 0, 0, 0)) (ar9_s1 _ _) rfl dX4_counted_17 ?_
  refine k_dup C rfl dX4_counted_18 ?_
  refine k_iconst C 2 (by decide) dX4_counted_19 ?_
  refine k_aload_n C dX4_counted_20 0 rfl ?_
  refine k_getX4 C 0 3 rfl (by decide) rfl q426 rfl dX4_counted_21 ?_
  refine k_ifnonnullN C dX4_counted_24 ?_
  refine k_iconst C 0 (by decide) dX4_counted_27 ?_
  refine k_goto C 35 (by decide) dX4_counted_28 ?_
  refine k_iast C [(z0, cZ .null z1 X.2.2), (z1, cQ cJ z2 z3), (z2, cA4 cI X.1), (z3, cA4 cI X.2.1), (q1, cA9 cI (X.2.2.1, X.2.2.2.1, 0, 0, 0, 0, 0, 0, 0))] 4 rfl vi9_2 (ar9 (X.2.2.1, X.2.2.2.1, 0, 0, 0, 0, 0, 0, 0)) (ar9_s2 _ _) rfl dX4_counted_35 ?_
  refine k_dup C rfl dX4_counted_36 ?_
  refine k_iconst C 3 (by decide) dX4_counted_37 ?_
  refine k_aload_n C dX4_counted_38 0 rfl ?_
  refine k_getX4 C 0 5 rfl (by decide) rfl q430 rfl dX4_counted_39 ?_
  refine k_iast C [(z0, cZ .null z1 X.2.2), (z1, cQ cJ z2 z3), (z2, cA4 cI X.1), (z3, cA4 cI X.2.1), (q1, cA9 cI (X.2.2.1, X.2.2.2.1, 0, X.2.2.2.2.2.1, 0, 0, 0, 0, 0))] 4 rfl vi9_3 (ar9 (X.2.2.1, X.2.2.2.1, 0, X.2.2.2.2.2.1, 0, 0, 0, 0, 0)) (ar9_s3 _ _) rfl dX4_counted_42 ?_
  refine k_dup C rfl dX4_counted_43 ?_
  refine k_iconst C 4 (by decide) dX4_counted_44 ?_
  refine k_aload_n C dX4_counted_45 0 rfl ?_
  refine k_getX4 C 0 6 rfl (by decide) rfl q431 rfl dX4_counted_46 ?_
  refine k_iast C [(z0, cZ .null z1 X.2.2), (z1, cQ cJ z2 z3), (z2, cA4 cI X.1), (z3, cA4 cI X.2.1), (q1, cA9 cI (X.2.2.1, X.2.2.2.1, 0, X.2.2.2.2.2.1, X.2.2.2.2.2.2.1, 0, 0, 0, 0))] 4 rfl vi9_4 (ar9 (X.2.2.1, X.2.2.2.1, 0, X.2.2.2.2.2.1, X.2.2.2.2.2.2.1, 0, 0, 0, 0)) (ar9_s4 _ _) rfl dX4_counted_49 ?_
  refine k_dup C rfl dX4_counted_50 ?_
  refine k_iconst C 5 (by decide) dX4_counted_51 ?_
  refine k_aload_n C dX4_counted_52 0 rfl ?_
  refine k_getX4 C 0 8 rfl (by decide) rfl q433 rfl dX4_counted_53 ?_
  refine k_iast C [(z0, cZ .null z1 X.2.2), (z1, cQ cJ z2 z3), (z2, cA4 cI X.1), (z3, cA4 cI X.2.1), (q1, cA9 cI (X.2.2.1, X.2.2.2.1, 0, X.2.2.2.2.2.1, X.2.2.2.2.2.2.1, X.2.2.2.2.2.2.2.2.1, 0, 0, 0))] 4 rfl vi9_5 (ar9 (X.2.2.1, X.2.2.2.1, 0, X.2.2.2.2.2.1, X.2.2.2.2.2.2.1, X.2.2.2.2.2.2.2.2.1, 0, 0, 0)) (ar9_s5 _ _) rfl dX4_counted_56 ?_
  refine k_dup C rfl dX4_counted_57 ?_
  refine k_bipush C 6 (by decide) dX4_counted_58 ?_
  refine k_aload_n C dX4_counted_60 0 rfl ?_
  refine k_callV_i C (mX4_canSet_n l D cI cJ z0 z1 z2 z3 X) (cwV 0 C.2.2.2.2.1 (kGV q475 q476 q477 q38 q478) rfl rfl rfl ⟨rfl, hdX4_canSet⟩ ⟨Nat.le_of_ble_eq_true rfl, Nat.le_of_ble_eq_true rfl⟩) [0, 1, 2, 3] [4] [1, 2, 3, 4, 0] [(q1, cA9 cI (X.2.2.1, X.2.2.2.1, 0, X.2.2.2.2.2.1, X.2.2.2.2.2.2.1, X.2.2.2.2.2.2.2.2.1, 0, 0, 0))] ([(z0, cZ .null z1 X.2.2), (z1, cQ cJ z2 z3), (z2, cA4 cI X.1), (z3, cA4 cI X.2.1), (q1, cA9 cI (X.2.2.1, X.2.2.2.1, 0, X.2.2.2.2.2.1, X.2.2.2.2.2.2.1, X.2.2.2.2.2.2.2.2.1, 0, 0, 0))]) rfl rfl rfl rfl (by decide) [z0, z1, z2, z3] rfl rfl rfl rfl 0 4 rfl rfl rfl (Nat.le_of_ble_eq_true rfl) ⟨Nat.le_of_ble_eq_true rfl, Nat.le_of_ble_eq_true rfl⟩ rfl dX4_counted_61 ?_
  generalize er2 : fX4_canSet_n X = r2
  refine k_if_eq C 71 (by decide) dX4_counted_64 (fun c3 => ?_) (fun c3 => ?_)
  ·
    refine k_iconst C 0 (by decide) dX4_counted_71 ?_
    refine k_iast C [(z0, cZ .null z1 X.2.2), (z1, cQ cJ z2 z3), (z2, cA4 cI X.1), (z3, cA4 cI X.2.1), (q1, cA9 cI (X.2.2.1, X.2.2.2.1, 0, X.2.2.2.2.2.1, X.2.2.2.2.2.2.1, X.2.2.2.2.2.2.2.2.1, 0, 0, 0))] 4 rfl vi9_6 (ar9 (X.2.2.1, X.2.2.2.1, 0, X.2.2.2.2.2.1, X.2.2.2.2.2.2.1, X.2.2.2.2.2.2.2.2.1, 0, 0, 0)) (ar9_s6 _ _) rfl dX4_counted_72 ?_
    refine k_dup C rfl dX4_counted_73 ?_
    refine k_bipush C 7 (by decide) dX4_counted_74 ?_
    refine k_aload_n C dX4_counted_76 0 rfl ?_
    refine k_callV_i C (mX4_winner l D cI cJ z0 z1 z2 z3 .null X) (cwV 0 C.2.2.2.2.1 (kGV q479 q463 q464 q38 q465) rfl rfl rfl ⟨rfl, hdX4_winner⟩ ⟨Nat.le_of_ble_eq_true rfl, Nat.le_of_ble_eq_true rfl⟩) [0, 1, 2, 3] [4] [1, 2, 3, 4, 0] [(q1, cA9 cI (X.2.2.1, X.2.2.2.1, 0, X.2.2.2.2.2.1, X.2.2.2.2.2.2.1, X.2.2.2.2.2.2.2.2.1, 0, 0, 0))] ([(z0, cZ .null z1 X.2.2), (z1, cQ cJ z2 z3), (z2, cA4 cI X.1), (z3, cA4 cI X.2.1), (q1, cA9 cI (X.2.2.1, X.2.2.2.1, 0, X.2.2.2.2.2.1, X.2.2.2.2.2.2.1, X.2.2.2.2.2.2.2.2.1, 0, 0, 0))]) rfl rfl rfl rfl (by decide) [z0, z1, z2, z3] rfl rfl rfl rfl 0 4 rfl rfl rfl (Nat.le_of_ble_eq_true rfl) ⟨Nat.le_of_ble_eq_true rfl, Nat.le_of_ble_eq_true rfl⟩ rfl dX4_counted_77 ?_
    generalize er4 : fX4_winner X = r4
    refine k_iast C [(z0, cZ .null z1 X.2.2), (z1, cQ cJ z2 z3), (z2, cA4 cI X.1), (z3, cA4 cI X.2.1), (q1, cA9 cI (X.2.2.1, X.2.2.2.1, 0, X.2.2.2.2.2.1, X.2.2.2.2.2.2.1, X.2.2.2.2.2.2.2.2.1, 0, r4, 0))] 4 rfl vi9_7 (ar9 (X.2.2.1, X.2.2.2.1, 0, X.2.2.2.2.2.1, X.2.2.2.2.2.2.1, X.2.2.2.2.2.2.2.2.1, 0, r4, 0)) (ar9_s7 _ _) rfl dX4_counted_80 ?_
    refine k_dup C rfl dX4_counted_81 ?_
    refine k_bipush C 8 (by decide) dX4_counted_82 ?_
    refine k_aload_n C dX4_counted_84 0 rfl ?_
    refine k_getX4 C 0 7 rfl (by decide) rfl q432 rfl dX4_counted_85 ?_
    refine k_iast C [(z0, cZ .null z1 X.2.2), (z1, cQ cJ z2 z3), (z2, cA4 cI X.1), (z3, cA4 cI X.2.1), (q1, cA9 cI (X.2.2.1, X.2.2.2.1, 0, X.2.2.2.2.2.1, X.2.2.2.2.2.2.1, X.2.2.2.2.2.2.2.2.1, 0, r4, X.2.2.2.2.2.2.2.1))] 4 rfl vi9_8 (ar9 (X.2.2.1, X.2.2.2.1, 0, X.2.2.2.2.2.1, X.2.2.2.2.2.2.1, X.2.2.2.2.2.2.2.2.1, 0, r4, X.2.2.2.2.2.2.2.1)) (ar9_s8 _ _) rfl dX4_counted_88 ?_
    refine k_astore_n C [(2, .ref q1), (0, .ref z0), (1, .int 0)] (by decide) rfl dX4_counted_89 ?_
    refine k_aload_n C dX4_counted_90 0 rfl ?_
    refine k_iload_n C dX4_counted_91 2 rfl ?_
    refine k_iald C 4 rfl vi9_0 (ar9_l0 _) dX4_counted_92 ?_
    have hL : fX4_counted_n0 X = X.2.2.1 := by subst er4; subst er2; exact (if_pos c3).trans rfl
    refine k_widen (k' := 1) (n' := 9) (Nat.le_of_ble_eq_true rfl) (Nat.le_of_ble_eq_true rfl) ?_
    refine k_wsub (w' := [(z0, cZ .null z1 X.2.2), (z1, cQ cJ z2 z3), (z2, cA4 cI X.1), (z3, cA4 cI X.2.1)]) [0, 1, 2, 3] rfl rfl ?_
    exact k_iretG C rfl (by rw [hL]; exact ⟨rfl, rfl⟩) dX4_counted_93
  ·
    refine k_iconst C 1 (by decide) dX4_counted_67 ?_
    refine k_goto C 72 (by decide) dX4_counted_68 ?_
    refine k_iast C [(z0, cZ .null z1 X.2.2), (z1, cQ cJ z2 z3), (z2, cA4 cI X.1), (z3, cA4 cI X.2.1), (q1, cA9 cI (X.2.2.1, X.2.2.2.1, 0, X.2.2.2.2.2.1, X.2.2.2.2.2.2.1, X.2.2.2.2.2.2.2.2.1, 1, 0, 0))] 4 rfl vi9_6 (ar9 (X.2.2.1, X.2.2.2.1, 0, X.2.2.2.2.2.1, X.2.2.2.2.2.2.1, X.2.2.2.2.2.2.2.2.1, 1, 0, 0)) (ar9_s6 _ _) rfl dX4_counted_72 ?_
    refine k_dup C rfl dX4_counted_73 ?_
    refine k_bipush C 7 (by decide) dX4_counted_74 ?_
    refine k_aload_n C dX4_counted_76 0 rfl ?_
    refine k_callV_i C (mX4_winner l D cI cJ z0 z1 z2 z3 .null X) (cwV 0 C.2.2.2.2.1 (kGV q479 q463 q464 q38 q465) rfl rfl rfl ⟨rfl, hdX4_winner⟩ ⟨Nat.le_of_ble_eq_true rfl, Nat.le_of_ble_eq_true rfl⟩) [0, 1, 2, 3] [4] [1, 2, 3, 4, 0] [(q1, cA9 cI (X.2.2.1, X.2.2.2.1, 0, X.2.2.2.2.2.1, X.2.2.2.2.2.2.1, X.2.2.2.2.2.2.2.2.1, 1, 0, 0))] ([(z0, cZ .null z1 X.2.2), (z1, cQ cJ z2 z3), (z2, cA4 cI X.1), (z3, cA4 cI X.2.1), (q1, cA9 cI (X.2.2.1, X.2.2.2.1, 0, X.2.2.2.2.2.1, X.2.2.2.2.2.2.1, X.2.2.2.2.2.2.2.2.1, 1, 0, 0))]) rfl rfl rfl rfl (by decide) [z0, z1, z2, z3] rfl rfl rfl rfl 0 4 rfl rfl rfl (Nat.le_of_ble_eq_true rfl) ⟨Nat.le_of_ble_eq_true rfl, Nat.le_of_ble_eq_true rfl⟩ rfl dX4_counted_77 ?_
    generalize er5 : fX4_winner X = r5
    refine k_iast C [(z0, cZ .null z1 X.2.2), (z1, cQ cJ z2 z3), (z2, cA4 cI X.1), (z3, cA4 cI X.2.1), (q1, cA9 cI (X.2.2.1, X.2.2.2.1, 0, X.2.2.2.2.2.1, X.2.2.2.2.2.2.1, X.2.2.2.2.2.2.2.2.1, 1, r5, 0))] 4 rfl vi9_7 (ar9 (X.2.2.1, X.2.2.2.1, 0, X.2.2.2.2.2.1, X.2.2.2.2.2.2.1, X.2.2.2.2.2.2.2.2.1, 1, r5, 0)) (ar9_s7 _ _) rfl dX4_counted_80 ?_
    refine k_dup C rfl dX4_counted_81 ?_
    refine k_bipush C 8 (by decide) dX4_counted_82 ?_
    refine k_aload_n C dX4_counted_84 0 rfl ?_
    refine k_getX4 C 0 7 rfl (by decide) rfl q432 rfl dX4_counted_85 ?_
    refine k_iast C [(z0, cZ .null z1 X.2.2), (z1, cQ cJ z2 z3), (z2, cA4 cI X.1), (z3, cA4 cI X.2.1), (q1, cA9 cI (X.2.2.1, X.2.2.2.1, 0, X.2.2.2.2.2.1, X.2.2.2.2.2.2.1, X.2.2.2.2.2.2.2.2.1, 1, r5, X.2.2.2.2.2.2.2.1))] 4 rfl vi9_8 (ar9 (X.2.2.1, X.2.2.2.1, 0, X.2.2.2.2.2.1, X.2.2.2.2.2.2.1, X.2.2.2.2.2.2.2.2.1, 1, r5, X.2.2.2.2.2.2.2.1)) (ar9_s8 _ _) rfl dX4_counted_88 ?_
    refine k_astore_n C [(2, .ref q1), (0, .ref z0), (1, .int 0)] (by decide) rfl dX4_counted_89 ?_
    refine k_aload_n C dX4_counted_90 0 rfl ?_
    refine k_iload_n C dX4_counted_91 2 rfl ?_
    refine k_iald C 4 rfl vi9_0 (ar9_l0 _) dX4_counted_92 ?_
    have hL : fX4_counted_n0 X = X.2.2.1 := by subst er5; subst er2; exact (if_neg c3).trans rfl
    refine k_widen (k' := 1) (n' := 9) (Nat.le_of_ble_eq_true rfl) (Nat.le_of_ble_eq_true rfl) ?_
    refine k_wsub (w' := [(z0, cZ .null z1 X.2.2), (z1, cQ cJ z2 z3), (z2, cA4 cI X.1), (z3, cA4 cI X.2.1)]) [0, 1, 2, 3] rfl rfl ?_
    exact k_iretG C rfl (by rw [hL]; exact ⟨rfl, rfl⟩) dX4_counted_93

noncomputable def fX4_counted_r0 (X : Zs) (b : Lb) : Int32 :=
  if (fX4_canSet_r X b) = 0 then X.2.2.1
  else X.2.2.1
set_option maxHeartbeats 4000000 in
set_option maxRecDepth 100000 in
theorem mX4_counted_r0 (l : Launch) (D : va_G) (cI cJ : ClassId) (z0 z1 z2 z3 z4 : Nat) (X : Zs) (b : Lb) : kGi l D cI cJ yX4_counted (.code yX4_counted cX4_counted 3 (some .int)) { frames := 1, cells := 1, slots := 9, locals := 20 } [.ref z0, .int 0] [(z0, cZ (.ref z4) z1 X.2.2), (z1, cQ cJ z2 z3), (z2, cA4 cI X.1), (z3, cA4 cI X.2.1), (z4, cL b)] 1 9 (fun r U => r = fX4_counted_r0 X b ∧ U = [(z0, cZ (.ref z4) z1 X.2.2), (z1, cQ cJ z2 z3), (z2, cA4 cI X.1), (z3, cA4 cI X.2.1), (z4, cL b)]) := by
  refine fun sz => k_ofN (lv := [(0, .ref z0), (1, .int 0)]) (by decide) sz (Nat.le_of_ble_eq_true rfl) rfl ?_
  intro p e s m args below meth c hsz hnm C
  refine k_bipush C 9 (by decide) dX4_counted_0 ?_
  refine k_newI C 9 (ar9 (0, 0, 0, 0, 0, 0, 0, 0, 0)) zf9 (by decide) (by decide) (by decide) (Nat.le_of_ble_eq_true rfl) (Nat.le_of_ble_eq_true rfl) dX4_counted_2 (fun q1 => ?_)
  refine k_dup C rfl dX4_counted_4 ?_
  refine k_iconst C 0 (by decide) dX4_counted_5 ?_
  refine k_aload_n C dX4_counted_6 0 rfl ?_
  refine k_getX4 C 0 0 rfl (by decide) rfl q423 rfl dX4_counted_7 ?_
  refine k_iast C [(z0, cZ (.ref z4) z1 X.2.2), (z1, cQ cJ z2 z3), (z2, cA4 cI X.1), (z3, cA4 cI X.2.1), (z4, cL b), (q1, cA9 cI (X.2.2.1, 0, 0, 0, 0, 0, 0, 0, 0))] 5 rfl vi9_0 (ar9 (X.2.2.1, 0, 0, 0, 0, 0, 0, 0, 0)) (ar9_s0 _ _) rfl dX4_counted_10 ?_
  refine k_dup C rfl dX4_counted_11 ?_
  refine k_iconst C 1 (by decide) dX4_counted_12 ?_
  refine k_aload_n C dX4_counted_13 0 rfl ?_
  refine k_getX4 C 0 1 rfl (by decide) rfl q424 rfl dX4_counted_14 ?_
  refine k_iast C [(z0, cZ (.ref z4) z1 X.2.2), (z1, cQ cJ z2 z3), (z2, cA4 cI X.1), (z3, cA4 cI X.2.1), (z4, cL b), (q1, cA9 cI (X.2.2.1, X.2.2.2.1, 0, 0, 0, 0, 0, 0, 0))] 5 rfl vi9_1 (ar9 (X.2.2.1, X.2.2.2.1, 0, 0, 0, 0, 0, 0, 0)) (ar9_s1 _ _) rfl dX4_counted_17 ?_
  refine k_dup C rfl dX4_counted_18 ?_
  refine k_iconst C 2 (by decide) dX4_counted_19 ?_
  refine k_aload_n C dX4_counted_20 0 rfl ?_
  refine k_getX4 C 0 3 rfl (by decide) rfl q426 rfl dX4_counted_21 ?_
  refine k_ifnonnull C 31 (by decide) dX4_counted_24 ?_
  refine k_aload_n C dX4_counted_31 0 rfl ?_
  refine k_getX4 C 0 2 rfl (by decide) rfl q425 rfl dX4_counted_32 ?_
  refine k_iast C [(z0, cZ (.ref z4) z1 X.2.2), (z1, cQ cJ z2 z3), (z2, cA4 cI X.1), (z3, cA4 cI X.2.1), (z4, cL b), (q1, cA9 cI (X.2.2.1, X.2.2.2.1, X.2.2.2.2.1, 0, 0, 0, 0, 0, 0))] 5 rfl vi9_2 (ar9 (X.2.2.1, X.2.2.2.1, X.2.2.2.2.1, 0, 0, 0, 0, 0, 0)) (ar9_s2 _ _) rfl dX4_counted_35 ?_
  refine k_dup C rfl dX4_counted_36 ?_
  refine k_iconst C 3 (by decide) dX4_counted_37 ?_
  refine k_aload_n C dX4_counted_38 0 rfl ?_
  refine k_getX4 C 0 5 rfl (by decide) rfl q430 rfl dX4_counted_39 ?_
  refine k_iast C [(z0, cZ (.ref z4) z1 X.2.2), (z1, cQ cJ z2 z3), (z2, cA4 cI X.1), (z3, cA4 cI X.2.1), (z4, cL b), (q1, cA9 cI (X.2.2.1, X.2.2.2.1, X.2.2.2.2.1, X.2.2.2.2.2.1, 0, 0, 0, 0, 0))] 5 rfl vi9_3 (ar9 (X.2.2.1, X.2.2.2.1, X.2.2.2.2.1, X.2.2.2.2.2.1, 0, 0, 0, 0, 0)) (ar9_s3 _ _) rfl dX4_counted_42 ?_
  refine k_dup C rfl dX4_counted_43 ?_
  refine k_iconst C 4 (by decide) dX4_counted_44 ?_
  refine k_aload_n C dX4_counted_45 0 rfl ?_
  refine k_getX4 C 0 6 rfl (by decide) rfl q431 rfl dX4_counted_46 ?_
  refine k_iast C [(z0, cZ (.ref z4) z1 X.2.2), (z1, cQ cJ z2 z3), (z2, cA4 cI X.1), (z3, cA4 cI X.2.1), (z4, cL b), (q1, cA9 cI (X.2.2.1, X.2.2.2.1, X.2.2.2.2.1, X.2.2.2.2.2.1, X.2.2.2.2.2.2.1, 0, 0, 0, 0))] 5 rfl vi9_4 (ar9 (X.2.2.1, X.2.2.2.1, X.2.2.2.2.1, X.2.2.2.2.2.1, X.2.2.2.2.2.2.1, 0, 0, 0, 0)) (ar9_s4 _ _) rfl dX4_counted_49 ?_
  refine k_dup C rfl dX4_counted_50 ?_
  refine k_iconst C 5 (by decide) dX4_counted_51 ?_
  refine k_aload_n C dX4_counted_52 0 rfl ?_
  refine k_getX4 C 0 8 rfl (by decide) rfl q433 rfl dX4_counted_53 ?_
  refine k_iast C [(z0, cZ (.ref z4) z1 X.2.2), (z1, cQ cJ z2 z3), (z2, cA4 cI X.1), (z3, cA4 cI X.2.1), (z4, cL b), (q1, cA9 cI (X.2.2.1, X.2.2.2.1, X.2.2.2.2.1, X.2.2.2.2.2.1, X.2.2.2.2.2.2.1, X.2.2.2.2.2.2.2.2.1, 0, 0, 0))] 5 rfl vi9_5 (ar9 (X.2.2.1, X.2.2.2.1, X.2.2.2.2.1, X.2.2.2.2.2.1, X.2.2.2.2.2.2.1, X.2.2.2.2.2.2.2.2.1, 0, 0, 0)) (ar9_s5 _ _) rfl dX4_counted_56 ?_
  refine k_dup C rfl dX4_counted_57 ?_
  refine k_bipush C 6 (by decide) dX4_counted_58 ?_
  refine k_aload_n C dX4_counted_60 0 rfl ?_
  refine k_callV_i C (mX4_canSet_r l D cI cJ z0 z1 z2 z3 z4 X b) (cwV 0 C.2.2.2.2.1 (kGV q475 q476 q477 q38 q478) rfl rfl rfl ⟨rfl, hdX4_canSet⟩ ⟨Nat.le_of_ble_eq_true rfl, Nat.le_of_ble_eq_true rfl⟩) [0, 1, 2, 3, 4] [5] [1, 2, 3, 4, 5, 0] [(q1, cA9 cI (X.2.2.1, X.2.2.2.1, X.2.2.2.2.1, X.2.2.2.2.2.1, X.2.2.2.2.2.2.1, X.2.2.2.2.2.2.2.2.1, 0, 0, 0))] ([(z0, cZ (.ref z4) z1 X.2.2), (z1, cQ cJ z2 z3), (z2, cA4 cI X.1), (z3, cA4 cI X.2.1), (z4, cL b), (q1, cA9 cI (X.2.2.1, X.2.2.2.1, X.2.2.2.2.1, X.2.2.2.2.2.1, X.2.2.2.2.2.2.1, X.2.2.2.2.2.2.2.2.1, 0, 0, 0))]) rfl rfl rfl rfl (by decide) [z0, z1, z2, z3, z4] rfl rfl rfl rfl 0 4 rfl rfl rfl (Nat.le_of_ble_eq_true rfl) ⟨Nat.le_of_ble_eq_true rfl, Nat.le_of_ble_eq_true rfl⟩ rfl dX4_counted_61 ?_
  generalize er2 : fX4_canSet_r X b = r2
  refine k_if_eq C 71 (by decide) dX4_counted_64 (fun c3 => ?_) (fun c3 => ?_)
  ·
    refine k_iconst C 0 (by decide) dX4_counted_71 ?_
    refine k_iast C [(z0, cZ (.ref z4) z1 X.2.2), (z1, cQ cJ z2 z3), (z2, cA4 cI X.1), (z3, cA4 cI X.2.1), (z4, cL b), (q1, cA9 cI (X.2.2.1, X.2.2.2.1, X.2.2.2.2.1, X.2.2.2.2.2.1, X.2.2.2.2.2.2.1, X.2.2.2.2.2.2.2.2.1, 0, 0, 0))] 5 rfl vi9_6 (ar9 (X.2.2.1, X.2.2.2.1, X.2.2.2.2.1, X.2.2.2.2.2.1, X.2.2.2.2.2.2.1, X.2.2.2.2.2.2.2.2.1, 0, 0, 0)) (ar9_s6 _ _) rfl dX4_counted_72 ?_
    refine k_dup C rfl dX4_counted_73 ?_
    refine k_bipush C 7 (by decide) dX4_counted_74 ?_
    refine k_aload_n C dX4_counted_76 0 rfl ?_
    refine k_callV_i C (mX4_winner l D cI cJ z0 z1 z2 z3 (.ref z4) X) (cwV 0 C.2.2.2.2.1 (kGV q479 q463 q464 q38 q465) rfl rfl rfl ⟨rfl, hdX4_winner⟩ ⟨Nat.le_of_ble_eq_true rfl, Nat.le_of_ble_eq_true rfl⟩) [0, 1, 2, 3] [4, 5] [2, 3, 4, 5, 0, 1] [(z4, cL b), (q1, cA9 cI (X.2.2.1, X.2.2.2.1, X.2.2.2.2.1, X.2.2.2.2.2.1, X.2.2.2.2.2.2.1, X.2.2.2.2.2.2.2.2.1, 0, 0, 0))] ([(z0, cZ (.ref z4) z1 X.2.2), (z1, cQ cJ z2 z3), (z2, cA4 cI X.1), (z3, cA4 cI X.2.1), (z4, cL b), (q1, cA9 cI (X.2.2.1, X.2.2.2.1, X.2.2.2.2.1, X.2.2.2.2.2.1, X.2.2.2.2.2.2.1, X.2.2.2.2.2.2.2.2.1, 0, 0, 0))]) rfl rfl rfl rfl (by decide) [z0, z1, z2, z3] rfl rfl rfl rfl 0 4 rfl rfl rfl (Nat.le_of_ble_eq_true rfl) ⟨Nat.le_of_ble_eq_true rfl, Nat.le_of_ble_eq_true rfl⟩ rfl dX4_counted_77 ?_
    generalize er4 : fX4_winner X = r4
    refine k_iast C [(z0, cZ (.ref z4) z1 X.2.2), (z1, cQ cJ z2 z3), (z2, cA4 cI X.1), (z3, cA4 cI X.2.1), (z4, cL b), (q1, cA9 cI (X.2.2.1, X.2.2.2.1, X.2.2.2.2.1, X.2.2.2.2.2.1, X.2.2.2.2.2.2.1, X.2.2.2.2.2.2.2.2.1, 0, r4, 0))] 5 rfl vi9_7 (ar9 (X.2.2.1, X.2.2.2.1, X.2.2.2.2.1, X.2.2.2.2.2.1, X.2.2.2.2.2.2.1, X.2.2.2.2.2.2.2.2.1, 0, r4, 0)) (ar9_s7 _ _) rfl dX4_counted_80 ?_
    refine k_dup C rfl dX4_counted_81 ?_
    refine k_bipush C 8 (by decide) dX4_counted_82 ?_
    refine k_aload_n C dX4_counted_84 0 rfl ?_
    refine k_getX4 C 0 7 rfl (by decide) rfl q432 rfl dX4_counted_85 ?_
    refine k_iast C [(z0, cZ (.ref z4) z1 X.2.2), (z1, cQ cJ z2 z3), (z2, cA4 cI X.1), (z3, cA4 cI X.2.1), (z4, cL b), (q1, cA9 cI (X.2.2.1, X.2.2.2.1, X.2.2.2.2.1, X.2.2.2.2.2.1, X.2.2.2.2.2.2.1, X.2.2.2.2.2.2.2.2.1, 0, r4, X.2.2.2.2.2.2.2.1))] 5 rfl vi9_8 (ar9 (X.2.2.1, X.2.2.2.1, X.2.2.2.2.1, X.2.2.2.2.2.1, X.2.2.2.2.2.2.1, X.2.2.2.2.2.2.2.2.1, 0, r4, X.2.2.2.2.2.2.2.1)) (ar9_s8 _ _) rfl dX4_counted_88 ?_
    refine k_astore_n C [(2, .ref q1), (0, .ref z0), (1, .int 0)] (by decide) rfl dX4_counted_89 ?_
    refine k_aload_n C dX4_counted_90 0 rfl ?_
    refine k_iload_n C dX4_counted_91 2 rfl ?_
    refine k_iald C 5 rfl vi9_0 (ar9_l0 _) dX4_counted_92 ?_
    have hL : fX4_counted_r0 X b = X.2.2.1 := by subst er4; subst er2; exact (if_pos c3).trans rfl
    refine k_widen (k' := 1) (n' := 9) (Nat.le_of_ble_eq_true rfl) (Nat.le_of_ble_eq_true rfl) ?_
    refine k_wsub (w' := [(z0, cZ (.ref z4) z1 X.2.2), (z1, cQ cJ z2 z3), (z2, cA4 cI X.1), (z3, cA4 cI X.2.1), (z4, cL b)]) [0, 1, 2, 3, 4] rfl rfl ?_
    exact k_iretG C rfl (by rw [hL]; exact ⟨rfl, rfl⟩) dX4_counted_93
  ·
    refine k_iconst C 1 (by decide) dX4_counted_67 ?_
    refine k_goto C 72 (by decide) dX4_counted_68 ?_
    refine k_iast C [(z0, cZ (.ref z4) z1 X.2.2), (z1, cQ cJ z2 z3), (z2, cA4 cI X.1), (z3, cA4 cI X.2.1), (z4, cL b), (q1, cA9 cI (X.2.2.1, X.2.2.2.1, X.2.2.2.2.1, X.2.2.2.2.2.1, X.2.2.2.2.2.2.1, X.2.2.2.2.2.2.2.2.1, 1, 0, 0))] 5 rfl vi9_6 (ar9 (X.2.2.1, X.2.2.2.1, X.2.2.2.2.1, X.2.2.2.2.2.1, X.2.2.2.2.2.2.1, X.2.2.2.2.2.2.2.2.1, 1, 0, 0)) (ar9_s6 _ _) rfl dX4_counted_72 ?_
    refine k_dup C rfl dX4_counted_73 ?_
    refine k_bipush C 7 (by decide) dX4_counted_74 ?_
    refine k_aload_n C dX4_counted_76 0 rfl ?_
    refine k_callV_i C (mX4_winner l D cI cJ z0 z1 z2 z3 (.ref z4) X) (cwV 0 C.2.2.2.2.1 (kGV q479 q463 q464 q38 q465) rfl rfl rfl ⟨rfl, hdX4_winner⟩ ⟨Nat.le_of_ble_eq_true rfl, Nat.le_of_ble_eq_true rfl⟩) [0, 1, 2, 3] [4, 5] [2, 3, 4, 5, 0, 1] [(z4, cL b), (q1, cA9 cI (X.2.2.1, X.2.2.2.1, X.2.2.2.2.1, X.2.2.2.2.2.1, X.2.2.2.2.2.2.1, X.2.2.2.2.2.2.2.2.1, 1, 0, 0))] ([(z0, cZ (.ref z4) z1 X.2.2), (z1, cQ cJ z2 z3), (z2, cA4 cI X.1), (z3, cA4 cI X.2.1), (z4, cL b), (q1, cA9 cI (X.2.2.1, X.2.2.2.1, X.2.2.2.2.1, X.2.2.2.2.2.1, X.2.2.2.2.2.2.1, X.2.2.2.2.2.2.2.2.1, 1, 0, 0))]) rfl rfl rfl rfl (by decide) [z0, z1, z2, z3] rfl rfl rfl rfl 0 4 rfl rfl rfl (Nat.le_of_ble_eq_true rfl) ⟨Nat.le_of_ble_eq_true rfl, Nat.le_of_ble_eq_true rfl⟩ rfl dX4_counted_77 ?_
    generalize er5 : fX4_winner X = r5
    refine k_iast C [(z0, cZ (.ref z4) z1 X.2.2), (z1, cQ cJ z2 z3), (z2, cA4 cI X.1), (z3, cA4 cI X.2.1), (z4, cL b), (q1, cA9 cI (X.2.2.1, X.2.2.2.1, X.2.2.2.2.1, X.2.2.2.2.2.1, X.2.2.2.2.2.2.1, X.2.2.2.2.2.2.2.2.1, 1, r5, 0))] 5 rfl vi9_7 (ar9 (X.2.2.1, X.2.2.2.1, X.2.2.2.2.1, X.2.2.2.2.2.1, X.2.2.2.2.2.2.1, X.2.2.2.2.2.2.2.2.1, 1, r5, 0)) (ar9_s7 _ _) rfl dX4_counted_80 ?_
    refine k_dup C rfl dX4_counted_81 ?_
    refine k_bipush C 8 (by decide) dX4_counted_82 ?_
    refine k_aload_n C dX4_counted_84 0 rfl ?_
    refine k_getX4 C 0 7 rfl (by decide) rfl q432 rfl dX4_counted_85 ?_
    refine k_iast C [(z0, cZ (.ref z4) z1 X.2.2), (z1, cQ cJ z2 z3), (z2, cA4 cI X.1), (z3, cA4 cI X.2.1), (z4, cL b), (q1, cA9 cI (X.2.2.1, X.2.2.2.1, X.2.2.2.2.1, X.2.2.2.2.2.1, X.2.2.2.2.2.2.1, X.2.2.2.2.2.2.2.2.1, 1, r5, X.2.2.2.2.2.2.2.1))] 5 rfl vi9_8 (ar9 (X.2.2.1, X.2.2.2.1, X.2.2.2.2.1, X.2.2.2.2.2.1, X.2.2.2.2.2.2.1, X.2.2.2.2.2.2.2.2.1, 1, r5, X.2.2.2.2.2.2.2.1)) (ar9_s8 _ _) rfl dX4_counted_88 ?_
    refine k_astore_n C [(2, .ref q1), (0, .ref z0), (1, .int 0)] (by decide) rfl dX4_counted_89 ?_
    refine k_aload_n C dX4_counted_90 0 rfl ?_
    refine k_iload_n C dX4_counted_91 2 rfl ?_
    refine k_iald C 5 rfl vi9_0 (ar9_l0 _) dX4_counted_92 ?_
    have hL : fX4_counted_r0 X b = X.2.2.1 := by subst er5; subst er2; exact (if_neg c3).trans rfl
    refine k_widen (k' := 1) (n' := 9) (Nat.le_of_ble_eq_true rfl) (Nat.le_of_ble_eq_true rfl) ?_
    refine k_wsub (w' := [(z0, cZ (.ref z4) z1 X.2.2), (z1, cQ cJ z2 z3), (z2, cA4 cI X.1), (z3, cA4 cI X.2.1), (z4, cL b)]) [0, 1, 2, 3, 4] rfl rfl ?_
    exact k_iretG C rfl (by rw [hL]; exact ⟨rfl, rfl⟩) dX4_counted_93

noncomputable def fX4_counted_n1 (X : Zs) : Int32 :=
  if (fX4_canSet_n X) = 0 then X.2.2.2.1
  else X.2.2.2.1
set_option maxHeartbeats 4000000 in
set_option maxRecDepth 100000 in
theorem mX4_counted_n1 (l : Launch) (D : va_G) (cI cJ : ClassId) (z0 z1 z2 z3 : Nat) (X : Zs) : kGi l D cI cJ yX4_counted (.code yX4_counted cX4_counted 3 (some .int)) { frames := 1, cells := 1, slots := 9, locals := 20 } [.ref z0, .int 1] [(z0, cZ .null z1 X.2.2), (z1, cQ cJ z2 z3), (z2, cA4 cI X.1), (z3, cA4 cI X.2.1)] 1 9 (fun r U => r = fX4_counted_n1 X ∧ U = [(z0, cZ .null z1 X.2.2), (z1, cQ cJ z2 z3), (z2, cA4 cI X.1), (z3, cA4 cI X.2.1)]) := by
  refine fun sz => k_ofN (lv := [(0, .ref z0), (1, .int 1)]) (by decide) sz (Nat.le_of_ble_eq_true rfl) rfl ?_
  intro p e s m args below meth c hsz hnm C
  refine k_bipush C 9 (by decide) dX4_counted_0 ?_
  refine k_newI C 9 (ar9 (0, 0, 0, 0, 0, 0, 0, 0, 0)) zf9 (by decide) (by decide) (by decide) (Nat.le_of_ble_eq_true rfl) (Nat.le_of_ble_eq_true rfl) dX4_counted_2 (fun q1 => ?_)
  refine k_dup C rfl dX4_counted_4 ?_
  refine k_iconst C 0 (by decide) dX4_counted_5 ?_
  refine k_aload_n C dX4_counted_6 0 rfl ?_
  refine k_getX4 C 0 0 rfl (by decide) rfl q423 rfl dX4_counted_7 ?_
  refine k_iast C [(z0, cZ .null z1 X.2.2), (z1, cQ cJ z2 z3), (z2, cA4 cI X.1), (z3, cA4 cI X.2.1), (q1, cA9 cI (X.2.2.1, 0, 0, 0, 0, 0, 0, 0, 0))] 4 rfl vi9_0 (ar9 (X.2.2.1, 0, 0, 0, 0, 0, 0, 0, 0)) (ar9_s0 _ _) rfl dX4_counted_10 ?_
  refine k_dup C rfl dX4_counted_11 ?_
  refine k_iconst C 1 (by decide) dX4_counted_12 ?_
  refine k_aload_n C dX4_counted_13 0 rfl ?_
  refine k_getX4 C 0 1 rfl (by decide) rfl q424 rfl dX4_counted_14 ?_
  refine k_iast C [(z0, cZ .null z1 X.2.2), (z1, cQ cJ z2 z3), (z2, cA4 cI X.1), (z3, cA4 cI X.2.1), (q1, cA9 cI (X.2.2.1, X.2.2.2.1, 0, 0, 0, 0, 0, 0, 0))] 4 rfl vi9_1 (ar9 (X.2.2.1, X.2.2.2.1, 0, 0, 0, 0, 0, 0, 0)) (ar9_s1 _ _) rfl dX4_counted_17 ?_
  refine k_dup C rfl dX4_counted_18 ?_
  refine k_iconst C 2 (by decide) dX4_counted_19 ?_
  refine k_aload_n C dX4_counted_20 0 rfl ?_
  refine k_getX4 C 0 3 rfl (by decide) rfl q426 rfl dX4_counted_21 ?_
  refine k_ifnonnullN C dX4_counted_24 ?_
  refine k_iconst C 0 (by decide) dX4_counted_27 ?_
  refine k_goto C 35 (by decide) dX4_counted_28 ?_
  refine k_iast C [(z0, cZ .null z1 X.2.2), (z1, cQ cJ z2 z3), (z2, cA4 cI X.1), (z3, cA4 cI X.2.1), (q1, cA9 cI (X.2.2.1, X.2.2.2.1, 0, 0, 0, 0, 0, 0, 0))] 4 rfl vi9_2 (ar9 (X.2.2.1, X.2.2.2.1, 0, 0, 0, 0, 0, 0, 0)) (ar9_s2 _ _) rfl dX4_counted_35 ?_
  refine k_dup C rfl dX4_counted_36 ?_
  refine k_iconst C 3 (by decide) dX4_counted_37 ?_
  refine k_aload_n C dX4_counted_38 0 rfl ?_
  refine k_getX4 C 0 5 rfl (by decide) rfl q430 rfl dX4_counted_39 ?_
  refine k_iast C [(z0, cZ .null z1 X.2.2), (z1, cQ cJ z2 z3), (z2, cA4 cI X.1), (z3, cA4 cI X.2.1), (q1, cA9 cI (X.2.2.1, X.2.2.2.1, 0, X.2.2.2.2.2.1, 0, 0, 0, 0, 0))] 4 rfl vi9_3 (ar9 (X.2.2.1, X.2.2.2.1, 0, X.2.2.2.2.2.1, 0, 0, 0, 0, 0)) (ar9_s3 _ _) rfl dX4_counted_42 ?_
  refine k_dup C rfl dX4_counted_43 ?_
  refine k_iconst C 4 (by decide) dX4_counted_44 ?_
  refine k_aload_n C dX4_counted_45 0 rfl ?_
  refine k_getX4 C 0 6 rfl (by decide) rfl q431 rfl dX4_counted_46 ?_
  refine k_iast C [(z0, cZ .null z1 X.2.2), (z1, cQ cJ z2 z3), (z2, cA4 cI X.1), (z3, cA4 cI X.2.1), (q1, cA9 cI (X.2.2.1, X.2.2.2.1, 0, X.2.2.2.2.2.1, X.2.2.2.2.2.2.1, 0, 0, 0, 0))] 4 rfl vi9_4 (ar9 (X.2.2.1, X.2.2.2.1, 0, X.2.2.2.2.2.1, X.2.2.2.2.2.2.1, 0, 0, 0, 0)) (ar9_s4 _ _) rfl dX4_counted_49 ?_
  refine k_dup C rfl dX4_counted_50 ?_
  refine k_iconst C 5 (by decide) dX4_counted_51 ?_
  refine k_aload_n C dX4_counted_52 0 rfl ?_
  refine k_getX4 C 0 8 rfl (by decide) rfl q433 rfl dX4_counted_53 ?_
  refine k_iast C [(z0, cZ .null z1 X.2.2), (z1, cQ cJ z2 z3), (z2, cA4 cI X.1), (z3, cA4 cI X.2.1), (q1, cA9 cI (X.2.2.1, X.2.2.2.1, 0, X.2.2.2.2.2.1, X.2.2.2.2.2.2.1, X.2.2.2.2.2.2.2.2.1, 0, 0, 0))] 4 rfl vi9_5 (ar9 (X.2.2.1, X.2.2.2.1, 0, X.2.2.2.2.2.1, X.2.2.2.2.2.2.1, X.2.2.2.2.2.2.2.2.1, 0, 0, 0)) (ar9_s5 _ _) rfl dX4_counted_56 ?_
  refine k_dup C rfl dX4_counted_57 ?_
  refine k_bipush C 6 (by decide) dX4_counted_58 ?_
  refine k_aload_n C dX4_counted_60 0 rfl ?_
  refine k_callV_i C (mX4_canSet_n l D cI cJ z0 z1 z2 z3 X) (cwV 0 C.2.2.2.2.1 (kGV q475 q476 q477 q38 q478) rfl rfl rfl ⟨rfl, hdX4_canSet⟩ ⟨Nat.le_of_ble_eq_true rfl, Nat.le_of_ble_eq_true rfl⟩) [0, 1, 2, 3] [4] [1, 2, 3, 4, 0] [(q1, cA9 cI (X.2.2.1, X.2.2.2.1, 0, X.2.2.2.2.2.1, X.2.2.2.2.2.2.1, X.2.2.2.2.2.2.2.2.1, 0, 0, 0))] ([(z0, cZ .null z1 X.2.2), (z1, cQ cJ z2 z3), (z2, cA4 cI X.1), (z3, cA4 cI X.2.1), (q1, cA9 cI (X.2.2.1, X.2.2.2.1, 0, X.2.2.2.2.2.1, X.2.2.2.2.2.2.1, X.2.2.2.2.2.2.2.2.1, 0, 0, 0))]) rfl rfl rfl rfl (by decide) [z0, z1, z2, z3] rfl rfl rfl rfl 0 4 rfl rfl rfl (Nat.le_of_ble_eq_true rfl) ⟨Nat.le_of_ble_eq_true rfl, Nat.le_of_ble_eq_true rfl⟩ rfl dX4_counted_61 ?_
  generalize er2 : fX4_canSet_n X = r2
  refine k_if_eq C 71 (by decide) dX4_counted_64 (fun c3 => ?_) (fun c3 => ?_)
  ·
    refine k_iconst C 0 (by decide) dX4_counted_71 ?_
    refine k_iast C [(z0, cZ .null z1 X.2.2), (z1, cQ cJ z2 z3), (z2, cA4 cI X.1), (z3, cA4 cI X.2.1), (q1, cA9 cI (X.2.2.1, X.2.2.2.1, 0, X.2.2.2.2.2.1, X.2.2.2.2.2.2.1, X.2.2.2.2.2.2.2.2.1, 0, 0, 0))] 4 rfl vi9_6 (ar9 (X.2.2.1, X.2.2.2.1, 0, X.2.2.2.2.2.1, X.2.2.2.2.2.2.1, X.2.2.2.2.2.2.2.2.1, 0, 0, 0)) (ar9_s6 _ _) rfl dX4_counted_72 ?_
    refine k_dup C rfl dX4_counted_73 ?_
    refine k_bipush C 7 (by decide) dX4_counted_74 ?_
    refine k_aload_n C dX4_counted_76 0 rfl ?_
    refine k_callV_i C (mX4_winner l D cI cJ z0 z1 z2 z3 .null X) (cwV 0 C.2.2.2.2.1 (kGV q479 q463 q464 q38 q465) rfl rfl rfl ⟨rfl, hdX4_winner⟩ ⟨Nat.le_of_ble_eq_true rfl, Nat.le_of_ble_eq_true rfl⟩) [0, 1, 2, 3] [4] [1, 2, 3, 4, 0] [(q1, cA9 cI (X.2.2.1, X.2.2.2.1, 0, X.2.2.2.2.2.1, X.2.2.2.2.2.2.1, X.2.2.2.2.2.2.2.2.1, 0, 0, 0))] ([(z0, cZ .null z1 X.2.2), (z1, cQ cJ z2 z3), (z2, cA4 cI X.1), (z3, cA4 cI X.2.1), (q1, cA9 cI (X.2.2.1, X.2.2.2.1, 0, X.2.2.2.2.2.1, X.2.2.2.2.2.2.1, X.2.2.2.2.2.2.2.2.1, 0, 0, 0))]) rfl rfl rfl rfl (by decide) [z0, z1, z2, z3] rfl rfl rfl rfl 0 4 rfl rfl rfl (Nat.le_of_ble_eq_true rfl) ⟨Nat.le_of_ble_eq_true rfl, Nat.le_of_ble_eq_true rfl⟩ rfl dX4_counted_77 ?_
    generalize er4 : fX4_winner X = r4
    refine k_iast C [(z0, cZ .null z1 X.2.2), (z1, cQ cJ z2 z3), (z2, cA4 cI X.1), (z3, cA4 cI X.2.1), (q1, cA9 cI (X.2.2.1, X.2.2.2.1, 0, X.2.2.2.2.2.1, X.2.2.2.2.2.2.1, X.2.2.2.2.2.2.2.2.1, 0, r4, 0))] 4 rfl vi9_7 (ar9 (X.2.2.1, X.2.2.2.1, 0, X.2.2.2.2.2.1, X.2.2.2.2.2.2.1, X.2.2.2.2.2.2.2.2.1, 0, r4, 0)) (ar9_s7 _ _) rfl dX4_counted_80 ?_
    refine k_dup C rfl dX4_counted_81 ?_
    refine k_bipush C 8 (by decide) dX4_counted_82 ?_
    refine k_aload_n C dX4_counted_84 0 rfl ?_
    refine k_getX4 C 0 7 rfl (by decide) rfl q432 rfl dX4_counted_85 ?_
    refine k_iast C [(z0, cZ .null z1 X.2.2), (z1, cQ cJ z2 z3), (z2, cA4 cI X.1), (z3, cA4 cI X.2.1), (q1, cA9 cI (X.2.2.1, X.2.2.2.1, 0, X.2.2.2.2.2.1, X.2.2.2.2.2.2.1, X.2.2.2.2.2.2.2.2.1, 0, r4, X.2.2.2.2.2.2.2.1))] 4 rfl vi9_8 (ar9 (X.2.2.1, X.2.2.2.1, 0, X.2.2.2.2.2.1, X.2.2.2.2.2.2.1, X.2.2.2.2.2.2.2.2.1, 0, r4, X.2.2.2.2.2.2.2.1)) (ar9_s8 _ _) rfl dX4_counted_88 ?_
    refine k_astore_n C [(2, .ref q1), (0, .ref z0), (1, .int 1)] (by decide) rfl dX4_counted_89 ?_
    refine k_aload_n C dX4_counted_90 0 rfl ?_
    refine k_iload_n C dX4_counted_91 2 rfl ?_
    refine k_iald C 4 rfl vi9_1 (ar9_l1 _) dX4_counted_92 ?_
    have hL : fX4_counted_n1 X = X.2.2.2.1 := by subst er4; subst er2; exact (if_pos c3).trans rfl
    refine k_widen (k' := 1) (n' := 9) (Nat.le_of_ble_eq_true rfl) (Nat.le_of_ble_eq_true rfl) ?_
    refine k_wsub (w' := [(z0, cZ .null z1 X.2.2), (z1, cQ cJ z2 z3), (z2, cA4 cI X.1), (z3, cA4 cI X.2.1)]) [0, 1, 2, 3] rfl rfl ?_
    exact k_iretG C rfl (by rw [hL]; exact ⟨rfl, rfl⟩) dX4_counted_93
  ·
    refine k_iconst C 1 (by decide) dX4_counted_67 ?_
    refine k_goto C 72 (by decide) dX4_counted_68 ?_
    refine k_iast C [(z0, cZ .null z1 X.2.2), (z1, cQ cJ z2 z3), (z2, cA4 cI X.1), (z3, cA4 cI X.2.1), (q1, cA9 cI (X.2.2.1, X.2.2.2.1, 0, X.2.2.2.2.2.1, X.2.2.2.2.2.2.1, X.2.2.2.2.2.2.2.2.1, 1, 0, 0))] 4 rfl vi9_6 (ar9 (X.2.2.1, X.2.2.2.1, 0, X.2.2.2.2.2.1, X.2.2.2.2.2.2.1, X.2.2.2.2.2.2.2.2.1, 1, 0, 0)) (ar9_s6 _ _) rfl dX4_counted_72 ?_
    refine k_dup C rfl dX4_counted_73 ?_
    refine k_bipush C 7 (by decide) dX4_counted_74 ?_
    refine k_aload_n C dX4_counted_76 0 rfl ?_
    refine k_callV_i C (mX4_winner l D cI cJ z0 z1 z2 z3 .null X) (cwV 0 C.2.2.2.2.1 (kGV q479 q463 q464 q38 q465) rfl rfl rfl ⟨rfl, hdX4_winner⟩ ⟨Nat.le_of_ble_eq_true rfl, Nat.le_of_ble_eq_true rfl⟩) [0, 1, 2, 3] [4] [1, 2, 3, 4, 0] [(q1, cA9 cI (X.2.2.1, X.2.2.2.1, 0, X.2.2.2.2.2.1, X.2.2.2.2.2.2.1, X.2.2.2.2.2.2.2.2.1, 1, 0, 0))] ([(z0, cZ .null z1 X.2.2), (z1, cQ cJ z2 z3), (z2, cA4 cI X.1), (z3, cA4 cI X.2.1), (q1, cA9 cI (X.2.2.1, X.2.2.2.1, 0, X.2.2.2.2.2.1, X.2.2.2.2.2.2.1, X.2.2.2.2.2.2.2.2.1, 1, 0, 0))]) rfl rfl rfl rfl (by decide) [z0, z1, z2, z3] rfl rfl rfl rfl 0 4 rfl rfl rfl (Nat.le_of_ble_eq_true rfl) ⟨Nat.le_of_ble_eq_true rfl, Nat.le_of_ble_eq_true rfl⟩ rfl dX4_counted_77 ?_
    generalize er5 : fX4_winner X = r5
    refine k_iast C [(z0, cZ .null z1 X.2.2), (z1, cQ cJ z2 z3), (z2, cA4 cI X.1), (z3, cA4 cI X.2.1), (q1, cA9 cI (X.2.2.1, X.2.2.2.1, 0, X.2.2.2.2.2.1, X.2.2.2.2.2.2.1, X.2.2.2.2.2.2.2.2.1, 1, r5, 0))] 4 rfl vi9_7 (ar9 (X.2.2.1, X.2.2.2.1, 0, X.2.2.2.2.2.1, X.2.2.2.2.2.2.1, X.2.2.2.2.2.2.2.2.1, 1, r5, 0)) (ar9_s7 _ _) rfl dX4_counted_80 ?_
    refine k_dup C rfl dX4_counted_81 ?_
    refine k_bipush C 8 (by decide) dX4_counted_82 ?_
    refine k_aload_n C dX4_counted_84 0 rfl ?_
    refine k_getX4 C 0 7 rfl (by decide) rfl q432 rfl dX4_counted_85 ?_
    refine k_iast C [(z0, cZ .null z1 X.2.2), (z1, cQ cJ z2 z3), (z2, cA4 cI X.1), (z3, cA4 cI X.2.1), (q1, cA9 cI (X.2.2.1, X.2.2.2.1, 0, X.2.2.2.2.2.1, X.2.2.2.2.2.2.1, X.2.2.2.2.2.2.2.2.1, 1, r5, X.2.2.2.2.2.2.2.1))] 4 rfl vi9_8 (ar9 (X.2.2.1, X.2.2.2.1, 0, X.2.2.2.2.2.1, X.2.2.2.2.2.2.1, X.2.2.2.2.2.2.2.2.1, 1, r5, X.2.2.2.2.2.2.2.1)) (ar9_s8 _ _) rfl dX4_counted_88 ?_
    refine k_astore_n C [(2, .ref q1), (0, .ref z0), (1, .int 1)] (by decide) rfl dX4_counted_89 ?_
    refine k_aload_n C dX4_counted_90 0 rfl ?_
    refine k_iload_n C dX4_counted_91 2 rfl ?_
    refine k_iald C 4 rfl vi9_1 (ar9_l1 _) dX4_counted_92 ?_
    have hL : fX4_counted_n1 X = X.2.2.2.1 := by subst er5; subst er2; exact (if_neg c3).trans rfl
    refine k_widen (k' := 1) (n' := 9) (Nat.le_of_ble_eq_true rfl) (Nat.le_of_ble_eq_true rfl) ?_
    refine k_wsub (w' := [(z0, cZ .null z1 X.2.2), (z1, cQ cJ z2 z3), (z2, cA4 cI X.1), (z3, cA4 cI X.2.1)]) [0, 1, 2, 3] rfl rfl ?_
    exact k_iretG C rfl (by rw [hL]; exact ⟨rfl, rfl⟩) dX4_counted_93

noncomputable def fX4_counted_r1 (X : Zs) (b : Lb) : Int32 :=
  if (fX4_canSet_r X b) = 0 then X.2.2.2.1
  else X.2.2.2.1
set_option maxHeartbeats 4000000 in
set_option maxRecDepth 100000 in
theorem mX4_counted_r1 (l : Launch) (D : va_G) (cI cJ : ClassId) (z0 z1 z2 z3 z4 : Nat) (X : Zs) (b : Lb) : kGi l D cI cJ yX4_counted (.code yX4_counted cX4_counted 3 (some .int)) { frames := 1, cells := 1, slots := 9, locals := 20 } [.ref z0, .int 1] [(z0, cZ (.ref z4) z1 X.2.2), (z1, cQ cJ z2 z3), (z2, cA4 cI X.1), (z3, cA4 cI X.2.1), (z4, cL b)] 1 9 (fun r U => r = fX4_counted_r1 X b ∧ U = [(z0, cZ (.ref z4) z1 X.2.2), (z1, cQ cJ z2 z3), (z2, cA4 cI X.1), (z3, cA4 cI X.2.1), (z4, cL b)]) := by
  refine fun sz => k_ofN (lv := [(0, .ref z0), (1, .int 1)]) (by decide) sz (Nat.le_of_ble_eq_true rfl) rfl ?_
  intro p e s m args below meth c hsz hnm C
  refine k_bipush C 9 (by decide) dX4_counted_0 ?_
  refine k_newI C 9 (ar9 (0, 0, 0, 0, 0, 0, 0, 0, 0)) zf9 (by decide) (by decide) (by decide) (Nat.le_of_ble_eq_true rfl) (Nat.le_of_ble_eq_true rfl) dX4_counted_2 (fun q1 => ?_)
  refine k_dup C rfl dX4_counted_4 ?_
  refine k_iconst C 0 (by decide) dX4_counted_5 ?_
  refine k_aload_n C dX4_counted_6 0 rfl ?_
  refine k_getX4 C 0 0 rfl (by decide) rfl q423 rfl dX4_counted_7 ?_
  refine k_iast C [(z0, cZ (.ref z4) z1 X.2.2), (z1, cQ cJ z2 z3), (z2, cA4 cI X.1), (z3, cA4 cI X.2.1), (z4, cL b), (q1, cA9 cI (X.2.2.1, 0, 0, 0, 0, 0, 0, 0, 0))] 5 rfl vi9_0 (ar9 (X.2.2.1, 0, 0, 0, 0, 0, 0, 0, 0)) (ar9_s0 _ _) rfl dX4_counted_10 ?_
  refine k_dup C rfl dX4_counted_11 ?_
  refine k_iconst C 1 (by decide) dX4_counted_12 ?_
  refine k_aload_n C dX4_counted_13 0 rfl ?_
  refine k_getX4 C 0 1 rfl (by decide) rfl q424 rfl dX4_counted_14 ?_
  refine k_iast C [(z0, cZ (.ref z4) z1 X.2.2), (z1, cQ cJ z2 z3), (z2, cA4 cI X.1), (z3, cA4 cI X.2.1), (z4, cL b), (q1, cA9 cI (X.2.2.1, X.2.2.2.1, 0, 0, 0, 0, 0, 0, 0))] 5 rfl vi9_1 (ar9 (X.2.2.1, X.2.2.2.1, 0, 0, 0, 0, 0, 0, 0)) (ar9_s1 _ _) rfl dX4_counted_17 ?_
  refine k_dup C rfl dX4_counted_18 ?_
  refine k_iconst C 2 (by decide) dX4_counted_19 ?_
  refine k_aload_n C dX4_counted_20 0 rfl ?_
  refine k_getX4 C 0 3 rfl (by decide) rfl q426 rfl dX4_counted_21 ?_
  refine k_ifnonnull C 31 (by decide) dX4_counted_24 ?_
  refine k_aload_n C dX4_counted_31 0 rfl ?_
  refine k_getX4 C 0 2 rfl (by decide) rfl q425 rfl dX4_counted_32 ?_
  refine k_iast C [(z0, cZ (.ref z4) z1 X.2.2), (z1, cQ cJ z2 z3), (z2, cA4 cI X.1), (z3, cA4 cI X.2.1), (z4, cL b), (q1, cA9 cI (X.2.2.1, X.2.2.2.1, X.2.2.2.2.1, 0, 0, 0, 0, 0, 0))] 5 rfl vi9_2 (ar9 (X.2.2.1, X.2.2.2.1, X.2.2.2.2.1, 0, 0, 0, 0, 0, 0)) (ar9_s2 _ _) rfl dX4_counted_35 ?_
  refine k_dup C rfl dX4_counted_36 ?_
  refine k_iconst C 3 (by decide) dX4_counted_37 ?_
  refine k_aload_n C dX4_counted_38 0 rfl ?_
  refine k_getX4 C 0 5 rfl (by decide) rfl q430 rfl dX4_counted_39 ?_
  refine k_iast C [(z0, cZ (.ref z4) z1 X.2.2), (z1, cQ cJ z2 z3), (z2, cA4 cI X.1), (z3, cA4 cI X.2.1), (z4, cL b), (q1, cA9 cI (X.2.2.1, X.2.2.2.1, X.2.2.2.2.1, X.2.2.2.2.2.1, 0, 0, 0, 0, 0))] 5 rfl vi9_3 (ar9 (X.2.2.1, X.2.2.2.1, X.2.2.2.2.1, X.2.2.2.2.2.1, 0, 0, 0, 0, 0)) (ar9_s3 _ _) rfl dX4_counted_42 ?_
  refine k_dup C rfl dX4_counted_43 ?_
  refine k_iconst C 4 (by decide) dX4_counted_44 ?_
  refine k_aload_n C dX4_counted_45 0 rfl ?_
  refine k_getX4 C 0 6 rfl (by decide) rfl q431 rfl dX4_counted_46 ?_
  refine k_iast C [(z0, cZ (.ref z4) z1 X.2.2), (z1, cQ cJ z2 z3), (z2, cA4 cI X.1), (z3, cA4 cI X.2.1), (z4, cL b), (q1, cA9 cI (X.2.2.1, X.2.2.2.1, X.2.2.2.2.1, X.2.2.2.2.2.1, X.2.2.2.2.2.2.1, 0, 0, 0, 0))] 5 rfl vi9_4 (ar9 (X.2.2.1, X.2.2.2.1, X.2.2.2.2.1, X.2.2.2.2.2.1, X.2.2.2.2.2.2.1, 0, 0, 0, 0)) (ar9_s4 _ _) rfl dX4_counted_49 ?_
  refine k_dup C rfl dX4_counted_50 ?_
  refine k_iconst C 5 (by decide) dX4_counted_51 ?_
  refine k_aload_n C dX4_counted_52 0 rfl ?_
  refine k_getX4 C 0 8 rfl (by decide) rfl q433 rfl dX4_counted_53 ?_
  refine k_iast C [(z0, cZ (.ref z4) z1 X.2.2), (z1, cQ cJ z2 z3), (z2, cA4 cI X.1), (z3, cA4 cI X.2.1), (z4, cL b), (q1, cA9 cI (X.2.2.1, X.2.2.2.1, X.2.2.2.2.1, X.2.2.2.2.2.1, X.2.2.2.2.2.2.1, X.2.2.2.2.2.2.2.2.1, 0, 0, 0))] 5 rfl vi9_5 (ar9 (X.2.2.1, X.2.2.2.1, X.2.2.2.2.1, X.2.2.2.2.2.1, X.2.2.2.2.2.2.1, X.2.2.2.2.2.2.2.2.1, 0, 0, 0)) (ar9_s5 _ _) rfl dX4_counted_56 ?_
  refine k_dup C rfl dX4_counted_57 ?_
  refine k_bipush C 6 (by decide) dX4_counted_58 ?_
  refine k_aload_n C dX4_counted_60 0 rfl ?_
  refine k_callV_i C (mX4_canSet_r l D cI cJ z0 z1 z2 z3 z4 X b) (cwV 0 C.2.2.2.2.1 (kGV q475 q476 q477 q38 q478) rfl rfl rfl ⟨rfl, hdX4_canSet⟩ ⟨Nat.le_of_ble_eq_true rfl, Nat.le_of_ble_eq_true rfl⟩) [0, 1, 2, 3, 4] [5] [1, 2, 3, 4, 5, 0] [(q1, cA9 cI (X.2.2.1, X.2.2.2.1, X.2.2.2.2.1, X.2.2.2.2.2.1, X.2.2.2.2.2.2.1, X.2.2.2.2.2.2.2.2.1, 0, 0, 0))] ([(z0, cZ (.ref z4) z1 X.2.2), (z1, cQ cJ z2 z3), (z2, cA4 cI X.1), (z3, cA4 cI X.2.1), (z4, cL b), (q1, cA9 cI (X.2.2.1, X.2.2.2.1, X.2.2.2.2.1, X.2.2.2.2.2.1, X.2.2.2.2.2.2.1, X.2.2.2.2.2.2.2.2.1, 0, 0, 0))]) rfl rfl rfl rfl (by decide) [z0, z1, z2, z3, z4] rfl rfl rfl rfl 0 4 rfl rfl rfl (Nat.le_of_ble_eq_true rfl) ⟨Nat.le_of_ble_eq_true rfl, Nat.le_of_ble_eq_true rfl⟩ rfl dX4_counted_61 ?_
  generalize er2 : fX4_canSet_r X b = r2
  refine k_if_eq C 71 (by decide) dX4_counted_64 (fun c3 => ?_) (fun c3 => ?_)
  ·
    refine k_iconst C 0 (by decide) dX4_counted_71 ?_
    refine k_iast C [(z0, cZ (.ref z4) z1 X.2.2), (z1, cQ cJ z2 z3), (z2, cA4 cI X.1), (z3, cA4 cI X.2.1), (z4, cL b), (q1, cA9 cI (X.2.2.1, X.2.2.2.1, X.2.2.2.2.1, X.2.2.2.2.2.1, X.2.2.2.2.2.2.1, X.2.2.2.2.2.2.2.2.1, 0, 0, 0))] 5 rfl vi9_6 (ar9 (X.2.2.1, X.2.2.2.1, X.2.2.2.2.1, X.2.2.2.2.2.1, X.2.2.2.2.2.2.1, X.2.2.2.2.2.2.2.2.1, 0, 0, 0)) (ar9_s6 _ _) rfl dX4_counted_72 ?_
    refine k_dup C rfl dX4_counted_73 ?_
    refine k_bipush C 7 (by decide) dX4_counted_74 ?_
    refine k_aload_n C dX4_counted_76 0 rfl ?_
    refine k_callV_i C (mX4_winner l D cI cJ z0 z1 z2 z3 (.ref z4) X) (cwV 0 C.2.2.2.2.1 (kGV q479 q463 q464 q38 q465) rfl rfl rfl ⟨rfl, hdX4_winner⟩ ⟨Nat.le_of_ble_eq_true rfl, Nat.le_of_ble_eq_true rfl⟩) [0, 1, 2, 3] [4, 5] [2, 3, 4, 5, 0, 1] [(z4, cL b), (q1, cA9 cI (X.2.2.1, X.2.2.2.1, X.2.2.2.2.1, X.2.2.2.2.2.1, X.2.2.2.2.2.2.1, X.2.2.2.2.2.2.2.2.1, 0, 0, 0))] ([(z0, cZ (.ref z4) z1 X.2.2), (z1, cQ cJ z2 z3), (z2, cA4 cI X.1), (z3, cA4 cI X.2.1), (z4, cL b), (q1, cA9 cI (X.2.2.1, X.2.2.2.1, X.2.2.2.2.1, X.2.2.2.2.2.1, X.2.2.2.2.2.2.1, X.2.2.2.2.2.2.2.2.1, 0, 0, 0))]) rfl rfl rfl rfl (by decide) [z0, z1, z2, z3] rfl rfl rfl rfl 0 4 rfl rfl rfl (Nat.le_of_ble_eq_true rfl) ⟨Nat.le_of_ble_eq_true rfl, Nat.le_of_ble_eq_true rfl⟩ rfl dX4_counted_77 ?_
    generalize er4 : fX4_winner X = r4
    refine k_iast C [(z0, cZ (.ref z4) z1 X.2.2), (z1, cQ cJ z2 z3), (z2, cA4 cI X.1), (z3, cA4 cI X.2.1), (z4, cL b), (q1, cA9 cI (X.2.2.1, X.2.2.2.1, X.2.2.2.2.1, X.2.2.2.2.2.1, X.2.2.2.2.2.2.1, X.2.2.2.2.2.2.2.2.1, 0, r4, 0))] 5 rfl vi9_7 (ar9 (X.2.2.1, X.2.2.2.1, X.2.2.2.2.1, X.2.2.2.2.2.1, X.2.2.2.2.2.2.1, X.2.2.2.2.2.2.2.2.1, 0, r4, 0)) (ar9_s7 _ _) rfl dX4_counted_80 ?_
    refine k_dup C rfl dX4_counted_81 ?_
    refine k_bipush C 8 (by decide) dX4_counted_82 ?_
    refine k_aload_n C dX4_counted_84 0 rfl ?_
    refine k_getX4 C 0 7 rfl (by decide) rfl q432 rfl dX4_counted_85 ?_
    refine k_iast C [(z0, cZ (.ref z4) z1 X.2.2), (z1, cQ cJ z2 z3), (z2, cA4 cI X.1), (z3, cA4 cI X.2.1), (z4, cL b), (q1, cA9 cI (X.2.2.1, X.2.2.2.1, X.2.2.2.2.1, X.2.2.2.2.2.1, X.2.2.2.2.2.2.1, X.2.2.2.2.2.2.2.2.1, 0, r4, X.2.2.2.2.2.2.2.1))] 5 rfl vi9_8 (ar9 (X.2.2.1, X.2.2.2.1, X.2.2.2.2.1, X.2.2.2.2.2.1, X.2.2.2.2.2.2.1, X.2.2.2.2.2.2.2.2.1, 0, r4, X.2.2.2.2.2.2.2.1)) (ar9_s8 _ _) rfl dX4_counted_88 ?_
    refine k_astore_n C [(2, .ref q1), (0, .ref z0), (1, .int 1)] (by decide) rfl dX4_counted_89 ?_
    refine k_aload_n C dX4_counted_90 0 rfl ?_
    refine k_iload_n C dX4_counted_91 2 rfl ?_
    refine k_iald C 5 rfl vi9_1 (ar9_l1 _) dX4_counted_92 ?_
    have hL : fX4_counted_r1 X b = X.2.2.2.1 := by subst er4; subst er2; exact (if_pos c3).trans rfl
    refine k_widen (k' := 1) (n' := 9) (Nat.le_of_ble_eq_true rfl) (Nat.le_of_ble_eq_true rfl) ?_
    refine k_wsub (w' := [(z0, cZ (.ref z4) z1 X.2.2), (z1, cQ cJ z2 z3), (z2, cA4 cI X.1), (z3, cA4 cI X.2.1), (z4, cL b)]) [0, 1, 2, 3, 4] rfl rfl ?_
    exact k_iretG C rfl (by rw [hL]; exact ⟨rfl, rfl⟩) dX4_counted_93
  ·
    refine k_iconst C 1 (by decide) dX4_counted_67 ?_
    refine k_goto C 72 (by decide) dX4_counted_68 ?_
    refine k_iast C [(z0, cZ (.ref z4) z1 X.2.2), (z1, cQ cJ z2 z3), (z2, cA4 cI X.1), (z3, cA4 cI X.2.1), (z4, cL b), (q1, cA9 cI (X.2.2.1, X.2.2.2.1, X.2.2.2.2.1, X.2.2.2.2.2.1, X.2.2.2.2.2.2.1, X.2.2.2.2.2.2.2.2.1, 1, 0, 0))] 5 rfl vi9_6 (ar9 (X.2.2.1, X.2.2.2.1, X.2.2.2.2.1, X.2.2.2.2.2.1, X.2.2.2.2.2.2.1, X.2.2.2.2.2.2.2.2.1, 1, 0, 0)) (ar9_s6 _ _) rfl dX4_counted_72 ?_
    refine k_dup C rfl dX4_counted_73 ?_
    refine k_bipush C 7 (by decide) dX4_counted_74 ?_
    refine k_aload_n C dX4_counted_76 0 rfl ?_
    refine k_callV_i C (mX4_winner l D cI cJ z0 z1 z2 z3 (.ref z4) X) (cwV 0 C.2.2.2.2.1 (kGV q479 q463 q464 q38 q465) rfl rfl rfl ⟨rfl, hdX4_winner⟩ ⟨Nat.le_of_ble_eq_true rfl, Nat.le_of_ble_eq_true rfl⟩) [0, 1, 2, 3] [4, 5] [2, 3, 4, 5, 0, 1] [(z4, cL b), (q1, cA9 cI (X.2.2.1, X.2.2.2.1, X.2.2.2.2.1, X.2.2.2.2.2.1, X.2.2.2.2.2.2.1, X.2.2.2.2.2.2.2.2.1, 1, 0, 0))] ([(z0, cZ (.ref z4) z1 X.2.2), (z1, cQ cJ z2 z3), (z2, cA4 cI X.1), (z3, cA4 cI X.2.1), (z4, cL b), (q1, cA9 cI (X.2.2.1, X.2.2.2.1, X.2.2.2.2.1, X.2.2.2.2.2.1, X.2.2.2.2.2.2.1, X.2.2.2.2.2.2.2.2.1, 1, 0, 0))]) rfl rfl rfl rfl (by decide) [z0, z1, z2, z3] rfl rfl rfl rfl 0 4 rfl rfl rfl (Nat.le_of_ble_eq_true rfl) ⟨Nat.le_of_ble_eq_true rfl, Nat.le_of_ble_eq_true rfl⟩ rfl dX4_counted_77 ?_
    generalize er5 : fX4_winner X = r5
    refine k_iast C [(z0, cZ (.ref z4) z1 X.2.2), (z1, cQ cJ z2 z3), (z2, cA4 cI X.1), (z3, cA4 cI X.2.1), (z4, cL b), (q1, cA9 cI (X.2.2.1, X.2.2.2.1, X.2.2.2.2.1, X.2.2.2.2.2.1, X.2.2.2.2.2.2.1, X.2.2.2.2.2.2.2.2.1, 1, r5, 0))] 5 rfl vi9_7 (ar9 (X.2.2.1, X.2.2.2.1, X.2.2.2.2.1, X.2.2.2.2.2.1, X.2.2.2.2.2.2.1, X.2.2.2.2.2.2.2.2.1, 1, r5, 0)) (ar9_s7 _ _) rfl dX4_counted_80 ?_
    refine k_dup C rfl dX4_counted_81 ?_
    refine k_bipush C 8 (by decide) dX4_counted_82 ?_
    refine k_aload_n C dX4_counted_84 0 rfl ?_
    refine k_getX4 C 0 7 rfl (by decide) rfl q432 rfl dX4_counted_85 ?_
    refine k_iast C [(z0, cZ (.ref z4) z1 X.2.2), (z1, cQ cJ z2 z3), (z2, cA4 cI X.1), (z3, cA4 cI X.2.1), (z4, cL b), (q1, cA9 cI (X.2.2.1, X.2.2.2.1, X.2.2.2.2.1, X.2.2.2.2.2.1, X.2.2.2.2.2.2.1, X.2.2.2.2.2.2.2.2.1, 1, r5, X.2.2.2.2.2.2.2.1))] 5 rfl vi9_8 (ar9 (X.2.2.1, X.2.2.2.1, X.2.2.2.2.1, X.2.2.2.2.2.1, X.2.2.2.2.2.2.1, X.2.2.2.2.2.2.2.2.1, 1, r5, X.2.2.2.2.2.2.2.1)) (ar9_s8 _ _) rfl dX4_counted_88 ?_
    refine k_astore_n C [(2, .ref q1), (0, .ref z0), (1, .int 1)] (by decide) rfl dX4_counted_89 ?_
    refine k_aload_n C dX4_counted_90 0 rfl ?_
    refine k_iload_n C dX4_counted_91 2 rfl ?_
    refine k_iald C 5 rfl vi9_1 (ar9_l1 _) dX4_counted_92 ?_
    have hL : fX4_counted_r1 X b = X.2.2.2.1 := by subst er5; subst er2; exact (if_neg c3).trans rfl
    refine k_widen (k' := 1) (n' := 9) (Nat.le_of_ble_eq_true rfl) (Nat.le_of_ble_eq_true rfl) ?_
    refine k_wsub (w' := [(z0, cZ (.ref z4) z1 X.2.2), (z1, cQ cJ z2 z3), (z2, cA4 cI X.1), (z3, cA4 cI X.2.1), (z4, cL b)]) [0, 1, 2, 3, 4] rfl rfl ?_
    exact k_iretG C rfl (by rw [hL]; exact ⟨rfl, rfl⟩) dX4_counted_93

noncomputable def fX4_counted_n2 (X : Zs) : Int32 :=
  if (fX4_canSet_n X) = 0 then 0
  else 0
set_option maxHeartbeats 4000000 in
set_option maxRecDepth 100000 in
theorem mX4_counted_n2 (l : Launch) (D : va_G) (cI cJ : ClassId) (z0 z1 z2 z3 : Nat) (X : Zs) : kGi l D cI cJ yX4_counted (.code yX4_counted cX4_counted 3 (some .int)) { frames := 1, cells := 1, slots := 9, locals := 20 } [.ref z0, .int 2] [(z0, cZ .null z1 X.2.2), (z1, cQ cJ z2 z3), (z2, cA4 cI X.1), (z3, cA4 cI X.2.1)] 1 9 (fun r U => r = fX4_counted_n2 X ∧ U = [(z0, cZ .null z1 X.2.2), (z1, cQ cJ z2 z3), (z2, cA4 cI X.1), (z3, cA4 cI X.2.1)]) := by
  refine fun sz => k_ofN (lv := [(0, .ref z0), (1, .int 2)]) (by decide) sz (Nat.le_of_ble_eq_true rfl) rfl ?_
  intro p e s m args below meth c hsz hnm C
  refine k_bipush C 9 (by decide) dX4_counted_0 ?_
  refine k_newI C 9 (ar9 (0, 0, 0, 0, 0, 0, 0, 0, 0)) zf9 (by decide) (by decide) (by decide) (Nat.le_of_ble_eq_true rfl) (Nat.le_of_ble_eq_true rfl) dX4_counted_2 (fun q1 => ?_)
  refine k_dup C rfl dX4_counted_4 ?_
  refine k_iconst C 0 (by decide) dX4_counted_5 ?_
  refine k_aload_n C dX4_counted_6 0 rfl ?_
  refine k_getX4 C 0 0 rfl (by decide) rfl q423 rfl dX4_counted_7 ?_
  refine k_iast C [(z0, cZ .null z1 X.2.2), (z1, cQ cJ z2 z3), (z2, cA4 cI X.1), (z3, cA4 cI X.2.1), (q1, cA9 cI (X.2.2.1, 0, 0, 0, 0, 0, 0, 0, 0))] 4 rfl vi9_0 (ar9 (X.2.2.1, 0, 0, 0, 0, 0, 0, 0, 0)) (ar9_s0 _ _) rfl dX4_counted_10 ?_
  refine k_dup C rfl dX4_counted_11 ?_
  refine k_iconst C 1 (by decide) dX4_counted_12 ?_
  refine k_aload_n C dX4_counted_13 0 rfl ?_
  refine k_getX4 C 0 1 rfl (by decide) rfl q424 rfl dX4_counted_14 ?_
  refine k_iast C [(z0, cZ .null z1 X.2.2), (z1, cQ cJ z2 z3), (z2, cA4 cI X.1), (z3, cA4 cI X.2.1), (q1, cA9 cI (X.2.2.1, X.2.2.2.1, 0, 0, 0, 0, 0, 0, 0))] 4 rfl vi9_1 (ar9 (X.2.2.1, X.2.2.2.1, 0, 0, 0, 0, 0, 0, 0)) (ar9_s1 _ _) rfl dX4_counted_17 ?_
  refine k_dup C rfl dX4_counted_18 ?_
  refine k_iconst C 2 (by decide) dX4_counted_19 ?_
  refine k_aload_n C dX4_counted_20 0 rfl ?_
  refine k_getX4 C 0 3 rfl (by decide) rfl q426 rfl dX4_counted_21 ?_
  refine k_ifnonnullN C dX4_counted_24 ?_
  refine k_iconst C 0 (by decide) dX4_counted_27 ?_
  refine k_goto C 35 (by decide) dX4_counted_28 ?_
  refine k_iast C [(z0, cZ .null z1 X.2.2), (z1, cQ cJ z2 z3), (z2, cA4 cI X.1), (z3, cA4 cI X.2.1), (q1, cA9 cI (X.2.2.1, X.2.2.2.1, 0, 0, 0, 0, 0, 0, 0))] 4 rfl vi9_2 (ar9 (X.2.2.1, X.2.2.2.1, 0, 0, 0, 0, 0, 0, 0)) (ar9_s2 _ _) rfl dX4_counted_35 ?_
  refine k_dup C rfl dX4_counted_36 ?_
  refine k_iconst C 3 (by decide) dX4_counted_37 ?_
  refine k_aload_n C dX4_counted_38 0 rfl ?_
  refine k_getX4 C 0 5 rfl (by decide) rfl q430 rfl dX4_counted_39 ?_
  refine k_iast C [(z0, cZ .null z1 X.2.2), (z1, cQ cJ z2 z3), (z2, cA4 cI X.1), (z3, cA4 cI X.2.1), (q1, cA9 cI (X.2.2.1, X.2.2.2.1, 0, X.2.2.2.2.2.1, 0, 0, 0, 0, 0))] 4 rfl vi9_3 (ar9 (X.2.2.1, X.2.2.2.1, 0, X.2.2.2.2.2.1, 0, 0, 0, 0, 0)) (ar9_s3 _ _) rfl dX4_counted_42 ?_
  refine k_dup C rfl dX4_counted_43 ?_
  refine k_iconst C 4 (by decide) dX4_counted_44 ?_
  refine k_aload_n C dX4_counted_45 0 rfl ?_
  refine k_getX4 C 0 6 rfl (by decide) rfl q431 rfl dX4_counted_46 ?_
  refine k_iast C [(z0, cZ .null z1 X.2.2), (z1, cQ cJ z2 z3), (z2, cA4 cI X.1), (z3, cA4 cI X.2.1), (q1, cA9 cI (X.2.2.1, X.2.2.2.1, 0, X.2.2.2.2.2.1, X.2.2.2.2.2.2.1, 0, 0, 0, 0))] 4 rfl vi9_4 (ar9 (X.2.2.1, X.2.2.2.1, 0, X.2.2.2.2.2.1, X.2.2.2.2.2.2.1, 0, 0, 0, 0)) (ar9_s4 _ _) rfl dX4_counted_49 ?_
  refine k_dup C rfl dX4_counted_50 ?_
  refine k_iconst C 5 (by decide) dX4_counted_51 ?_
  refine k_aload_n C dX4_counted_52 0 rfl ?_
  refine k_getX4 C 0 8 rfl (by decide) rfl q433 rfl dX4_counted_53 ?_
  refine k_iast C [(z0, cZ .null z1 X.2.2), (z1, cQ cJ z2 z3), (z2, cA4 cI X.1), (z3, cA4 cI X.2.1), (q1, cA9 cI (X.2.2.1, X.2.2.2.1, 0, X.2.2.2.2.2.1, X.2.2.2.2.2.2.1, X.2.2.2.2.2.2.2.2.1, 0, 0, 0))] 4 rfl vi9_5 (ar9 (X.2.2.1, X.2.2.2.1, 0, X.2.2.2.2.2.1, X.2.2.2.2.2.2.1, X.2.2.2.2.2.2.2.2.1, 0, 0, 0)) (ar9_s5 _ _) rfl dX4_counted_56 ?_
  refine k_dup C rfl dX4_counted_57 ?_
  refine k_bipush C 6 (by decide) dX4_counted_58 ?_
  refine k_aload_n C dX4_counted_60 0 rfl ?_
  refine k_callV_i C (mX4_canSet_n l D cI cJ z0 z1 z2 z3 X) (cwV 0 C.2.2.2.2.1 (kGV q475 q476 q477 q38 q478) rfl rfl rfl ⟨rfl, hdX4_canSet⟩ ⟨Nat.le_of_ble_eq_true rfl, Nat.le_of_ble_eq_true rfl⟩) [0, 1, 2, 3] [4] [1, 2, 3, 4, 0] [(q1, cA9 cI (X.2.2.1, X.2.2.2.1, 0, X.2.2.2.2.2.1, X.2.2.2.2.2.2.1, X.2.2.2.2.2.2.2.2.1, 0, 0, 0))] ([(z0, cZ .null z1 X.2.2), (z1, cQ cJ z2 z3), (z2, cA4 cI X.1), (z3, cA4 cI X.2.1), (q1, cA9 cI (X.2.2.1, X.2.2.2.1, 0, X.2.2.2.2.2.1, X.2.2.2.2.2.2.1, X.2.2.2.2.2.2.2.2.1, 0, 0, 0))]) rfl rfl rfl rfl (by decide) [z0, z1, z2, z3] rfl rfl rfl rfl 0 4 rfl rfl rfl (Nat.le_of_ble_eq_true rfl) ⟨Nat.le_of_ble_eq_true rfl, Nat.le_of_ble_eq_true rfl⟩ rfl dX4_counted_61 ?_
  generalize er2 : fX4_canSet_n X = r2
  refine k_if_eq C 71 (by decide) dX4_counted_64 (fun c3 => ?_) (fun c3 => ?_)
  ·
    refine k_iconst C 0 (by decide) dX4_counted_71 ?_
    refine k_iast C [(z0, cZ .null z1 X.2.2), (z1, cQ cJ z2 z3), (z2, cA4 cI X.1), (z3, cA4 cI X.2.1), (q1, cA9 cI (X.2.2.1, X.2.2.2.1, 0, X.2.2.2.2.2.1, X.2.2.2.2.2.2.1, X.2.2.2.2.2.2.2.2.1, 0, 0, 0))] 4 rfl vi9_6 (ar9 (X.2.2.1, X.2.2.2.1, 0, X.2.2.2.2.2.1, X.2.2.2.2.2.2.1, X.2.2.2.2.2.2.2.2.1, 0, 0, 0)) (ar9_s6 _ _) rfl dX4_counted_72 ?_
    refine k_dup C rfl dX4_counted_73 ?_
    refine k_bipush C 7 (by decide) dX4_counted_74 ?_
    refine k_aload_n C dX4_counted_76 0 rfl ?_
    refine k_callV_i C (mX4_winner l D cI cJ z0 z1 z2 z3 .null X) (cwV 0 C.2.2.2.2.1 (kGV q479 q463 q464 q38 q465) rfl rfl rfl ⟨rfl, hdX4_winner⟩ ⟨Nat.le_of_ble_eq_true rfl, Nat.le_of_ble_eq_true rfl⟩) [0, 1, 2, 3] [4] [1, 2, 3, 4, 0] [(q1, cA9 cI (X.2.2.1, X.2.2.2.1, 0, X.2.2.2.2.2.1, X.2.2.2.2.2.2.1, X.2.2.2.2.2.2.2.2.1, 0, 0, 0))] ([(z0, cZ .null z1 X.2.2), (z1, cQ cJ z2 z3), (z2, cA4 cI X.1), (z3, cA4 cI X.2.1), (q1, cA9 cI (X.2.2.1, X.2.2.2.1, 0, X.2.2.2.2.2.1, X.2.2.2.2.2.2.1, X.2.2.2.2.2.2.2.2.1, 0, 0, 0))]) rfl rfl rfl rfl (by decide) [z0, z1, z2, z3] rfl rfl rfl rfl 0 4 rfl rfl rfl (Nat.le_of_ble_eq_true rfl) ⟨Nat.le_of_ble_eq_true rfl, Nat.le_of_ble_eq_true rfl⟩ rfl dX4_counted_77 ?_
    generalize er4 : fX4_winner X = r4
    refine k_iast C [(z0, cZ .null z1 X.2.2), (z1, cQ cJ z2 z3), (z2, cA4 cI X.1), (z3, cA4 cI X.2.1), (q1, cA9 cI (X.2.2.1, X.2.2.2.1, 0, X.2.2.2.2.2.1, X.2.2.2.2.2.2.1, X.2.2.2.2.2.2.2.2.1, 0, r4, 0))] 4 rfl vi9_7 (ar9 (X.2.2.1, X.2.2.2.1, 0, X.2.2.2.2.2.1, X.2.2.2.2.2.2.1, X.2.2.2.2.2.2.2.2.1, 0, r4, 0)) (ar9_s7 _ _) rfl dX4_counted_80 ?_
    refine k_dup C rfl dX4_counted_81 ?_
    refine k_bipush C 8 (by decide) dX4_counted_82 ?_
    refine k_aload_n C dX4_counted_84 0 rfl ?_
    refine k_getX4 C 0 7 rfl (by decide) rfl q432 rfl dX4_counted_85 ?_
    refine k_iast C [(z0, cZ .null z1 X.2.2), (z1, cQ cJ z2 z3), (z2, cA4 cI X.1), (z3, cA4 cI X.2.1), (q1, cA9 cI (X.2.2.1, X.2.2.2.1, 0, X.2.2.2.2.2.1, X.2.2.2.2.2.2.1, X.2.2.2.2.2.2.2.2.1, 0, r4, X.2.2.2.2.2.2.2.1))] 4 rfl vi9_8 (ar9 (X.2.2.1, X.2.2.2.1, 0, X.2.2.2.2.2.1, X.2.2.2.2.2.2.1, X.2.2.2.2.2.2.2.2.1, 0, r4, X.2.2.2.2.2.2.2.1)) (ar9_s8 _ _) rfl dX4_counted_88 ?_
    refine k_astore_n C [(2, .ref q1), (0, .ref z0), (1, .int 2)] (by decide) rfl dX4_counted_89 ?_
    refine k_aload_n C dX4_counted_90 0 rfl ?_
    refine k_iload_n C dX4_counted_91 2 rfl ?_
    refine k_iald C 4 rfl vi9_2 (ar9_l2 _) dX4_counted_92 ?_
    have hL : fX4_counted_n2 X = 0 := by subst er4; subst er2; exact (if_pos c3).trans rfl
    refine k_widen (k' := 1) (n' := 9) (Nat.le_of_ble_eq_true rfl) (Nat.le_of_ble_eq_true rfl) ?_
    refine k_wsub (w' := [(z0, cZ .null z1 X.2.2), (z1, cQ cJ z2 z3), (z2, cA4 cI X.1), (z3, cA4 cI X.2.1)]) [0, 1, 2, 3] rfl rfl ?_
    exact k_iretG C rfl (by rw [hL]; exact ⟨rfl, rfl⟩) dX4_counted_93
  ·
    refine k_iconst C 1 (by decide) dX4_counted_67 ?_
    refine k_goto C 72 (by decide) dX4_counted_68 ?_
    refine k_iast C [(z0, cZ .null z1 X.2.2), (z1, cQ cJ z2 z3), (z2, cA4 cI X.1), (z3, cA4 cI X.2.1), (q1, cA9 cI (X.2.2.1, X.2.2.2.1, 0, X.2.2.2.2.2.1, X.2.2.2.2.2.2.1, X.2.2.2.2.2.2.2.2.1, 1, 0, 0))] 4 rfl vi9_6 (ar9 (X.2.2.1, X.2.2.2.1, 0, X.2.2.2.2.2.1, X.2.2.2.2.2.2.1, X.2.2.2.2.2.2.2.2.1, 1, 0, 0)) (ar9_s6 _ _) rfl dX4_counted_72 ?_
    refine k_dup C rfl dX4_counted_73 ?_
    refine k_bipush C 7 (by decide) dX4_counted_74 ?_
    refine k_aload_n C dX4_counted_76 0 rfl ?_
    refine k_callV_i C (mX4_winner l D cI cJ z0 z1 z2 z3 .null X) (cwV 0 C.2.2.2.2.1 (kGV q479 q463 q464 q38 q465) rfl rfl rfl ⟨rfl, hdX4_winner⟩ ⟨Nat.le_of_ble_eq_true rfl, Nat.le_of_ble_eq_true rfl⟩) [0, 1, 2, 3] [4] [1, 2, 3, 4, 0] [(q1, cA9 cI (X.2.2.1, X.2.2.2.1, 0, X.2.2.2.2.2.1, X.2.2.2.2.2.2.1, X.2.2.2.2.2.2.2.2.1, 1, 0, 0))] ([(z0, cZ .null z1 X.2.2), (z1, cQ cJ z2 z3), (z2, cA4 cI X.1), (z3, cA4 cI X.2.1), (q1, cA9 cI (X.2.2.1, X.2.2.2.1, 0, X.2.2.2.2.2.1, X.2.2.2.2.2.2.1, X.2.2.2.2.2.2.2.2.1, 1, 0, 0))]) rfl rfl rfl rfl (by decide) [z0, z1, z2, z3] rfl rfl rfl rfl 0 4 rfl rfl rfl (Nat.le_of_ble_eq_true rfl) ⟨Nat.le_of_ble_eq_true rfl, Nat.le_of_ble_eq_true rfl⟩ rfl dX4_counted_77 ?_
    generalize er5 : fX4_winner X = r5
    refine k_iast C [(z0, cZ .null z1 X.2.2), (z1, cQ cJ z2 z3), (z2, cA4 cI X.1), (z3, cA4 cI X.2.1), (q1, cA9 cI (X.2.2.1, X.2.2.2.1, 0, X.2.2.2.2.2.1, X.2.2.2.2.2.2.1, X.2.2.2.2.2.2.2.2.1, 1, r5, 0))] 4 rfl vi9_7 (ar9 (X.2.2.1, X.2.2.2.1, 0, X.2.2.2.2.2.1, X.2.2.2.2.2.2.1, X.2.2.2.2.2.2.2.2.1, 1, r5, 0)) (ar9_s7 _ _) rfl dX4_counted_80 ?_
    refine k_dup C rfl dX4_counted_81 ?_
    refine k_bipush C 8 (by decide) dX4_counted_82 ?_
    refine k_aload_n C dX4_counted_84 0 rfl ?_
    refine k_getX4 C 0 7 rfl (by decide) rfl q432 rfl dX4_counted_85 ?_
    refine k_iast C [(z0, cZ .null z1 X.2.2), (z1, cQ cJ z2 z3), (z2, cA4 cI X.1), (z3, cA4 cI X.2.1), (q1, cA9 cI (X.2.2.1, X.2.2.2.1, 0, X.2.2.2.2.2.1, X.2.2.2.2.2.2.1, X.2.2.2.2.2.2.2.2.1, 1, r5, X.2.2.2.2.2.2.2.1))] 4 rfl vi9_8 (ar9 (X.2.2.1, X.2.2.2.1, 0, X.2.2.2.2.2.1, X.2.2.2.2.2.2.1, X.2.2.2.2.2.2.2.2.1, 1, r5, X.2.2.2.2.2.2.2.1)) (ar9_s8 _ _) rfl dX4_counted_88 ?_
    refine k_astore_n C [(2, .ref q1), (0, .ref z0), (1, .int 2)] (by decide) rfl dX4_counted_89 ?_
    refine k_aload_n C dX4_counted_90 0 rfl ?_
    refine k_iload_n C dX4_counted_91 2 rfl ?_
    refine k_iald C 4 rfl vi9_2 (ar9_l2 _) dX4_counted_92 ?_
    have hL : fX4_counted_n2 X = 0 := by subst er5; subst er2; exact (if_neg c3).trans rfl
    refine k_widen (k' := 1) (n' := 9) (Nat.le_of_ble_eq_true rfl) (Nat.le_of_ble_eq_true rfl) ?_
    refine k_wsub (w' := [(z0, cZ .null z1 X.2.2), (z1, cQ cJ z2 z3), (z2, cA4 cI X.1), (z3, cA4 cI X.2.1)]) [0, 1, 2, 3] rfl rfl ?_
    exact k_iretG C rfl (by rw [hL]; exact ⟨rfl, rfl⟩) dX4_counted_93

noncomputable def fX4_counted_r2 (X : Zs) (b : Lb) : Int32 :=
  if (fX4_canSet_r X b) = 0 then X.2.2.2.2.1
  else X.2.2.2.2.1
set_option maxHeartbeats 4000000 in
set_option maxRecDepth 100000 in
theorem mX4_counted_r2 (l : Launch) (D : va_G) (cI cJ : ClassId) (z0 z1 z2 z3 z4 : Nat) (X : Zs) (b : Lb) : kGi l D cI cJ yX4_counted (.code yX4_counted cX4_counted 3 (some .int)) { frames := 1, cells := 1, slots := 9, locals := 20 } [.ref z0, .int 2] [(z0, cZ (.ref z4) z1 X.2.2), (z1, cQ cJ z2 z3), (z2, cA4 cI X.1), (z3, cA4 cI X.2.1), (z4, cL b)] 1 9 (fun r U => r = fX4_counted_r2 X b ∧ U = [(z0, cZ (.ref z4) z1 X.2.2), (z1, cQ cJ z2 z3), (z2, cA4 cI X.1), (z3, cA4 cI X.2.1), (z4, cL b)]) := by
  refine fun sz => k_ofN (lv := [(0, .ref z0), (1, .int 2)]) (by decide) sz (Nat.le_of_ble_eq_true rfl) rfl ?_
  intro p e s m args below meth c hsz hnm C
  refine k_bipush C 9 (by decide) dX4_counted_0 ?_
  refine k_newI C 9 (ar9 (0, 0, 0, 0, 0, 0, 0, 0, 0)) zf9 (by decide) (by decide) (by decide) (Nat.le_of_ble_eq_true rfl) (Nat.le_of_ble_eq_true rfl) dX4_counted_2 (fun q1 => ?_)
  refine k_dup C rfl dX4_counted_4 ?_
  refine k_iconst C 0 (by decide) dX4_counted_5 ?_
  refine k_aload_n C dX4_counted_6 0 rfl ?_
  refine k_getX4 C 0 0 rfl (by decide) rfl q423 rfl dX4_counted_7 ?_
  refine k_iast C [(z0, cZ (.ref z4) z1 X.2.2), (z1, cQ cJ z2 z3), (z2, cA4 cI X.1), (z3, cA4 cI X.2.1), (z4, cL b), (q1, cA9 cI (X.2.2.1, 0, 0, 0, 0, 0, 0, 0, 0))] 5 rfl vi9_0 (ar9 (X.2.2.1, 0, 0, 0, 0, 0, 0, 0, 0)) (ar9_s0 _ _) rfl dX4_counted_10 ?_
  refine k_dup C rfl dX4_counted_11 ?_
  refine k_iconst C 1 (by decide) dX4_counted_12 ?_
  refine k_aload_n C dX4_counted_13 0 rfl ?_
  refine k_getX4 C 0 1 rfl (by decide) rfl q424 rfl dX4_counted_14 ?_
  refine k_iast C [(z0, cZ (.ref z4) z1 X.2.2), (z1, cQ cJ z2 z3), (z2, cA4 cI X.1), (z3, cA4 cI X.2.1), (z4, cL b), (q1, cA9 cI (X.2.2.1, X.2.2.2.1, 0, 0, 0, 0, 0, 0, 0))] 5 rfl vi9_1 (ar9 (X.2.2.1, X.2.2.2.1, 0, 0, 0, 0, 0, 0, 0)) (ar9_s1 _ _) rfl dX4_counted_17 ?_
  refine k_dup C rfl dX4_counted_18 ?_
  refine k_iconst C 2 (by decide) dX4_counted_19 ?_
  refine k_aload_n C dX4_counted_20 0 rfl ?_
  refine k_getX4 C 0 3 rfl (by decide) rfl q426 rfl dX4_counted_21 ?_
  refine k_ifnonnull C 31 (by decide) dX4_counted_24 ?_
  refine k_aload_n C dX4_counted_31 0 rfl ?_
  refine k_getX4 C 0 2 rfl (by decide) rfl q425 rfl dX4_counted_32 ?_
  refine k_iast C [(z0, cZ (.ref z4) z1 X.2.2), (z1, cQ cJ z2 z3), (z2, cA4 cI X.1), (z3, cA4 cI X.2.1), (z4, cL b), (q1, cA9 cI (X.2.2.1, X.2.2.2.1, X.2.2.2.2.1, 0, 0, 0, 0, 0, 0))] 5 rfl vi9_2 (ar9 (X.2.2.1, X.2.2.2.1, X.2.2.2.2.1, 0, 0, 0, 0, 0, 0)) (ar9_s2 _ _) rfl dX4_counted_35 ?_
  refine k_dup C rfl dX4_counted_36 ?_
  refine k_iconst C 3 (by decide) dX4_counted_37 ?_
  refine k_aload_n C dX4_counted_38 0 rfl ?_
  refine k_getX4 C 0 5 rfl (by decide) rfl q430 rfl dX4_counted_39 ?_
  refine k_iast C [(z0, cZ (.ref z4) z1 X.2.2), (z1, cQ cJ z2 z3), (z2, cA4 cI X.1), (z3, cA4 cI X.2.1), (z4, cL b), (q1, cA9 cI (X.2.2.1, X.2.2.2.1, X.2.2.2.2.1, X.2.2.2.2.2.1, 0, 0, 0, 0, 0))] 5 rfl vi9_3 (ar9 (X.2.2.1, X.2.2.2.1, X.2.2.2.2.1, X.2.2.2.2.2.1, 0, 0, 0, 0, 0)) (ar9_s3 _ _) rfl dX4_counted_42 ?_
  refine k_dup C rfl dX4_counted_43 ?_
  refine k_iconst C 4 (by decide) dX4_counted_44 ?_
  refine k_aload_n C dX4_counted_45 0 rfl ?_
  refine k_getX4 C 0 6 rfl (by decide) rfl q431 rfl dX4_counted_46 ?_
  refine k_iast C [(z0, cZ (.ref z4) z1 X.2.2), (z1, cQ cJ z2 z3), (z2, cA4 cI X.1), (z3, cA4 cI X.2.1), (z4, cL b), (q1, cA9 cI (X.2.2.1, X.2.2.2.1, X.2.2.2.2.1, X.2.2.2.2.2.1, X.2.2.2.2.2.2.1, 0, 0, 0, 0))] 5 rfl vi9_4 (ar9 (X.2.2.1, X.2.2.2.1, X.2.2.2.2.1, X.2.2.2.2.2.1, X.2.2.2.2.2.2.1, 0, 0, 0, 0)) (ar9_s4 _ _) rfl dX4_counted_49 ?_
  refine k_dup C rfl dX4_counted_50 ?_
  refine k_iconst C 5 (by decide) dX4_counted_51 ?_
  refine k_aload_n C dX4_counted_52 0 rfl ?_
  refine k_getX4 C 0 8 rfl (by decide) rfl q433 rfl dX4_counted_53 ?_
  refine k_iast C [(z0, cZ (.ref z4) z1 X.2.2), (z1, cQ cJ z2 z3), (z2, cA4 cI X.1), (z3, cA4 cI X.2.1), (z4, cL b), (q1, cA9 cI (X.2.2.1, X.2.2.2.1, X.2.2.2.2.1, X.2.2.2.2.2.1, X.2.2.2.2.2.2.1, X.2.2.2.2.2.2.2.2.1, 0, 0, 0))] 5 rfl vi9_5 (ar9 (X.2.2.1, X.2.2.2.1, X.2.2.2.2.1, X.2.2.2.2.2.1, X.2.2.2.2.2.2.1, X.2.2.2.2.2.2.2.2.1, 0, 0, 0)) (ar9_s5 _ _) rfl dX4_counted_56 ?_
  refine k_dup C rfl dX4_counted_57 ?_
  refine k_bipush C 6 (by decide) dX4_counted_58 ?_
  refine k_aload_n C dX4_counted_60 0 rfl ?_
  refine k_callV_i C (mX4_canSet_r l D cI cJ z0 z1 z2 z3 z4 X b) (cwV 0 C.2.2.2.2.1 (kGV q475 q476 q477 q38 q478) rfl rfl rfl ⟨rfl, hdX4_canSet⟩ ⟨Nat.le_of_ble_eq_true rfl, Nat.le_of_ble_eq_true rfl⟩) [0, 1, 2, 3, 4] [5] [1, 2, 3, 4, 5, 0] [(q1, cA9 cI (X.2.2.1, X.2.2.2.1, X.2.2.2.2.1, X.2.2.2.2.2.1, X.2.2.2.2.2.2.1, X.2.2.2.2.2.2.2.2.1, 0, 0, 0))] ([(z0, cZ (.ref z4) z1 X.2.2), (z1, cQ cJ z2 z3), (z2, cA4 cI X.1), (z3, cA4 cI X.2.1), (z4, cL b), (q1, cA9 cI (X.2.2.1, X.2.2.2.1, X.2.2.2.2.1, X.2.2.2.2.2.1, X.2.2.2.2.2.2.1, X.2.2.2.2.2.2.2.2.1, 0, 0, 0))]) rfl rfl rfl rfl (by decide) [z0, z1, z2, z3, z4] rfl rfl rfl rfl 0 4 rfl rfl rfl (Nat.le_of_ble_eq_true rfl) ⟨Nat.le_of_ble_eq_true rfl, Nat.le_of_ble_eq_true rfl⟩ rfl dX4_counted_61 ?_
  generalize er2 : fX4_canSet_r X b = r2
  refine k_if_eq C 71 (by decide) dX4_counted_64 (fun c3 => ?_) (fun c3 => ?_)
  ·
    refine k_iconst C 0 (by decide) dX4_counted_71 ?_
    refine k_iast C [(z0, cZ (.ref z4) z1 X.2.2), (z1, cQ cJ z2 z3), (z2, cA4 cI X.1), (z3, cA4 cI X.2.1), (z4, cL b), (q1, cA9 cI (X.2.2.1, X.2.2.2.1, X.2.2.2.2.1, X.2.2.2.2.2.1, X.2.2.2.2.2.2.1, X.2.2.2.2.2.2.2.2.1, 0, 0, 0))] 5 rfl vi9_6 (ar9 (X.2.2.1, X.2.2.2.1, X.2.2.2.2.1, X.2.2.2.2.2.1, X.2.2.2.2.2.2.1, X.2.2.2.2.2.2.2.2.1, 0, 0, 0)) (ar9_s6 _ _) rfl dX4_counted_72 ?_
    refine k_dup C rfl dX4_counted_73 ?_
    refine k_bipush C 7 (by decide) dX4_counted_74 ?_
    refine k_aload_n C dX4_counted_76 0 rfl ?_
    refine k_callV_i C (mX4_winner l D cI cJ z0 z1 z2 z3 (.ref z4) X) (cwV 0 C.2.2.2.2.1 (kGV q479 q463 q464 q38 q465) rfl rfl rfl ⟨rfl, hdX4_winner⟩ ⟨Nat.le_of_ble_eq_true rfl, Nat.le_of_ble_eq_true rfl⟩) [0, 1, 2, 3] [4, 5] [2, 3, 4, 5, 0, 1] [(z4, cL b), (q1, cA9 cI (X.2.2.1, X.2.2.2.1, X.2.2.2.2.1, X.2.2.2.2.2.1, X.2.2.2.2.2.2.1, X.2.2.2.2.2.2.2.2.1, 0, 0, 0))] ([(z0, cZ (.ref z4) z1 X.2.2), (z1, cQ cJ z2 z3), (z2, cA4 cI X.1), (z3, cA4 cI X.2.1), (z4, cL b), (q1, cA9 cI (X.2.2.1, X.2.2.2.1, X.2.2.2.2.1, X.2.2.2.2.2.1, X.2.2.2.2.2.2.1, X.2.2.2.2.2.2.2.2.1, 0, 0, 0))]) rfl rfl rfl rfl (by decide) [z0, z1, z2, z3] rfl rfl rfl rfl 0 4 rfl rfl rfl (Nat.le_of_ble_eq_true rfl) ⟨Nat.le_of_ble_eq_true rfl, Nat.le_of_ble_eq_true rfl⟩ rfl dX4_counted_77 ?_
    generalize er4 : fX4_winner X = r4
    refine k_iast C [(z0, cZ (.ref z4) z1 X.2.2), (z1, cQ cJ z2 z3), (z2, cA4 cI X.1), (z3, cA4 cI X.2.1), (z4, cL b), (q1, cA9 cI (X.2.2.1, X.2.2.2.1, X.2.2.2.2.1, X.2.2.2.2.2.1, X.2.2.2.2.2.2.1, X.2.2.2.2.2.2.2.2.1, 0, r4, 0))] 5 rfl vi9_7 (ar9 (X.2.2.1, X.2.2.2.1, X.2.2.2.2.1, X.2.2.2.2.2.1, X.2.2.2.2.2.2.1, X.2.2.2.2.2.2.2.2.1, 0, r4, 0)) (ar9_s7 _ _) rfl dX4_counted_80 ?_
    refine k_dup C rfl dX4_counted_81 ?_
    refine k_bipush C 8 (by decide) dX4_counted_82 ?_
    refine k_aload_n C dX4_counted_84 0 rfl ?_
    refine k_getX4 C 0 7 rfl (by decide) rfl q432 rfl dX4_counted_85 ?_
    refine k_iast C [(z0, cZ (.ref z4) z1 X.2.2), (z1, cQ cJ z2 z3), (z2, cA4 cI X.1), (z3, cA4 cI X.2.1), (z4, cL b), (q1, cA9 cI (X.2.2.1, X.2.2.2.1, X.2.2.2.2.1, X.2.2.2.2.2.1, X.2.2.2.2.2.2.1, X.2.2.2.2.2.2.2.2.1, 0, r4, X.2.2.2.2.2.2.2.1))] 5 rfl vi9_8 (ar9 (X.2.2.1, X.2.2.2.1, X.2.2.2.2.1, X.2.2.2.2.2.1, X.2.2.2.2.2.2.1, X.2.2.2.2.2.2.2.2.1, 0, r4, X.2.2.2.2.2.2.2.1)) (ar9_s8 _ _) rfl dX4_counted_88 ?_
    refine k_astore_n C [(2, .ref q1), (0, .ref z0), (1, .int 2)] (by decide) rfl dX4_counted_89 ?_
    refine k_aload_n C dX4_counted_90 0 rfl ?_
    refine k_iload_n C dX4_counted_91 2 rfl ?_
    refine k_iald C 5 rfl vi9_2 (ar9_l2 _) dX4_counted_92 ?_
    have hL : fX4_counted_r2 X b = X.2.2.2.2.1 := by subst er4; subst er2; exact (if_pos c3).trans rfl
    refine k_widen (k' := 1) (n' := 9) (Nat.le_of_ble_eq_true rfl) (Nat.le_of_ble_eq_true rfl) ?_
    refine k_wsub (w' := [(z0, cZ (.ref z4) z1 X.2.2), (z1, cQ cJ z2 z3), (z2, cA4 cI X.1), (z3, cA4 cI X.2.1), (z4, cL b)]) [0, 1, 2, 3, 4] rfl rfl ?_
    exact k_iretG C rfl (by rw [hL]; exact ⟨rfl, rfl⟩) dX4_counted_93
  ·
    refine k_iconst C 1 (by decide) dX4_counted_67 ?_
    refine k_goto C 72 (by decide) dX4_counted_68 ?_
    refine k_iast C [(z0, cZ (.ref z4) z1 X.2.2), (z1, cQ cJ z2 z3), (z2, cA4 cI X.1), (z3, cA4 cI X.2.1), (z4, cL b), (q1, cA9 cI (X.2.2.1, X.2.2.2.1, X.2.2.2.2.1, X.2.2.2.2.2.1, X.2.2.2.2.2.2.1, X.2.2.2.2.2.2.2.2.1, 1, 0, 0))] 5 rfl vi9_6 (ar9 (X.2.2.1, X.2.2.2.1, X.2.2.2.2.1, X.2.2.2.2.2.1, X.2.2.2.2.2.2.1, X.2.2.2.2.2.2.2.2.1, 1, 0, 0)) (ar9_s6 _ _) rfl dX4_counted_72 ?_
    refine k_dup C rfl dX4_counted_73 ?_
    refine k_bipush C 7 (by decide) dX4_counted_74 ?_
    refine k_aload_n C dX4_counted_76 0 rfl ?_
    refine k_callV_i C (mX4_winner l D cI cJ z0 z1 z2 z3 (.ref z4) X) (cwV 0 C.2.2.2.2.1 (kGV q479 q463 q464 q38 q465) rfl rfl rfl ⟨rfl, hdX4_winner⟩ ⟨Nat.le_of_ble_eq_true rfl, Nat.le_of_ble_eq_true rfl⟩) [0, 1, 2, 3] [4, 5] [2, 3, 4, 5, 0, 1] [(z4, cL b), (q1, cA9 cI (X.2.2.1, X.2.2.2.1, X.2.2.2.2.1, X.2.2.2.2.2.1, X.2.2.2.2.2.2.1, X.2.2.2.2.2.2.2.2.1, 1, 0, 0))] ([(z0, cZ (.ref z4) z1 X.2.2), (z1, cQ cJ z2 z3), (z2, cA4 cI X.1), (z3, cA4 cI X.2.1), (z4, cL b), (q1, cA9 cI (X.2.2.1, X.2.2.2.1, X.2.2.2.2.1, X.2.2.2.2.2.1, X.2.2.2.2.2.2.1, X.2.2.2.2.2.2.2.2.1, 1, 0, 0))]) rfl rfl rfl rfl (by decide) [z0, z1, z2, z3] rfl rfl rfl rfl 0 4 rfl rfl rfl (Nat.le_of_ble_eq_true rfl) ⟨Nat.le_of_ble_eq_true rfl, Nat.le_of_ble_eq_true rfl⟩ rfl dX4_counted_77 ?_
    generalize er5 : fX4_winner X = r5
    refine k_iast C [(z0, cZ (.ref z4) z1 X.2.2), (z1, cQ cJ z2 z3), (z2, cA4 cI X.1), (z3, cA4 cI X.2.1), (z4, cL b), (q1, cA9 cI (X.2.2.1, X.2.2.2.1, X.2.2.2.2.1, X.2.2.2.2.2.1, X.2.2.2.2.2.2.1, X.2.2.2.2.2.2.2.2.1, 1, r5, 0))] 5 rfl vi9_7 (ar9 (X.2.2.1, X.2.2.2.1, X.2.2.2.2.1, X.2.2.2.2.2.1, X.2.2.2.2.2.2.1, X.2.2.2.2.2.2.2.2.1, 1, r5, 0)) (ar9_s7 _ _) rfl dX4_counted_80 ?_
    refine k_dup C rfl dX4_counted_81 ?_
    refine k_bipush C 8 (by decide) dX4_counted_82 ?_
    refine k_aload_n C dX4_counted_84 0 rfl ?_
    refine k_getX4 C 0 7 rfl (by decide) rfl q432 rfl dX4_counted_85 ?_
    refine k_iast C [(z0, cZ (.ref z4) z1 X.2.2), (z1, cQ cJ z2 z3), (z2, cA4 cI X.1), (z3, cA4 cI X.2.1), (z4, cL b), (q1, cA9 cI (X.2.2.1, X.2.2.2.1, X.2.2.2.2.1, X.2.2.2.2.2.1, X.2.2.2.2.2.2.1, X.2.2.2.2.2.2.2.2.1, 1, r5, X.2.2.2.2.2.2.2.1))] 5 rfl vi9_8 (ar9 (X.2.2.1, X.2.2.2.1, X.2.2.2.2.1, X.2.2.2.2.2.1, X.2.2.2.2.2.2.1, X.2.2.2.2.2.2.2.2.1, 1, r5, X.2.2.2.2.2.2.2.1)) (ar9_s8 _ _) rfl dX4_counted_88 ?_
    refine k_astore_n C [(2, .ref q1), (0, .ref z0), (1, .int 2)] (by decide) rfl dX4_counted_89 ?_
    refine k_aload_n C dX4_counted_90 0 rfl ?_
    refine k_iload_n C dX4_counted_91 2 rfl ?_
    refine k_iald C 5 rfl vi9_2 (ar9_l2 _) dX4_counted_92 ?_
    have hL : fX4_counted_r2 X b = X.2.2.2.2.1 := by subst er5; subst er2; exact (if_neg c3).trans rfl
    refine k_widen (k' := 1) (n' := 9) (Nat.le_of_ble_eq_true rfl) (Nat.le_of_ble_eq_true rfl) ?_
    refine k_wsub (w' := [(z0, cZ (.ref z4) z1 X.2.2), (z1, cQ cJ z2 z3), (z2, cA4 cI X.1), (z3, cA4 cI X.2.1), (z4, cL b)]) [0, 1, 2, 3, 4] rfl rfl ?_
    exact k_iretG C rfl (by rw [hL]; exact ⟨rfl, rfl⟩) dX4_counted_93

noncomputable def fX4_counted_n3 (X : Zs) : Int32 :=
  if (fX4_canSet_n X) = 0 then X.2.2.2.2.2.1
  else X.2.2.2.2.2.1
set_option maxHeartbeats 4000000 in
set_option maxRecDepth 100000 in
theorem mX4_counted_n3 (l : Launch) (D : va_G) (cI cJ : ClassId) (z0 z1 z2 z3 : Nat) (X : Zs) : kGi l D cI cJ yX4_counted (.code yX4_counted cX4_counted 3 (some .int)) { frames := 1, cells := 1, slots := 9, locals := 20 } [.ref z0, .int 3] [(z0, cZ .null z1 X.2.2), (z1, cQ cJ z2 z3), (z2, cA4 cI X.1), (z3, cA4 cI X.2.1)] 1 9 (fun r U => r = fX4_counted_n3 X ∧ U = [(z0, cZ .null z1 X.2.2), (z1, cQ cJ z2 z3), (z2, cA4 cI X.1), (z3, cA4 cI X.2.1)]) := by
  refine fun sz => k_ofN (lv := [(0, .ref z0), (1, .int 3)]) (by decide) sz (Nat.le_of_ble_eq_true rfl) rfl ?_
  intro p e s m args below meth c hsz hnm C
  refine k_bipush C 9 (by decide) dX4_counted_0 ?_
  refine k_newI C 9 (ar9 (0, 0, 0, 0, 0, 0, 0, 0, 0)) zf9 (by decide) (by decide) (by decide) (Nat.le_of_ble_eq_true rfl) (Nat.le_of_ble_eq_true rfl) dX4_counted_2 (fun q1 => ?_)
  refine k_dup C rfl dX4_counted_4 ?_
  refine k_iconst C 0 (by decide) dX4_counted_5 ?_
  refine k_aload_n C dX4_counted_6 0 rfl ?_
  refine k_getX4 C 0 0 rfl (by decide) rfl q423 rfl dX4_counted_7 ?_
  refine k_iast C [(z0, cZ .null z1 X.2.2), (z1, cQ cJ z2 z3), (z2, cA4 cI X.1), (z3, cA4 cI X.2.1), (q1, cA9 cI (X.2.2.1, 0, 0, 0, 0, 0, 0, 0, 0))] 4 rfl vi9_0 (ar9 (X.2.2.1, 0, 0, 0, 0, 0, 0, 0, 0)) (ar9_s0 _ _) rfl dX4_counted_10 ?_
  refine k_dup C rfl dX4_counted_11 ?_
  refine k_iconst C 1 (by decide) dX4_counted_12 ?_
  refine k_aload_n C dX4_counted_13 0 rfl ?_
  refine k_getX4 C 0 1 rfl (by decide) rfl q424 rfl dX4_counted_14 ?_
  refine k_iast C [(z0, cZ .null z1 X.2.2), (z1, cQ cJ z2 z3), (z2, cA4 cI X.1), (z3, cA4 cI X.2.1), (q1, cA9 cI (X.2.2.1, X.2.2.2.1, 0, 0, 0, 0, 0, 0, 0))] 4 rfl vi9_1 (ar9 (X.2.2.1, X.2.2.2.1, 0, 0, 0, 0, 0, 0, 0)) (ar9_s1 _ _) rfl dX4_counted_17 ?_
  refine k_dup C rfl dX4_counted_18 ?_
  refine k_iconst C 2 (by decide) dX4_counted_19 ?_
  refine k_aload_n C dX4_counted_20 0 rfl ?_
  refine k_getX4 C 0 3 rfl (by decide) rfl q426 rfl dX4_counted_21 ?_
  refine k_ifnonnullN C dX4_counted_24 ?_
  refine k_iconst C 0 (by decide) dX4_counted_27 ?_
  refine k_goto C 35 (by decide) dX4_counted_28 ?_
  refine k_iast C [(z0, cZ .null z1 X.2.2), (z1, cQ cJ z2 z3), (z2, cA4 cI X.1), (z3, cA4 cI X.2.1), (q1, cA9 cI (X.2.2.1, X.2.2.2.1, 0, 0, 0, 0, 0, 0, 0))] 4 rfl vi9_2 (ar9 (X.2.2.1, X.2.2.2.1, 0, 0, 0, 0, 0, 0, 0)) (ar9_s2 _ _) rfl dX4_counted_35 ?_
  refine k_dup C rfl dX4_counted_36 ?_
  refine k_iconst C 3 (by decide) dX4_counted_37 ?_
  refine k_aload_n C dX4_counted_38 0 rfl ?_
  refine k_getX4 C 0 5 rfl (by decide) rfl q430 rfl dX4_counted_39 ?_
  refine k_iast C [(z0, cZ .null z1 X.2.2), (z1, cQ cJ z2 z3), (z2, cA4 cI X.1), (z3, cA4 cI X.2.1), (q1, cA9 cI (X.2.2.1, X.2.2.2.1, 0, X.2.2.2.2.2.1, 0, 0, 0, 0, 0))] 4 rfl vi9_3 (ar9 (X.2.2.1, X.2.2.2.1, 0, X.2.2.2.2.2.1, 0, 0, 0, 0, 0)) (ar9_s3 _ _) rfl dX4_counted_42 ?_
  refine k_dup C rfl dX4_counted_43 ?_
  refine k_iconst C 4 (by decide) dX4_counted_44 ?_
  refine k_aload_n C dX4_counted_45 0 rfl ?_
  refine k_getX4 C 0 6 rfl (by decide) rfl q431 rfl dX4_counted_46 ?_
  refine k_iast C [(z0, cZ .null z1 X.2.2), (z1, cQ cJ z2 z3), (z2, cA4 cI X.1), (z3, cA4 cI X.2.1), (q1, cA9 cI (X.2.2.1, X.2.2.2.1, 0, X.2.2.2.2.2.1, X.2.2.2.2.2.2.1, 0, 0, 0, 0))] 4 rfl vi9_4 (ar9 (X.2.2.1, X.2.2.2.1, 0, X.2.2.2.2.2.1, X.2.2.2.2.2.2.1, 0, 0, 0, 0)) (ar9_s4 _ _) rfl dX4_counted_49 ?_
  refine k_dup C rfl dX4_counted_50 ?_
  refine k_iconst C 5 (by decide) dX4_counted_51 ?_
  refine k_aload_n C dX4_counted_52 0 rfl ?_
  refine k_getX4 C 0 8 rfl (by decide) rfl q433 rfl dX4_counted_53 ?_
  refine k_iast C [(z0, cZ .null z1 X.2.2), (z1, cQ cJ z2 z3), (z2, cA4 cI X.1), (z3, cA4 cI X.2.1), (q1, cA9 cI (X.2.2.1, X.2.2.2.1, 0, X.2.2.2.2.2.1, X.2.2.2.2.2.2.1, X.2.2.2.2.2.2.2.2.1, 0, 0, 0))] 4 rfl vi9_5 (ar9 (X.2.2.1, X.2.2.2.1, 0, X.2.2.2.2.2.1, X.2.2.2.2.2.2.1, X.2.2.2.2.2.2.2.2.1, 0, 0, 0)) (ar9_s5 _ _) rfl dX4_counted_56 ?_
  refine k_dup C rfl dX4_counted_57 ?_
  refine k_bipush C 6 (by decide) dX4_counted_58 ?_
  refine k_aload_n C dX4_counted_60 0 rfl ?_
  refine k_callV_i C (mX4_canSet_n l D cI cJ z0 z1 z2 z3 X) (cwV 0 C.2.2.2.2.1 (kGV q475 q476 q477 q38 q478) rfl rfl rfl ⟨rfl, hdX4_canSet⟩ ⟨Nat.le_of_ble_eq_true rfl, Nat.le_of_ble_eq_true rfl⟩) [0, 1, 2, 3] [4] [1, 2, 3, 4, 0] [(q1, cA9 cI (X.2.2.1, X.2.2.2.1, 0, X.2.2.2.2.2.1, X.2.2.2.2.2.2.1, X.2.2.2.2.2.2.2.2.1, 0, 0, 0))] ([(z0, cZ .null z1 X.2.2), (z1, cQ cJ z2 z3), (z2, cA4 cI X.1), (z3, cA4 cI X.2.1), (q1, cA9 cI (X.2.2.1, X.2.2.2.1, 0, X.2.2.2.2.2.1, X.2.2.2.2.2.2.1, X.2.2.2.2.2.2.2.2.1, 0, 0, 0))]) rfl rfl rfl rfl (by decide) [z0, z1, z2, z3] rfl rfl rfl rfl 0 4 rfl rfl rfl (Nat.le_of_ble_eq_true rfl) ⟨Nat.le_of_ble_eq_true rfl, Nat.le_of_ble_eq_true rfl⟩ rfl dX4_counted_61 ?_
  generalize er2 : fX4_canSet_n X = r2
  refine k_if_eq C 71 (by decide) dX4_counted_64 (fun c3 => ?_) (fun c3 => ?_)
  ·
    refine k_iconst C 0 (by decide) dX4_counted_71 ?_
    refine k_iast C [(z0, cZ .null z1 X.2.2), (z1, cQ cJ z2 z3), (z2, cA4 cI X.1), (z3, cA4 cI X.2.1), (q1, cA9 cI (X.2.2.1, X.2.2.2.1, 0, X.2.2.2.2.2.1, X.2.2.2.2.2.2.1, X.2.2.2.2.2.2.2.2.1, 0, 0, 0))] 4 rfl vi9_6 (ar9 (X.2.2.1, X.2.2.2.1, 0, X.2.2.2.2.2.1, X.2.2.2.2.2.2.1, X.2.2.2.2.2.2.2.2.1, 0, 0, 0)) (ar9_s6 _ _) rfl dX4_counted_72 ?_
    refine k_dup C rfl dX4_counted_73 ?_
    refine k_bipush C 7 (by decide) dX4_counted_74 ?_
    refine k_aload_n C dX4_counted_76 0 rfl ?_
    refine k_callV_i C (mX4_winner l D cI cJ z0 z1 z2 z3 .null X) (cwV 0 C.2.2.2.2.1 (kGV q479 q463 q464 q38 q465) rfl rfl rfl ⟨rfl, hdX4_winner⟩ ⟨Nat.le_of_ble_eq_true rfl, Nat.le_of_ble_eq_true rfl⟩) [0, 1, 2, 3] [4] [1, 2, 3, 4, 0] [(q1, cA9 cI (X.2.2.1, X.2.2.2.1, 0, X.2.2.2.2.2.1, X.2.2.2.2.2.2.1, X.2.2.2.2.2.2.2.2.1, 0, 0, 0))] ([(z0, cZ .null z1 X.2.2), (z1, cQ cJ z2 z3), (z2, cA4 cI X.1), (z3, cA4 cI X.2.1), (q1, cA9 cI (X.2.2.1, X.2.2.2.1, 0, X.2.2.2.2.2.1, X.2.2.2.2.2.2.1, X.2.2.2.2.2.2.2.2.1, 0, 0, 0))]) rfl rfl rfl rfl (by decide) [z0, z1, z2, z3] rfl rfl rfl rfl 0 4 rfl rfl rfl (Nat.le_of_ble_eq_true rfl) ⟨Nat.le_of_ble_eq_true rfl, Nat.le_of_ble_eq_true rfl⟩ rfl dX4_counted_77 ?_
    generalize er4 : fX4_winner X = r4
    refine k_iast C [(z0, cZ .null z1 X.2.2), (z1, cQ cJ z2 z3), (z2, cA4 cI X.1), (z3, cA4 cI X.2.1), (q1, cA9 cI (X.2.2.1, X.2.2.2.1, 0, X.2.2.2.2.2.1, X.2.2.2.2.2.2.1, X.2.2.2.2.2.2.2.2.1, 0, r4, 0))] 4 rfl vi9_7 (ar9 (X.2.2.1, X.2.2.2.1, 0, X.2.2.2.2.2.1, X.2.2.2.2.2.2.1, X.2.2.2.2.2.2.2.2.1, 0, r4, 0)) (ar9_s7 _ _) rfl dX4_counted_80 ?_
    refine k_dup C rfl dX4_counted_81 ?_
    refine k_bipush C 8 (by decide) dX4_counted_82 ?_
    refine k_aload_n C dX4_counted_84 0 rfl ?_
    refine k_getX4 C 0 7 rfl (by decide) rfl q432 rfl dX4_counted_85 ?_
    refine k_iast C [(z0, cZ .null z1 X.2.2), (z1, cQ cJ z2 z3), (z2, cA4 cI X.1), (z3, cA4 cI X.2.1), (q1, cA9 cI (X.2.2.1, X.2.2.2.1, 0, X.2.2.2.2.2.1, X.2.2.2.2.2.2.1, X.2.2.2.2.2.2.2.2.1, 0, r4, X.2.2.2.2.2.2.2.1))] 4 rfl vi9_8 (ar9 (X.2.2.1, X.2.2.2.1, 0, X.2.2.2.2.2.1, X.2.2.2.2.2.2.1, X.2.2.2.2.2.2.2.2.1, 0, r4, X.2.2.2.2.2.2.2.1)) (ar9_s8 _ _) rfl dX4_counted_88 ?_
    refine k_astore_n C [(2, .ref q1), (0, .ref z0), (1, .int 3)] (by decide) rfl dX4_counted_89 ?_
    refine k_aload_n C dX4_counted_90 0 rfl ?_
    refine k_iload_n C dX4_counted_91 2 rfl ?_
    refine k_iald C 4 rfl vi9_3 (ar9_l3 _) dX4_counted_92 ?_
    have hL : fX4_counted_n3 X = X.2.2.2.2.2.1 := by subst er4; subst er2; exact (if_pos c3).trans rfl
    refine k_widen (k' := 1) (n' := 9) (Nat.le_of_ble_eq_true rfl) (Nat.le_of_ble_eq_true rfl) ?_
    refine k_wsub (w' := [(z0, cZ .null z1 X.2.2), (z1, cQ cJ z2 z3), (z2, cA4 cI X.1), (z3, cA4 cI X.2.1)]) [0, 1, 2, 3] rfl rfl ?_
    exact k_iretG C rfl (by rw [hL]; exact ⟨rfl, rfl⟩) dX4_counted_93
  ·
    refine k_iconst C 1 (by decide) dX4_counted_67 ?_
    refine k_goto C 72 (by decide) dX4_counted_68 ?_
    refine k_iast C [(z0, cZ .null z1 X.2.2), (z1, cQ cJ z2 z3), (z2, cA4 cI X.1), (z3, cA4 cI X.2.1), (q1, cA9 cI (X.2.2.1, X.2.2.2.1, 0, X.2.2.2.2.2.1, X.2.2.2.2.2.2.1, X.2.2.2.2.2.2.2.2.1, 1, 0, 0))] 4 rfl vi9_6 (ar9 (X.2.2.1, X.2.2.2.1, 0, X.2.2.2.2.2.1, X.2.2.2.2.2.2.1, X.2.2.2.2.2.2.2.2.1, 1, 0, 0)) (ar9_s6 _ _) rfl dX4_counted_72 ?_
    refine k_dup C rfl dX4_counted_73 ?_
    refine k_bipush C 7 (by decide) dX4_counted_74 ?_
    refine k_aload_n C dX4_counted_76 0 rfl ?_
    refine k_callV_i C (mX4_winner l D cI cJ z0 z1 z2 z3 .null X) (cwV 0 C.2.2.2.2.1 (kGV q479 q463 q464 q38 q465) rfl rfl rfl ⟨rfl, hdX4_winner⟩ ⟨Nat.le_of_ble_eq_true rfl, Nat.le_of_ble_eq_true rfl⟩) [0, 1, 2, 3] [4] [1, 2, 3, 4, 0] [(q1, cA9 cI (X.2.2.1, X.2.2.2.1, 0, X.2.2.2.2.2.1, X.2.2.2.2.2.2.1, X.2.2.2.2.2.2.2.2.1, 1, 0, 0))] ([(z0, cZ .null z1 X.2.2), (z1, cQ cJ z2 z3), (z2, cA4 cI X.1), (z3, cA4 cI X.2.1), (q1, cA9 cI (X.2.2.1, X.2.2.2.1, 0, X.2.2.2.2.2.1, X.2.2.2.2.2.2.1, X.2.2.2.2.2.2.2.2.1, 1, 0, 0))]) rfl rfl rfl rfl (by decide) [z0, z1, z2, z3] rfl rfl rfl rfl 0 4 rfl rfl rfl (Nat.le_of_ble_eq_true rfl) ⟨Nat.le_of_ble_eq_true rfl, Nat.le_of_ble_eq_true rfl⟩ rfl dX4_counted_77 ?_
    generalize er5 : fX4_winner X = r5
    refine k_iast C [(z0, cZ .null z1 X.2.2), (z1, cQ cJ z2 z3), (z2, cA4 cI X.1), (z3, cA4 cI X.2.1), (q1, cA9 cI (X.2.2.1, X.2.2.2.1, 0, X.2.2.2.2.2.1, X.2.2.2.2.2.2.1, X.2.2.2.2.2.2.2.2.1, 1, r5, 0))] 4 rfl vi9_7 (ar9 (X.2.2.1, X.2.2.2.1, 0, X.2.2.2.2.2.1, X.2.2.2.2.2.2.1, X.2.2.2.2.2.2.2.2.1, 1, r5, 0)) (ar9_s7 _ _) rfl dX4_counted_80 ?_
    refine k_dup C rfl dX4_counted_81 ?_
    refine k_bipush C 8 (by decide) dX4_counted_82 ?_
    refine k_aload_n C dX4_counted_84 0 rfl ?_
    refine k_getX4 C 0 7 rfl (by decide) rfl q432 rfl dX4_counted_85 ?_
    refine k_iast C [(z0, cZ .null z1 X.2.2), (z1, cQ cJ z2 z3), (z2, cA4 cI X.1), (z3, cA4 cI X.2.1), (q1, cA9 cI (X.2.2.1, X.2.2.2.1, 0, X.2.2.2.2.2.1, X.2.2.2.2.2.2.1, X.2.2.2.2.2.2.2.2.1, 1, r5, X.2.2.2.2.2.2.2.1))] 4 rfl vi9_8 (ar9 (X.2.2.1, X.2.2.2.1, 0, X.2.2.2.2.2.1, X.2.2.2.2.2.2.1, X.2.2.2.2.2.2.2.2.1, 1, r5, X.2.2.2.2.2.2.2.1)) (ar9_s8 _ _) rfl dX4_counted_88 ?_
    refine k_astore_n C [(2, .ref q1), (0, .ref z0), (1, .int 3)] (by decide) rfl dX4_counted_89 ?_
    refine k_aload_n C dX4_counted_90 0 rfl ?_
    refine k_iload_n C dX4_counted_91 2 rfl ?_
    refine k_iald C 4 rfl vi9_3 (ar9_l3 _) dX4_counted_92 ?_
    have hL : fX4_counted_n3 X = X.2.2.2.2.2.1 := by subst er5; subst er2; exact (if_neg c3).trans rfl
    refine k_widen (k' := 1) (n' := 9) (Nat.le_of_ble_eq_true rfl) (Nat.le_of_ble_eq_true rfl) ?_
    refine k_wsub (w' := [(z0, cZ .null z1 X.2.2), (z1, cQ cJ z2 z3), (z2, cA4 cI X.1), (z3, cA4 cI X.2.1)]) [0, 1, 2, 3] rfl rfl ?_
    exact k_iretG C rfl (by rw [hL]; exact ⟨rfl, rfl⟩) dX4_counted_93

noncomputable def fX4_counted_r3 (X : Zs) (b : Lb) : Int32 :=
  if (fX4_canSet_r X b) = 0 then X.2.2.2.2.2.1
  else X.2.2.2.2.2.1
set_option maxHeartbeats 4000000 in
set_option maxRecDepth 100000 in
theorem mX4_counted_r3 (l : Launch) (D : va_G) (cI cJ : ClassId) (z0 z1 z2 z3 z4 : Nat) (X : Zs) (b : Lb) : kGi l D cI cJ yX4_counted (.code yX4_counted cX4_counted 3 (some .int)) { frames := 1, cells := 1, slots := 9, locals := 20 } [.ref z0, .int 3] [(z0, cZ (.ref z4) z1 X.2.2), (z1, cQ cJ z2 z3), (z2, cA4 cI X.1), (z3, cA4 cI X.2.1), (z4, cL b)] 1 9 (fun r U => r = fX4_counted_r3 X b ∧ U = [(z0, cZ (.ref z4) z1 X.2.2), (z1, cQ cJ z2 z3), (z2, cA4 cI X.1), (z3, cA4 cI X.2.1), (z4, cL b)]) := by
  refine fun sz => k_ofN (lv := [(0, .ref z0), (1, .int 3)]) (by decide) sz (Nat.le_of_ble_eq_true rfl) rfl ?_
  intro p e s m args below meth c hsz hnm C
  refine k_bipush C 9 (by decide) dX4_counted_0 ?_
  refine k_newI C 9 (ar9 (0, 0, 0, 0, 0, 0, 0, 0, 0)) zf9 (by decide) (by decide) (by decide) (Nat.le_of_ble_eq_true rfl) (Nat.le_of_ble_eq_true rfl) dX4_counted_2 (fun q1 => ?_)
  refine k_dup C rfl dX4_counted_4 ?_
  refine k_iconst C 0 (by decide) dX4_counted_5 ?_
  refine k_aload_n C dX4_counted_6 0 rfl ?_
  refine k_getX4 C 0 0 rfl (by decide) rfl q423 rfl dX4_counted_7 ?_
  refine k_iast C [(z0, cZ (.ref z4) z1 X.2.2), (z1, cQ cJ z2 z3), (z2, cA4 cI X.1), (z3, cA4 cI X.2.1), (z4, cL b), (q1, cA9 cI (X.2.2.1, 0, 0, 0, 0, 0, 0, 0, 0))] 5 rfl vi9_0 (ar9 (X.2.2.1, 0, 0, 0, 0, 0, 0, 0, 0)) (ar9_s0 _ _) rfl dX4_counted_10 ?_
  refine k_dup C rfl dX4_counted_11 ?_
  refine k_iconst C 1 (by decide) dX4_counted_12 ?_
  refine k_aload_n C dX4_counted_13 0 rfl ?_
  refine k_getX4 C 0 1 rfl (by decide) rfl q424 rfl dX4_counted_14 ?_
  refine k_iast C [(z0, cZ (.ref z4) z1 X.2.2), (z1, cQ cJ z2 z3), (z2, cA4 cI X.1), (z3, cA4 cI X.2.1), (z4, cL b), (q1, cA9 cI (X.2.2.1, X.2.2.2.1, 0, 0, 0, 0, 0, 0, 0))] 5 rfl vi9_1 (ar9 (X.2.2.1, X.2.2.2.1, 0, 0, 0, 0, 0, 0, 0)) (ar9_s1 _ _) rfl dX4_counted_17 ?_
  refine k_dup C rfl dX4_counted_18 ?_
  refine k_iconst C 2 (by decide) dX4_counted_19 ?_
  refine k_aload_n C dX4_counted_20 0 rfl ?_
  refine k_getX4 C 0 3 rfl (by decide) rfl q426 rfl dX4_counted_21 ?_
  refine k_ifnonnull C 31 (by decide) dX4_counted_24 ?_
  refine k_aload_n C dX4_counted_31 0 rfl ?_
  refine k_getX4 C 0 2 rfl (by decide) rfl q425 rfl dX4_counted_32 ?_
  refine k_iast C [(z0, cZ (.ref z4) z1 X.2.2), (z1, cQ cJ z2 z3), (z2, cA4 cI X.1), (z3, cA4 cI X.2.1), (z4, cL b), (q1, cA9 cI (X.2.2.1, X.2.2.2.1, X.2.2.2.2.1, 0, 0, 0, 0, 0, 0))] 5 rfl vi9_2 (ar9 (X.2.2.1, X.2.2.2.1, X.2.2.2.2.1, 0, 0, 0, 0, 0, 0)) (ar9_s2 _ _) rfl dX4_counted_35 ?_
  refine k_dup C rfl dX4_counted_36 ?_
  refine k_iconst C 3 (by decide) dX4_counted_37 ?_
  refine k_aload_n C dX4_counted_38 0 rfl ?_
  refine k_getX4 C 0 5 rfl (by decide) rfl q430 rfl dX4_counted_39 ?_
  refine k_iast C [(z0, cZ (.ref z4) z1 X.2.2), (z1, cQ cJ z2 z3), (z2, cA4 cI X.1), (z3, cA4 cI X.2.1), (z4, cL b), (q1, cA9 cI (X.2.2.1, X.2.2.2.1, X.2.2.2.2.1, X.2.2.2.2.2.1, 0, 0, 0, 0, 0))] 5 rfl vi9_3 (ar9 (X.2.2.1, X.2.2.2.1, X.2.2.2.2.1, X.2.2.2.2.2.1, 0, 0, 0, 0, 0)) (ar9_s3 _ _) rfl dX4_counted_42 ?_
  refine k_dup C rfl dX4_counted_43 ?_
  refine k_iconst C 4 (by decide) dX4_counted_44 ?_
  refine k_aload_n C dX4_counted_45 0 rfl ?_
  refine k_getX4 C 0 6 rfl (by decide) rfl q431 rfl dX4_counted_46 ?_
  refine k_iast C [(z0, cZ (.ref z4) z1 X.2.2), (z1, cQ cJ z2 z3), (z2, cA4 cI X.1), (z3, cA4 cI X.2.1), (z4, cL b), (q1, cA9 cI (X.2.2.1, X.2.2.2.1, X.2.2.2.2.1, X.2.2.2.2.2.1, X.2.2.2.2.2.2.1, 0, 0, 0, 0))] 5 rfl vi9_4 (ar9 (X.2.2.1, X.2.2.2.1, X.2.2.2.2.1, X.2.2.2.2.2.1, X.2.2.2.2.2.2.1, 0, 0, 0, 0)) (ar9_s4 _ _) rfl dX4_counted_49 ?_
  refine k_dup C rfl dX4_counted_50 ?_
  refine k_iconst C 5 (by decide) dX4_counted_51 ?_
  refine k_aload_n C dX4_counted_52 0 rfl ?_
  refine k_getX4 C 0 8 rfl (by decide) rfl q433 rfl dX4_counted_53 ?_
  refine k_iast C [(z0, cZ (.ref z4) z1 X.2.2), (z1, cQ cJ z2 z3), (z2, cA4 cI X.1), (z3, cA4 cI X.2.1), (z4, cL b), (q1, cA9 cI (X.2.2.1, X.2.2.2.1, X.2.2.2.2.1, X.2.2.2.2.2.1, X.2.2.2.2.2.2.1, X.2.2.2.2.2.2.2.2.1, 0, 0, 0))] 5 rfl vi9_5 (ar9 (X.2.2.1, X.2.2.2.1, X.2.2.2.2.1, X.2.2.2.2.2.1, X.2.2.2.2.2.2.1, X.2.2.2.2.2.2.2.2.1, 0, 0, 0)) (ar9_s5 _ _) rfl dX4_counted_56 ?_
  refine k_dup C rfl dX4_counted_57 ?_
  refine k_bipush C 6 (by decide) dX4_counted_58 ?_
  refine k_aload_n C dX4_counted_60 0 rfl ?_
  refine k_callV_i C (mX4_canSet_r l D cI cJ z0 z1 z2 z3 z4 X b) (cwV 0 C.2.2.2.2.1 (kGV q475 q476 q477 q38 q478) rfl rfl rfl ⟨rfl, hdX4_canSet⟩ ⟨Nat.le_of_ble_eq_true rfl, Nat.le_of_ble_eq_true rfl⟩) [0, 1, 2, 3, 4] [5] [1, 2, 3, 4, 5, 0] [(q1, cA9 cI (X.2.2.1, X.2.2.2.1, X.2.2.2.2.1, X.2.2.2.2.2.1, X.2.2.2.2.2.2.1, X.2.2.2.2.2.2.2.2.1, 0, 0, 0))] ([(z0, cZ (.ref z4) z1 X.2.2), (z1, cQ cJ z2 z3), (z2, cA4 cI X.1), (z3, cA4 cI X.2.1), (z4, cL b), (q1, cA9 cI (X.2.2.1, X.2.2.2.1, X.2.2.2.2.1, X.2.2.2.2.2.1, X.2.2.2.2.2.2.1, X.2.2.2.2.2.2.2.2.1, 0, 0, 0))]) rfl rfl rfl rfl (by decide) [z0, z1, z2, z3, z4] rfl rfl rfl rfl 0 4 rfl rfl rfl (Nat.le_of_ble_eq_true rfl) ⟨Nat.le_of_ble_eq_true rfl, Nat.le_of_ble_eq_true rfl⟩ rfl dX4_counted_61 ?_
  generalize er2 : fX4_canSet_r X b = r2
  refine k_if_eq C 71 (by decide) dX4_counted_64 (fun c3 => ?_) (fun c3 => ?_)
  ·
    refine k_iconst C 0 (by decide) dX4_counted_71 ?_
    refine k_iast C [(z0, cZ (.ref z4) z1 X.2.2), (z1, cQ cJ z2 z3), (z2, cA4 cI X.1), (z3, cA4 cI X.2.1), (z4, cL b), (q1, cA9 cI (X.2.2.1, X.2.2.2.1, X.2.2.2.2.1, X.2.2.2.2.2.1, X.2.2.2.2.2.2.1, X.2.2.2.2.2.2.2.2.1, 0, 0, 0))] 5 rfl vi9_6 (ar9 (X.2.2.1, X.2.2.2.1, X.2.2.2.2.1, X.2.2.2.2.2.1, X.2.2.2.2.2.2.1, X.2.2.2.2.2.2.2.2.1, 0, 0, 0)) (ar9_s6 _ _) rfl dX4_counted_72 ?_
    refine k_dup C rfl dX4_counted_73 ?_
    refine k_bipush C 7 (by decide) dX4_counted_74 ?_
    refine k_aload_n C dX4_counted_76 0 rfl ?_
    refine k_callV_i C (mX4_winner l D cI cJ z0 z1 z2 z3 (.ref z4) X) (cwV 0 C.2.2.2.2.1 (kGV q479 q463 q464 q38 q465) rfl rfl rfl ⟨rfl, hdX4_winner⟩ ⟨Nat.le_of_ble_eq_true rfl, Nat.le_of_ble_eq_true rfl⟩) [0, 1, 2, 3] [4, 5] [2, 3, 4, 5, 0, 1] [(z4, cL b), (q1, cA9 cI (X.2.2.1, X.2.2.2.1, X.2.2.2.2.1, X.2.2.2.2.2.1, X.2.2.2.2.2.2.1, X.2.2.2.2.2.2.2.2.1, 0, 0, 0))] ([(z0, cZ (.ref z4) z1 X.2.2), (z1, cQ cJ z2 z3), (z2, cA4 cI X.1), (z3, cA4 cI X.2.1), (z4, cL b), (q1, cA9 cI (X.2.2.1, X.2.2.2.1, X.2.2.2.2.1, X.2.2.2.2.2.1, X.2.2.2.2.2.2.1, X.2.2.2.2.2.2.2.2.1, 0, 0, 0))]) rfl rfl rfl rfl (by decide) [z0, z1, z2, z3] rfl rfl rfl rfl 0 4 rfl rfl rfl (Nat.le_of_ble_eq_true rfl) ⟨Nat.le_of_ble_eq_true rfl, Nat.le_of_ble_eq_true rfl⟩ rfl dX4_counted_77 ?_
    generalize er4 : fX4_winner X = r4
    refine k_iast C [(z0, cZ (.ref z4) z1 X.2.2), (z1, cQ cJ z2 z3), (z2, cA4 cI X.1), (z3, cA4 cI X.2.1), (z4, cL b), (q1, cA9 cI (X.2.2.1, X.2.2.2.1, X.2.2.2.2.1, X.2.2.2.2.2.1, X.2.2.2.2.2.2.1, X.2.2.2.2.2.2.2.2.1, 0, r4, 0))] 5 rfl vi9_7 (ar9 (X.2.2.1, X.2.2.2.1, X.2.2.2.2.1, X.2.2.2.2.2.1, X.2.2.2.2.2.2.1, X.2.2.2.2.2.2.2.2.1, 0, r4, 0)) (ar9_s7 _ _) rfl dX4_counted_80 ?_
    refine k_dup C rfl dX4_counted_81 ?_
    refine k_bipush C 8 (by decide) dX4_counted_82 ?_
    refine k_aload_n C dX4_counted_84 0 rfl ?_
    refine k_getX4 C 0 7 rfl (by decide) rfl q432 rfl dX4_counted_85 ?_
    refine k_iast C [(z0, cZ (.ref z4) z1 X.2.2), (z1, cQ cJ z2 z3), (z2, cA4 cI X.1), (z3, cA4 cI X.2.1), (z4, cL b), (q1, cA9 cI (X.2.2.1, X.2.2.2.1, X.2.2.2.2.1, X.2.2.2.2.2.1, X.2.2.2.2.2.2.1, X.2.2.2.2.2.2.2.2.1, 0, r4, X.2.2.2.2.2.2.2.1))] 5 rfl vi9_8 (ar9 (X.2.2.1, X.2.2.2.1, X.2.2.2.2.1, X.2.2.2.2.2.1, X.2.2.2.2.2.2.1, X.2.2.2.2.2.2.2.2.1, 0, r4, X.2.2.2.2.2.2.2.1)) (ar9_s8 _ _) rfl dX4_counted_88 ?_
    refine k_astore_n C [(2, .ref q1), (0, .ref z0), (1, .int 3)] (by decide) rfl dX4_counted_89 ?_
    refine k_aload_n C dX4_counted_90 0 rfl ?_
    refine k_iload_n C dX4_counted_91 2 rfl ?_
    refine k_iald C 5 rfl vi9_3 (ar9_l3 _) dX4_counted_92 ?_
    have hL : fX4_counted_r3 X b = X.2.2.2.2.2.1 := by subst er4; subst er2; exact (if_pos c3).trans rfl
    refine k_widen (k' := 1) (n' := 9) (Nat.le_of_ble_eq_true rfl) (Nat.le_of_ble_eq_true rfl) ?_
    refine k_wsub (w' := [(z0, cZ (.ref z4) z1 X.2.2), (z1, cQ cJ z2 z3), (z2, cA4 cI X.1), (z3, cA4 cI X.2.1), (z4, cL b)]) [0, 1, 2, 3, 4] rfl rfl ?_
    exact k_iretG C rfl (by rw [hL]; exact ⟨rfl, rfl⟩) dX4_counted_93
  ·
    refine k_iconst C 1 (by decide) dX4_counted_67 ?_
    refine k_goto C 72 (by decide) dX4_counted_68 ?_
    refine k_iast C [(z0, cZ (.ref z4) z1 X.2.2), (z1, cQ cJ z2 z3), (z2, cA4 cI X.1), (z3, cA4 cI X.2.1), (z4, cL b), (q1, cA9 cI (X.2.2.1, X.2.2.2.1, X.2.2.2.2.1, X.2.2.2.2.2.1, X.2.2.2.2.2.2.1, X.2.2.2.2.2.2.2.2.1, 1, 0, 0))] 5 rfl vi9_6 (ar9 (X.2.2.1, X.2.2.2.1, X.2.2.2.2.1, X.2.2.2.2.2.1, X.2.2.2.2.2.2.1, X.2.2.2.2.2.2.2.2.1, 1, 0, 0)) (ar9_s6 _ _) rfl dX4_counted_72 ?_
    refine k_dup C rfl dX4_counted_73 ?_
    refine k_bipush C 7 (by decide) dX4_counted_74 ?_
    refine k_aload_n C dX4_counted_76 0 rfl ?_
    refine k_callV_i C (mX4_winner l D cI cJ z0 z1 z2 z3 (.ref z4) X) (cwV 0 C.2.2.2.2.1 (kGV q479 q463 q464 q38 q465) rfl rfl rfl ⟨rfl, hdX4_winner⟩ ⟨Nat.le_of_ble_eq_true rfl, Nat.le_of_ble_eq_true rfl⟩) [0, 1, 2, 3] [4, 5] [2, 3, 4, 5, 0, 1] [(z4, cL b), (q1, cA9 cI (X.2.2.1, X.2.2.2.1, X.2.2.2.2.1, X.2.2.2.2.2.1, X.2.2.2.2.2.2.1, X.2.2.2.2.2.2.2.2.1, 1, 0, 0))] ([(z0, cZ (.ref z4) z1 X.2.2), (z1, cQ cJ z2 z3), (z2, cA4 cI X.1), (z3, cA4 cI X.2.1), (z4, cL b), (q1, cA9 cI (X.2.2.1, X.2.2.2.1, X.2.2.2.2.1, X.2.2.2.2.2.1, X.2.2.2.2.2.2.1, X.2.2.2.2.2.2.2.2.1, 1, 0, 0))]) rfl rfl rfl rfl (by decide) [z0, z1, z2, z3] rfl rfl rfl rfl 0 4 rfl rfl rfl (Nat.le_of_ble_eq_true rfl) ⟨Nat.le_of_ble_eq_true rfl, Nat.le_of_ble_eq_true rfl⟩ rfl dX4_counted_77 ?_
    generalize er5 : fX4_winner X = r5
    refine k_iast C [(z0, cZ (.ref z4) z1 X.2.2), (z1, cQ cJ z2 z3), (z2, cA4 cI X.1), (z3, cA4 cI X.2.1), (z4, cL b), (q1, cA9 cI (X.2.2.1, X.2.2.2.1, X.2.2.2.2.1, X.2.2.2.2.2.1, X.2.2.2.2.2.2.1, X.2.2.2.2.2.2.2.2.1, 1, r5, 0))] 5 rfl vi9_7 (ar9 (X.2.2.1, X.2.2.2.1, X.2.2.2.2.1, X.2.2.2.2.2.1, X.2.2.2.2.2.2.1, X.2.2.2.2.2.2.2.2.1, 1, r5, 0)) (ar9_s7 _ _) rfl dX4_counted_80 ?_
    refine k_dup C rfl dX4_counted_81 ?_
    refine k_bipush C 8 (by decide) dX4_counted_82 ?_
    refine k_aload_n C dX4_counted_84 0 rfl ?_
    refine k_getX4 C 0 7 rfl (by decide) rfl q432 rfl dX4_counted_85 ?_
    refine k_iast C [(z0, cZ (.ref z4) z1 X.2.2), (z1, cQ cJ z2 z3), (z2, cA4 cI X.1), (z3, cA4 cI X.2.1), (z4, cL b), (q1, cA9 cI (X.2.2.1, X.2.2.2.1, X.2.2.2.2.1, X.2.2.2.2.2.1, X.2.2.2.2.2.2.1, X.2.2.2.2.2.2.2.2.1, 1, r5, X.2.2.2.2.2.2.2.1))] 5 rfl vi9_8 (ar9 (X.2.2.1, X.2.2.2.1, X.2.2.2.2.1, X.2.2.2.2.2.1, X.2.2.2.2.2.2.1, X.2.2.2.2.2.2.2.2.1, 1, r5, X.2.2.2.2.2.2.2.1)) (ar9_s8 _ _) rfl dX4_counted_88 ?_
    refine k_astore_n C [(2, .ref q1), (0, .ref z0), (1, .int 3)] (by decide) rfl dX4_counted_89 ?_
    refine k_aload_n C dX4_counted_90 0 rfl ?_
    refine k_iload_n C dX4_counted_91 2 rfl ?_
    refine k_iald C 5 rfl vi9_3 (ar9_l3 _) dX4_counted_92 ?_
    have hL : fX4_counted_r3 X b = X.2.2.2.2.2.1 := by subst er5; subst er2; exact (if_neg c3).trans rfl
    refine k_widen (k' := 1) (n' := 9) (Nat.le_of_ble_eq_true rfl) (Nat.le_of_ble_eq_true rfl) ?_
    refine k_wsub (w' := [(z0, cZ (.ref z4) z1 X.2.2), (z1, cQ cJ z2 z3), (z2, cA4 cI X.1), (z3, cA4 cI X.2.1), (z4, cL b)]) [0, 1, 2, 3, 4] rfl rfl ?_
    exact k_iretG C rfl (by rw [hL]; exact ⟨rfl, rfl⟩) dX4_counted_93

noncomputable def fX4_counted_n4 (X : Zs) : Int32 :=
  if (fX4_canSet_n X) = 0 then X.2.2.2.2.2.2.1
  else X.2.2.2.2.2.2.1
set_option maxHeartbeats 4000000 in
set_option maxRecDepth 100000 in
theorem mX4_counted_n4 (l : Launch) (D : va_G) (cI cJ : ClassId) (z0 z1 z2 z3 : Nat) (X : Zs) : kGi l D cI cJ yX4_counted (.code yX4_counted cX4_counted 3 (some .int)) { frames := 1, cells := 1, slots := 9, locals := 20 } [.ref z0, .int 4] [(z0, cZ .null z1 X.2.2), (z1, cQ cJ z2 z3), (z2, cA4 cI X.1), (z3, cA4 cI X.2.1)] 1 9 (fun r U => r = fX4_counted_n4 X ∧ U = [(z0, cZ .null z1 X.2.2), (z1, cQ cJ z2 z3), (z2, cA4 cI X.1), (z3, cA4 cI X.2.1)]) := by
  refine fun sz => k_ofN (lv := [(0, .ref z0), (1, .int 4)]) (by decide) sz (Nat.le_of_ble_eq_true rfl) rfl ?_
  intro p e s m args below meth c hsz hnm C
  refine k_bipush C 9 (by decide) dX4_counted_0 ?_
  refine k_newI C 9 (ar9 (0, 0, 0, 0, 0, 0, 0, 0, 0)) zf9 (by decide) (by decide) (by decide) (Nat.le_of_ble_eq_true rfl) (Nat.le_of_ble_eq_true rfl) dX4_counted_2 (fun q1 => ?_)
  refine k_dup C rfl dX4_counted_4 ?_
  refine k_iconst C 0 (by decide) dX4_counted_5 ?_
  refine k_aload_n C dX4_counted_6 0 rfl ?_
  refine k_getX4 C 0 0 rfl (by decide) rfl q423 rfl dX4_counted_7 ?_
  refine k_iast C [(z0, cZ .null z1 X.2.2), (z1, cQ cJ z2 z3), (z2, cA4 cI X.1), (z3, cA4 cI X.2.1), (q1, cA9 cI (X.2.2.1, 0, 0, 0, 0, 0, 0, 0, 0))] 4 rfl vi9_0 (ar9 (X.2.2.1, 0, 0, 0, 0, 0, 0, 0, 0)) (ar9_s0 _ _) rfl dX4_counted_10 ?_
  refine k_dup C rfl dX4_counted_11 ?_
  refine k_iconst C 1 (by decide) dX4_counted_12 ?_
  refine k_aload_n C dX4_counted_13 0 rfl ?_
  refine k_getX4 C 0 1 rfl (by decide) rfl q424 rfl dX4_counted_14 ?_
  refine k_iast C [(z0, cZ .null z1 X.2.2), (z1, cQ cJ z2 z3), (z2, cA4 cI X.1), (z3, cA4 cI X.2.1), (q1, cA9 cI (X.2.2.1, X.2.2.2.1, 0, 0, 0, 0, 0, 0, 0))] 4 rfl vi9_1 (ar9 (X.2.2.1, X.2.2.2.1, 0, 0, 0, 0, 0, 0, 0)) (ar9_s1 _ _) rfl dX4_counted_17 ?_
  refine k_dup C rfl dX4_counted_18 ?_
  refine k_iconst C 2 (by decide) dX4_counted_19 ?_
  refine k_aload_n C dX4_counted_20 0 rfl ?_
  refine k_getX4 C 0 3 rfl (by decide) rfl q426 rfl dX4_counted_21 ?_
  refine k_ifnonnullN C dX4_counted_24 ?_
  refine k_iconst C 0 (by decide) dX4_counted_27 ?_
  refine k_goto C 35 (by decide) dX4_counted_28 ?_
  refine k_iast C [(z0, cZ .null z1 X.2.2), (z1, cQ cJ z2 z3), (z2, cA4 cI X.1), (z3, cA4 cI X.2.1), (q1, cA9 cI (X.2.2.1, X.2.2.2.1, 0, 0, 0, 0, 0, 0, 0))] 4 rfl vi9_2 (ar9 (X.2.2.1, X.2.2.2.1, 0, 0, 0, 0, 0, 0, 0)) (ar9_s2 _ _) rfl dX4_counted_35 ?_
  refine k_dup C rfl dX4_counted_36 ?_
  refine k_iconst C 3 (by decide) dX4_counted_37 ?_
  refine k_aload_n C dX4_counted_38 0 rfl ?_
  refine k_getX4 C 0 5 rfl (by decide) rfl q430 rfl dX4_counted_39 ?_
  refine k_iast C [(z0, cZ .null z1 X.2.2), (z1, cQ cJ z2 z3), (z2, cA4 cI X.1), (z3, cA4 cI X.2.1), (q1, cA9 cI (X.2.2.1, X.2.2.2.1, 0, X.2.2.2.2.2.1, 0, 0, 0, 0, 0))] 4 rfl vi9_3 (ar9 (X.2.2.1, X.2.2.2.1, 0, X.2.2.2.2.2.1, 0, 0, 0, 0, 0)) (ar9_s3 _ _) rfl dX4_counted_42 ?_
  refine k_dup C rfl dX4_counted_43 ?_
  refine k_iconst C 4 (by decide) dX4_counted_44 ?_
  refine k_aload_n C dX4_counted_45 0 rfl ?_
  refine k_getX4 C 0 6 rfl (by decide) rfl q431 rfl dX4_counted_46 ?_
  refine k_iast C [(z0, cZ .null z1 X.2.2), (z1, cQ cJ z2 z3), (z2, cA4 cI X.1), (z3, cA4 cI X.2.1), (q1, cA9 cI (X.2.2.1, X.2.2.2.1, 0, X.2.2.2.2.2.1, X.2.2.2.2.2.2.1, 0, 0, 0, 0))] 4 rfl vi9_4 (ar9 (X.2.2.1, X.2.2.2.1, 0, X.2.2.2.2.2.1, X.2.2.2.2.2.2.1, 0, 0, 0, 0)) (ar9_s4 _ _) rfl dX4_counted_49 ?_
  refine k_dup C rfl dX4_counted_50 ?_
  refine k_iconst C 5 (by decide) dX4_counted_51 ?_
  refine k_aload_n C dX4_counted_52 0 rfl ?_
  refine k_getX4 C 0 8 rfl (by decide) rfl q433 rfl dX4_counted_53 ?_
  refine k_iast C [(z0, cZ .null z1 X.2.2), (z1, cQ cJ z2 z3), (z2, cA4 cI X.1), (z3, cA4 cI X.2.1), (q1, cA9 cI (X.2.2.1, X.2.2.2.1, 0, X.2.2.2.2.2.1, X.2.2.2.2.2.2.1, X.2.2.2.2.2.2.2.2.1, 0, 0, 0))] 4 rfl vi9_5 (ar9 (X.2.2.1, X.2.2.2.1, 0, X.2.2.2.2.2.1, X.2.2.2.2.2.2.1, X.2.2.2.2.2.2.2.2.1, 0, 0, 0)) (ar9_s5 _ _) rfl dX4_counted_56 ?_
  refine k_dup C rfl dX4_counted_57 ?_
  refine k_bipush C 6 (by decide) dX4_counted_58 ?_
  refine k_aload_n C dX4_counted_60 0 rfl ?_
  refine k_callV_i C (mX4_canSet_n l D cI cJ z0 z1 z2 z3 X) (cwV 0 C.2.2.2.2.1 (kGV q475 q476 q477 q38 q478) rfl rfl rfl ⟨rfl, hdX4_canSet⟩ ⟨Nat.le_of_ble_eq_true rfl, Nat.le_of_ble_eq_true rfl⟩) [0, 1, 2, 3] [4] [1, 2, 3, 4, 0] [(q1, cA9 cI (X.2.2.1, X.2.2.2.1, 0, X.2.2.2.2.2.1, X.2.2.2.2.2.2.1, X.2.2.2.2.2.2.2.2.1, 0, 0, 0))] ([(z0, cZ .null z1 X.2.2), (z1, cQ cJ z2 z3), (z2, cA4 cI X.1), (z3, cA4 cI X.2.1), (q1, cA9 cI (X.2.2.1, X.2.2.2.1, 0, X.2.2.2.2.2.1, X.2.2.2.2.2.2.1, X.2.2.2.2.2.2.2.2.1, 0, 0, 0))]) rfl rfl rfl rfl (by decide) [z0, z1, z2, z3] rfl rfl rfl rfl 0 4 rfl rfl rfl (Nat.le_of_ble_eq_true rfl) ⟨Nat.le_of_ble_eq_true rfl, Nat.le_of_ble_eq_true rfl⟩ rfl dX4_counted_61 ?_
  generalize er2 : fX4_canSet_n X = r2
  refine k_if_eq C 71 (by decide) dX4_counted_64 (fun c3 => ?_) (fun c3 => ?_)
  ·
    refine k_iconst C 0 (by decide) dX4_counted_71 ?_
    refine k_iast C [(z0, cZ .null z1 X.2.2), (z1, cQ cJ z2 z3), (z2, cA4 cI X.1), (z3, cA4 cI X.2.1), (q1, cA9 cI (X.2.2.1, X.2.2.2.1, 0, X.2.2.2.2.2.1, X.2.2.2.2.2.2.1, X.2.2.2.2.2.2.2.2.1, 0, 0, 0))] 4 rfl vi9_6 (ar9 (X.2.2.1, X.2.2.2.1, 0, X.2.2.2.2.2.1, X.2.2.2.2.2.2.1, X.2.2.2.2.2.2.2.2.1, 0, 0, 0)) (ar9_s6 _ _) rfl dX4_counted_72 ?_
    refine k_dup C rfl dX4_counted_73 ?_
    refine k_bipush C 7 (by decide) dX4_counted_74 ?_
    refine k_aload_n C dX4_counted_76 0 rfl ?_
    refine k_callV_i C (mX4_winner l D cI cJ z0 z1 z2 z3 .null X) (cwV 0 C.2.2.2.2.1 (kGV q479 q463 q464 q38 q465) rfl rfl rfl ⟨rfl, hdX4_winner⟩ ⟨Nat.le_of_ble_eq_true rfl, Nat.le_of_ble_eq_true rfl⟩) [0, 1, 2, 3] [4] [1, 2, 3, 4, 0] [(q1, cA9 cI (X.2.2.1, X.2.2.2.1, 0, X.2.2.2.2.2.1, X.2.2.2.2.2.2.1, X.2.2.2.2.2.2.2.2.1, 0, 0, 0))] ([(z0, cZ .null z1 X.2.2), (z1, cQ cJ z2 z3), (z2, cA4 cI X.1), (z3, cA4 cI X.2.1), (q1, cA9 cI (X.2.2.1, X.2.2.2.1, 0, X.2.2.2.2.2.1, X.2.2.2.2.2.2.1, X.2.2.2.2.2.2.2.2.1, 0, 0, 0))]) rfl rfl rfl rfl (by decide) [z0, z1, z2, z3] rfl rfl rfl rfl 0 4 rfl rfl rfl (Nat.le_of_ble_eq_true rfl) ⟨Nat.le_of_ble_eq_true rfl, Nat.le_of_ble_eq_true rfl⟩ rfl dX4_counted_77 ?_
    generalize er4 : fX4_winner X = r4
    refine k_iast C [(z0, cZ .null z1 X.2.2), (z1, cQ cJ z2 z3), (z2, cA4 cI X.1), (z3, cA4 cI X.2.1), (q1, cA9 cI (X.2.2.1, X.2.2.2.1, 0, X.2.2.2.2.2.1, X.2.2.2.2.2.2.1, X.2.2.2.2.2.2.2.2.1, 0, r4, 0))] 4 rfl vi9_7 (ar9 (X.2.2.1, X.2.2.2.1, 0, X.2.2.2.2.2.1, X.2.2.2.2.2.2.1, X.2.2.2.2.2.2.2.2.1, 0, r4, 0)) (ar9_s7 _ _) rfl dX4_counted_80 ?_
    refine k_dup C rfl dX4_counted_81 ?_
    refine k_bipush C 8 (by decide) dX4_counted_82 ?_
    refine k_aload_n C dX4_counted_84 0 rfl ?_
    refine k_getX4 C 0 7 rfl (by decide) rfl q432 rfl dX4_counted_85 ?_
    refine k_iast C [(z0, cZ .null z1 X.2.2), (z1, cQ cJ z2 z3), (z2, cA4 cI X.1), (z3, cA4 cI X.2.1), (q1, cA9 cI (X.2.2.1, X.2.2.2.1, 0, X.2.2.2.2.2.1, X.2.2.2.2.2.2.1, X.2.2.2.2.2.2.2.2.1, 0, r4, X.2.2.2.2.2.2.2.1))] 4 rfl vi9_8 (ar9 (X.2.2.1, X.2.2.2.1, 0, X.2.2.2.2.2.1, X.2.2.2.2.2.2.1, X.2.2.2.2.2.2.2.2.1, 0, r4, X.2.2.2.2.2.2.2.1)) (ar9_s8 _ _) rfl dX4_counted_88 ?_
    refine k_astore_n C [(2, .ref q1), (0, .ref z0), (1, .int 4)] (by decide) rfl dX4_counted_89 ?_
    refine k_aload_n C dX4_counted_90 0 rfl ?_
    refine k_iload_n C dX4_counted_91 2 rfl ?_
    refine k_iald C 4 rfl vi9_4 (ar9_l4 _) dX4_counted_92 ?_
    have hL : fX4_counted_n4 X = X.2.2.2.2.2.2.1 := by subst er4; subst er2; exact (if_pos c3).trans rfl
    refine k_widen (k' := 1) (n' := 9) (Nat.le_of_ble_eq_true rfl) (Nat.le_of_ble_eq_true rfl) ?_
    refine k_wsub (w' := [(z0, cZ .null z1 X.2.2), (z1, cQ cJ z2 z3), (z2, cA4 cI X.1), (z3, cA4 cI X.2.1)]) [0, 1, 2, 3] rfl rfl ?_
    exact k_iretG C rfl (by rw [hL]; exact ⟨rfl, rfl⟩) dX4_counted_93
  ·
    refine k_iconst C 1 (by decide) dX4_counted_67 ?_
    refine k_goto C 72 (by decide) dX4_counted_68 ?_
    refine k_iast C [(z0, cZ .null z1 X.2.2), (z1, cQ cJ z2 z3), (z2, cA4 cI X.1), (z3, cA4 cI X.2.1), (q1, cA9 cI (X.2.2.1, X.2.2.2.1, 0, X.2.2.2.2.2.1, X.2.2.2.2.2.2.1, X.2.2.2.2.2.2.2.2.1, 1, 0, 0))] 4 rfl vi9_6 (ar9 (X.2.2.1, X.2.2.2.1, 0, X.2.2.2.2.2.1, X.2.2.2.2.2.2.1, X.2.2.2.2.2.2.2.2.1, 1, 0, 0)) (ar9_s6 _ _) rfl dX4_counted_72 ?_
    refine k_dup C rfl dX4_counted_73 ?_
    refine k_bipush C 7 (by decide) dX4_counted_74 ?_
    refine k_aload_n C dX4_counted_76 0 rfl ?_
    refine k_callV_i C (mX4_winner l D cI cJ z0 z1 z2 z3 .null X) (cwV 0 C.2.2.2.2.1 (kGV q479 q463 q464 q38 q465) rfl rfl rfl ⟨rfl, hdX4_winner⟩ ⟨Nat.le_of_ble_eq_true rfl, Nat.le_of_ble_eq_true rfl⟩) [0, 1, 2, 3] [4] [1, 2, 3, 4, 0] [(q1, cA9 cI (X.2.2.1, X.2.2.2.1, 0, X.2.2.2.2.2.1, X.2.2.2.2.2.2.1, X.2.2.2.2.2.2.2.2.1, 1, 0, 0))] ([(z0, cZ .null z1 X.2.2), (z1, cQ cJ z2 z3), (z2, cA4 cI X.1), (z3, cA4 cI X.2.1), (q1, cA9 cI (X.2.2.1, X.2.2.2.1, 0, X.2.2.2.2.2.1, X.2.2.2.2.2.2.1, X.2.2.2.2.2.2.2.2.1, 1, 0, 0))]) rfl rfl rfl rfl (by decide) [z0, z1, z2, z3] rfl rfl rfl rfl 0 4 rfl rfl rfl (Nat.le_of_ble_eq_true rfl) ⟨Nat.le_of_ble_eq_true rfl, Nat.le_of_ble_eq_true rfl⟩ rfl dX4_counted_77 ?_
    generalize er5 : fX4_winner X = r5
    refine k_iast C [(z0, cZ .null z1 X.2.2), (z1, cQ cJ z2 z3), (z2, cA4 cI X.1), (z3, cA4 cI X.2.1), (q1, cA9 cI (X.2.2.1, X.2.2.2.1, 0, X.2.2.2.2.2.1, X.2.2.2.2.2.2.1, X.2.2.2.2.2.2.2.2.1, 1, r5, 0))] 4 rfl vi9_7 (ar9 (X.2.2.1, X.2.2.2.1, 0, X.2.2.2.2.2.1, X.2.2.2.2.2.2.1, X.2.2.2.2.2.2.2.2.1, 1, r5, 0)) (ar9_s7 _ _) rfl dX4_counted_80 ?_
    refine k_dup C rfl dX4_counted_81 ?_
    refine k_bipush C 8 (by decide) dX4_counted_82 ?_
    refine k_aload_n C dX4_counted_84 0 rfl ?_
    refine k_getX4 C 0 7 rfl (by decide) rfl q432 rfl dX4_counted_85 ?_
    refine k_iast C [(z0, cZ .null z1 X.2.2), (z1, cQ cJ z2 z3), (z2, cA4 cI X.1), (z3, cA4 cI X.2.1), (q1, cA9 cI (X.2.2.1, X.2.2.2.1, 0, X.2.2.2.2.2.1, X.2.2.2.2.2.2.1, X.2.2.2.2.2.2.2.2.1, 1, r5, X.2.2.2.2.2.2.2.1))] 4 rfl vi9_8 (ar9 (X.2.2.1, X.2.2.2.1, 0, X.2.2.2.2.2.1, X.2.2.2.2.2.2.1, X.2.2.2.2.2.2.2.2.1, 1, r5, X.2.2.2.2.2.2.2.1)) (ar9_s8 _ _) rfl dX4_counted_88 ?_
    refine k_astore_n C [(2, .ref q1), (0, .ref z0), (1, .int 4)] (by decide) rfl dX4_counted_89 ?_
    refine k_aload_n C dX4_counted_90 0 rfl ?_
    refine k_iload_n C dX4_counted_91 2 rfl ?_
    refine k_iald C 4 rfl vi9_4 (ar9_l4 _) dX4_counted_92 ?_
    have hL : fX4_counted_n4 X = X.2.2.2.2.2.2.1 := by subst er5; subst er2; exact (if_neg c3).trans rfl
    refine k_widen (k' := 1) (n' := 9) (Nat.le_of_ble_eq_true rfl) (Nat.le_of_ble_eq_true rfl) ?_
    refine k_wsub (w' := [(z0, cZ .null z1 X.2.2), (z1, cQ cJ z2 z3), (z2, cA4 cI X.1), (z3, cA4 cI X.2.1)]) [0, 1, 2, 3] rfl rfl ?_
    exact k_iretG C rfl (by rw [hL]; exact ⟨rfl, rfl⟩) dX4_counted_93

noncomputable def fX4_counted_r4 (X : Zs) (b : Lb) : Int32 :=
  if (fX4_canSet_r X b) = 0 then X.2.2.2.2.2.2.1
  else X.2.2.2.2.2.2.1
set_option maxHeartbeats 4000000 in
set_option maxRecDepth 100000 in
theorem mX4_counted_r4 (l : Launch) (D : va_G) (cI cJ : ClassId) (z0 z1 z2 z3 z4 : Nat) (X : Zs) (b : Lb) : kGi l D cI cJ yX4_counted (.code yX4_counted cX4_counted 3 (some .int)) { frames := 1, cells := 1, slots := 9, locals := 20 } [.ref z0, .int 4] [(z0, cZ (.ref z4) z1 X.2.2), (z1, cQ cJ z2 z3), (z2, cA4 cI X.1), (z3, cA4 cI X.2.1), (z4, cL b)] 1 9 (fun r U => r = fX4_counted_r4 X b ∧ U = [(z0, cZ (.ref z4) z1 X.2.2), (z1, cQ cJ z2 z3), (z2, cA4 cI X.1), (z3, cA4 cI X.2.1), (z4, cL b)]) := by
  refine fun sz => k_ofN (lv := [(0, .ref z0), (1, .int 4)]) (by decide) sz (Nat.le_of_ble_eq_true rfl) rfl ?_
  intro p e s m args below meth c hsz hnm C
  refine k_bipush C 9 (by decide) dX4_counted_0 ?_
  refine k_newI C 9 (ar9 (0, 0, 0, 0, 0, 0, 0, 0, 0)) zf9 (by decide) (by decide) (by decide) (Nat.le_of_ble_eq_true rfl) (Nat.le_of_ble_eq_true rfl) dX4_counted_2 (fun q1 => ?_)
  refine k_dup C rfl dX4_counted_4 ?_
  refine k_iconst C 0 (by decide) dX4_counted_5 ?_
  refine k_aload_n C dX4_counted_6 0 rfl ?_
  refine k_getX4 C 0 0 rfl (by decide) rfl q423 rfl dX4_counted_7 ?_
  refine k_iast C [(z0, cZ (.ref z4) z1 X.2.2), (z1, cQ cJ z2 z3), (z2, cA4 cI X.1), (z3, cA4 cI X.2.1), (z4, cL b), (q1, cA9 cI (X.2.2.1, 0, 0, 0, 0, 0, 0, 0, 0))] 5 rfl vi9_0 (ar9 (X.2.2.1, 0, 0, 0, 0, 0, 0, 0, 0)) (ar9_s0 _ _) rfl dX4_counted_10 ?_
  refine k_dup C rfl dX4_counted_11 ?_
  refine k_iconst C 1 (by decide) dX4_counted_12 ?_
  refine k_aload_n C dX4_counted_13 0 rfl ?_
  refine k_getX4 C 0 1 rfl (by decide) rfl q424 rfl dX4_counted_14 ?_
  refine k_iast C [(z0, cZ (.ref z4) z1 X.2.2), (z1, cQ cJ z2 z3), (z2, cA4 cI X.1), (z3, cA4 cI X.2.1), (z4, cL b), (q1, cA9 cI (X.2.2.1, X.2.2.2.1, 0, 0, 0, 0, 0, 0, 0))] 5 rfl vi9_1 (ar9 (X.2.2.1, X.2.2.2.1, 0, 0, 0, 0, 0, 0, 0)) (ar9_s1 _ _) rfl dX4_counted_17 ?_
  refine k_dup C rfl dX4_counted_18 ?_
  refine k_iconst C 2 (by decide) dX4_counted_19 ?_
  refine k_aload_n C dX4_counted_20 0 rfl ?_
  refine k_getX4 C 0 3 rfl (by decide) rfl q426 rfl dX4_counted_21 ?_
  refine k_ifnonnull C 31 (by decide) dX4_counted_24 ?_
  refine k_aload_n C dX4_counted_31 0 rfl ?_
  refine k_getX4 C 0 2 rfl (by decide) rfl q425 rfl dX4_counted_32 ?_
  refine k_iast C [(z0, cZ (.ref z4) z1 X.2.2), (z1, cQ cJ z2 z3), (z2, cA4 cI X.1), (z3, cA4 cI X.2.1), (z4, cL b), (q1, cA9 cI (X.2.2.1, X.2.2.2.1, X.2.2.2.2.1, 0, 0, 0, 0, 0, 0))] 5 rfl vi9_2 (ar9 (X.2.2.1, X.2.2.2.1, X.2.2.2.2.1, 0, 0, 0, 0, 0, 0)) (ar9_s2 _ _) rfl dX4_counted_35 ?_
  refine k_dup C rfl dX4_counted_36 ?_
  refine k_iconst C 3 (by decide) dX4_counted_37 ?_
  refine k_aload_n C dX4_counted_38 0 rfl ?_
  refine k_getX4 C 0 5 rfl (by decide) rfl q430 rfl dX4_counted_39 ?_
  refine k_iast C [(z0, cZ (.ref z4) z1 X.2.2), (z1, cQ cJ z2 z3), (z2, cA4 cI X.1), (z3, cA4 cI X.2.1), (z4, cL b), (q1, cA9 cI (X.2.2.1, X.2.2.2.1, X.2.2.2.2.1, X.2.2.2.2.2.1, 0, 0, 0, 0, 0))] 5 rfl vi9_3 (ar9 (X.2.2.1, X.2.2.2.1, X.2.2.2.2.1, X.2.2.2.2.2.1, 0, 0, 0, 0, 0)) (ar9_s3 _ _) rfl dX4_counted_42 ?_
  refine k_dup C rfl dX4_counted_43 ?_
  refine k_iconst C 4 (by decide) dX4_counted_44 ?_
  refine k_aload_n C dX4_counted_45 0 rfl ?_
  refine k_getX4 C 0 6 rfl (by decide) rfl q431 rfl dX4_counted_46 ?_
  refine k_iast C [(z0, cZ (.ref z4) z1 X.2.2), (z1, cQ cJ z2 z3), (z2, cA4 cI X.1), (z3, cA4 cI X.2.1), (z4, cL b), (q1, cA9 cI (X.2.2.1, X.2.2.2.1, X.2.2.2.2.1, X.2.2.2.2.2.1, X.2.2.2.2.2.2.1, 0, 0, 0, 0))] 5 rfl vi9_4 (ar9 (X.2.2.1, X.2.2.2.1, X.2.2.2.2.1, X.2.2.2.2.2.1, X.2.2.2.2.2.2.1, 0, 0, 0, 0)) (ar9_s4 _ _) rfl dX4_counted_49 ?_
  refine k_dup C rfl dX4_counted_50 ?_
  refine k_iconst C 5 (by decide) dX4_counted_51 ?_
  refine k_aload_n C dX4_counted_52 0 rfl ?_
  refine k_getX4 C 0 8 rfl (by decide) rfl q433 rfl dX4_counted_53 ?_
  refine k_iast C [(z0, cZ (.ref z4) z1 X.2.2), (z1, cQ cJ z2 z3), (z2, cA4 cI X.1), (z3, cA4 cI X.2.1), (z4, cL b), (q1, cA9 cI (X.2.2.1, X.2.2.2.1, X.2.2.2.2.1, X.2.2.2.2.2.1, X.2.2.2.2.2.2.1, X.2.2.2.2.2.2.2.2.1, 0, 0, 0))] 5 rfl vi9_5 (ar9 (X.2.2.1, X.2.2.2.1, X.2.2.2.2.1, X.2.2.2.2.2.1, X.2.2.2.2.2.2.1, X.2.2.2.2.2.2.2.2.1, 0, 0, 0)) (ar9_s5 _ _) rfl dX4_counted_56 ?_
  refine k_dup C rfl dX4_counted_57 ?_
  refine k_bipush C 6 (by decide) dX4_counted_58 ?_
  refine k_aload_n C dX4_counted_60 0 rfl ?_
  refine k_callV_i C (mX4_canSet_r l D cI cJ z0 z1 z2 z3 z4 X b) (cwV 0 C.2.2.2.2.1 (kGV q475 q476 q477 q38 q478) rfl rfl rfl ⟨rfl, hdX4_canSet⟩ ⟨Nat.le_of_ble_eq_true rfl, Nat.le_of_ble_eq_true rfl⟩) [0, 1, 2, 3, 4] [5] [1, 2, 3, 4, 5, 0] [(q1, cA9 cI (X.2.2.1, X.2.2.2.1, X.2.2.2.2.1, X.2.2.2.2.2.1, X.2.2.2.2.2.2.1, X.2.2.2.2.2.2.2.2.1, 0, 0, 0))] ([(z0, cZ (.ref z4) z1 X.2.2), (z1, cQ cJ z2 z3), (z2, cA4 cI X.1), (z3, cA4 cI X.2.1), (z4, cL b), (q1, cA9 cI (X.2.2.1, X.2.2.2.1, X.2.2.2.2.1, X.2.2.2.2.2.1, X.2.2.2.2.2.2.1, X.2.2.2.2.2.2.2.2.1, 0, 0, 0))]) rfl rfl rfl rfl (by decide) [z0, z1, z2, z3, z4] rfl rfl rfl rfl 0 4 rfl rfl rfl (Nat.le_of_ble_eq_true rfl) ⟨Nat.le_of_ble_eq_true rfl, Nat.le_of_ble_eq_true rfl⟩ rfl dX4_counted_61 ?_
  generalize er2 : fX4_canSet_r X b = r2
  refine k_if_eq C 71 (by decide) dX4_counted_64 (fun c3 => ?_) (fun c3 => ?_)
  ·
    refine k_iconst C 0 (by decide) dX4_counted_71 ?_
    refine k_iast C [(z0, cZ (.ref z4) z1 X.2.2), (z1, cQ cJ z2 z3), (z2, cA4 cI X.1), (z3, cA4 cI X.2.1), (z4, cL b), (q1, cA9 cI (X.2.2.1, X.2.2.2.1, X.2.2.2.2.1, X.2.2.2.2.2.1, X.2.2.2.2.2.2.1, X.2.2.2.2.2.2.2.2.1, 0, 0, 0))] 5 rfl vi9_6 (ar9 (X.2.2.1, X.2.2.2.1, X.2.2.2.2.1, X.2.2.2.2.2.1, X.2.2.2.2.2.2.1, X.2.2.2.2.2.2.2.2.1, 0, 0, 0)) (ar9_s6 _ _) rfl dX4_counted_72 ?_
    refine k_dup C rfl dX4_counted_73 ?_
    refine k_bipush C 7 (by decide) dX4_counted_74 ?_
    refine k_aload_n C dX4_counted_76 0 rfl ?_
    refine k_callV_i C (mX4_winner l D cI cJ z0 z1 z2 z3 (.ref z4) X) (cwV 0 C.2.2.2.2.1 (kGV q479 q463 q464 q38 q465) rfl rfl rfl ⟨rfl, hdX4_winner⟩ ⟨Nat.le_of_ble_eq_true rfl, Nat.le_of_ble_eq_true rfl⟩) [0, 1, 2, 3] [4, 5] [2, 3, 4, 5, 0, 1] [(z4, cL b), (q1, cA9 cI (X.2.2.1, X.2.2.2.1, X.2.2.2.2.1, X.2.2.2.2.2.1, X.2.2.2.2.2.2.1, X.2.2.2.2.2.2.2.2.1, 0, 0, 0))] ([(z0, cZ (.ref z4) z1 X.2.2), (z1, cQ cJ z2 z3), (z2, cA4 cI X.1), (z3, cA4 cI X.2.1), (z4, cL b), (q1, cA9 cI (X.2.2.1, X.2.2.2.1, X.2.2.2.2.1, X.2.2.2.2.2.1, X.2.2.2.2.2.2.1, X.2.2.2.2.2.2.2.2.1, 0, 0, 0))]) rfl rfl rfl rfl (by decide) [z0, z1, z2, z3] rfl rfl rfl rfl 0 4 rfl rfl rfl (Nat.le_of_ble_eq_true rfl) ⟨Nat.le_of_ble_eq_true rfl, Nat.le_of_ble_eq_true rfl⟩ rfl dX4_counted_77 ?_
    generalize er4 : fX4_winner X = r4
    refine k_iast C [(z0, cZ (.ref z4) z1 X.2.2), (z1, cQ cJ z2 z3), (z2, cA4 cI X.1), (z3, cA4 cI X.2.1), (z4, cL b), (q1, cA9 cI (X.2.2.1, X.2.2.2.1, X.2.2.2.2.1, X.2.2.2.2.2.1, X.2.2.2.2.2.2.1, X.2.2.2.2.2.2.2.2.1, 0, r4, 0))] 5 rfl vi9_7 (ar9 (X.2.2.1, X.2.2.2.1, X.2.2.2.2.1, X.2.2.2.2.2.1, X.2.2.2.2.2.2.1, X.2.2.2.2.2.2.2.2.1, 0, r4, 0)) (ar9_s7 _ _) rfl dX4_counted_80 ?_
    refine k_dup C rfl dX4_counted_81 ?_
    refine k_bipush C 8 (by decide) dX4_counted_82 ?_
    refine k_aload_n C dX4_counted_84 0 rfl ?_
    refine k_getX4 C 0 7 rfl (by decide) rfl q432 rfl dX4_counted_85 ?_
    refine k_iast C [(z0, cZ (.ref z4) z1 X.2.2), (z1, cQ cJ z2 z3), (z2, cA4 cI X.1), (z3, cA4 cI X.2.1), (z4, cL b), (q1, cA9 cI (X.2.2.1, X.2.2.2.1, X.2.2.2.2.1, X.2.2.2.2.2.1, X.2.2.2.2.2.2.1, X.2.2.2.2.2.2.2.2.1, 0, r4, X.2.2.2.2.2.2.2.1))] 5 rfl vi9_8 (ar9 (X.2.2.1, X.2.2.2.1, X.2.2.2.2.1, X.2.2.2.2.2.1, X.2.2.2.2.2.2.1, X.2.2.2.2.2.2.2.2.1, 0, r4, X.2.2.2.2.2.2.2.1)) (ar9_s8 _ _) rfl dX4_counted_88 ?_
    refine k_astore_n C [(2, .ref q1), (0, .ref z0), (1, .int 4)] (by decide) rfl dX4_counted_89 ?_
    refine k_aload_n C dX4_counted_90 0 rfl ?_
    refine k_iload_n C dX4_counted_91 2 rfl ?_
    refine k_iald C 5 rfl vi9_4 (ar9_l4 _) dX4_counted_92 ?_
    have hL : fX4_counted_r4 X b = X.2.2.2.2.2.2.1 := by subst er4; subst er2; exact (if_pos c3).trans rfl
    refine k_widen (k' := 1) (n' := 9) (Nat.le_of_ble_eq_true rfl) (Nat.le_of_ble_eq_true rfl) ?_
    refine k_wsub (w' := [(z0, cZ (.ref z4) z1 X.2.2), (z1, cQ cJ z2 z3), (z2, cA4 cI X.1), (z3, cA4 cI X.2.1), (z4, cL b)]) [0, 1, 2, 3, 4] rfl rfl ?_
    exact k_iretG C rfl (by rw [hL]; exact ⟨rfl, rfl⟩) dX4_counted_93
  ·
    refine k_iconst C 1 (by decide) dX4_counted_67 ?_
    refine k_goto C 72 (by decide) dX4_counted_68 ?_
    refine k_iast C [(z0, cZ (.ref z4) z1 X.2.2), (z1, cQ cJ z2 z3), (z2, cA4 cI X.1), (z3, cA4 cI X.2.1), (z4, cL b), (q1, cA9 cI (X.2.2.1, X.2.2.2.1, X.2.2.2.2.1, X.2.2.2.2.2.1, X.2.2.2.2.2.2.1, X.2.2.2.2.2.2.2.2.1, 1, 0, 0))] 5 rfl vi9_6 (ar9 (X.2.2.1, X.2.2.2.1, X.2.2.2.2.1, X.2.2.2.2.2.1, X.2.2.2.2.2.2.1, X.2.2.2.2.2.2.2.2.1, 1, 0, 0)) (ar9_s6 _ _) rfl dX4_counted_72 ?_
    refine k_dup C rfl dX4_counted_73 ?_
    refine k_bipush C 7 (by decide) dX4_counted_74 ?_
    refine k_aload_n C dX4_counted_76 0 rfl ?_
    refine k_callV_i C (mX4_winner l D cI cJ z0 z1 z2 z3 (.ref z4) X) (cwV 0 C.2.2.2.2.1 (kGV q479 q463 q464 q38 q465) rfl rfl rfl ⟨rfl, hdX4_winner⟩ ⟨Nat.le_of_ble_eq_true rfl, Nat.le_of_ble_eq_true rfl⟩) [0, 1, 2, 3] [4, 5] [2, 3, 4, 5, 0, 1] [(z4, cL b), (q1, cA9 cI (X.2.2.1, X.2.2.2.1, X.2.2.2.2.1, X.2.2.2.2.2.1, X.2.2.2.2.2.2.1, X.2.2.2.2.2.2.2.2.1, 1, 0, 0))] ([(z0, cZ (.ref z4) z1 X.2.2), (z1, cQ cJ z2 z3), (z2, cA4 cI X.1), (z3, cA4 cI X.2.1), (z4, cL b), (q1, cA9 cI (X.2.2.1, X.2.2.2.1, X.2.2.2.2.1, X.2.2.2.2.2.1, X.2.2.2.2.2.2.1, X.2.2.2.2.2.2.2.2.1, 1, 0, 0))]) rfl rfl rfl rfl (by decide) [z0, z1, z2, z3] rfl rfl rfl rfl 0 4 rfl rfl rfl (Nat.le_of_ble_eq_true rfl) ⟨Nat.le_of_ble_eq_true rfl, Nat.le_of_ble_eq_true rfl⟩ rfl dX4_counted_77 ?_
    generalize er5 : fX4_winner X = r5
    refine k_iast C [(z0, cZ (.ref z4) z1 X.2.2), (z1, cQ cJ z2 z3), (z2, cA4 cI X.1), (z3, cA4 cI X.2.1), (z4, cL b), (q1, cA9 cI (X.2.2.1, X.2.2.2.1, X.2.2.2.2.1, X.2.2.2.2.2.1, X.2.2.2.2.2.2.1, X.2.2.2.2.2.2.2.2.1, 1, r5, 0))] 5 rfl vi9_7 (ar9 (X.2.2.1, X.2.2.2.1, X.2.2.2.2.1, X.2.2.2.2.2.1, X.2.2.2.2.2.2.1, X.2.2.2.2.2.2.2.2.1, 1, r5, 0)) (ar9_s7 _ _) rfl dX4_counted_80 ?_
    refine k_dup C rfl dX4_counted_81 ?_
    refine k_bipush C 8 (by decide) dX4_counted_82 ?_
    refine k_aload_n C dX4_counted_84 0 rfl ?_
    refine k_getX4 C 0 7 rfl (by decide) rfl q432 rfl dX4_counted_85 ?_
    refine k_iast C [(z0, cZ (.ref z4) z1 X.2.2), (z1, cQ cJ z2 z3), (z2, cA4 cI X.1), (z3, cA4 cI X.2.1), (z4, cL b), (q1, cA9 cI (X.2.2.1, X.2.2.2.1, X.2.2.2.2.1, X.2.2.2.2.2.1, X.2.2.2.2.2.2.1, X.2.2.2.2.2.2.2.2.1, 1, r5, X.2.2.2.2.2.2.2.1))] 5 rfl vi9_8 (ar9 (X.2.2.1, X.2.2.2.1, X.2.2.2.2.1, X.2.2.2.2.2.1, X.2.2.2.2.2.2.1, X.2.2.2.2.2.2.2.2.1, 1, r5, X.2.2.2.2.2.2.2.1)) (ar9_s8 _ _) rfl dX4_counted_88 ?_
    refine k_astore_n C [(2, .ref q1), (0, .ref z0), (1, .int 4)] (by decide) rfl dX4_counted_89 ?_
    refine k_aload_n C dX4_counted_90 0 rfl ?_
    refine k_iload_n C dX4_counted_91 2 rfl ?_
    refine k_iald C 5 rfl vi9_4 (ar9_l4 _) dX4_counted_92 ?_
    have hL : fX4_counted_r4 X b = X.2.2.2.2.2.2.1 := by subst er5; subst er2; exact (if_neg c3).trans rfl
    refine k_widen (k' := 1) (n' := 9) (Nat.le_of_ble_eq_true rfl) (Nat.le_of_ble_eq_true rfl) ?_
    refine k_wsub (w' := [(z0, cZ (.ref z4) z1 X.2.2), (z1, cQ cJ z2 z3), (z2, cA4 cI X.1), (z3, cA4 cI X.2.1), (z4, cL b)]) [0, 1, 2, 3, 4] rfl rfl ?_
    exact k_iretG C rfl (by rw [hL]; exact ⟨rfl, rfl⟩) dX4_counted_93

noncomputable def fX4_counted_n5 (X : Zs) : Int32 :=
  if (fX4_canSet_n X) = 0 then X.2.2.2.2.2.2.2.2.1
  else X.2.2.2.2.2.2.2.2.1
set_option maxHeartbeats 4000000 in
set_option maxRecDepth 100000 in
theorem mX4_counted_n5 (l : Launch) (D : va_G) (cI cJ : ClassId) (z0 z1 z2 z3 : Nat) (X : Zs) : kGi l D cI cJ yX4_counted (.code yX4_counted cX4_counted 3 (some .int)) { frames := 1, cells := 1, slots := 9, locals := 20 } [.ref z0, .int 5] [(z0, cZ .null z1 X.2.2), (z1, cQ cJ z2 z3), (z2, cA4 cI X.1), (z3, cA4 cI X.2.1)] 1 9 (fun r U => r = fX4_counted_n5 X ∧ U = [(z0, cZ .null z1 X.2.2), (z1, cQ cJ z2 z3), (z2, cA4 cI X.1), (z3, cA4 cI X.2.1)]) := by
  refine fun sz => k_ofN (lv := [(0, .ref z0), (1, .int 5)]) (by decide) sz (Nat.le_of_ble_eq_true rfl) rfl ?_
  intro p e s m args below meth c hsz hnm C
  refine k_bipush C 9 (by decide) dX4_counted_0 ?_
  refine k_newI C 9 (ar9 (0, 0, 0, 0, 0, 0, 0, 0, 0)) zf9 (by decide) (by decide) (by decide) (Nat.le_of_ble_eq_true rfl) (Nat.le_of_ble_eq_true rfl) dX4_counted_2 (fun q1 => ?_)
  refine k_dup C rfl dX4_counted_4 ?_
  refine k_iconst C 0 (by decide) dX4_counted_5 ?_
  refine k_aload_n C dX4_counted_6 0 rfl ?_
  refine k_getX4 C 0 0 rfl (by decide) rfl q423 rfl dX4_counted_7 ?_
  refine k_iast C [(z0, cZ .null z1 X.2.2), (z1, cQ cJ z2 z3), (z2, cA4 cI X.1), (z3, cA4 cI X.2.1), (q1, cA9 cI (X.2.2.1, 0, 0, 0, 0, 0, 0, 0, 0))] 4 rfl vi9_0 (ar9 (X.2.2.1, 0, 0, 0, 0, 0, 0, 0, 0)) (ar9_s0 _ _) rfl dX4_counted_10 ?_
  refine k_dup C rfl dX4_counted_11 ?_
  refine k_iconst C 1 (by decide) dX4_counted_12 ?_
  refine k_aload_n C dX4_counted_13 0 rfl ?_
  refine k_getX4 C 0 1 rfl (by decide) rfl q424 rfl dX4_counted_14 ?_
  refine k_iast C [(z0, cZ .null z1 X.2.2), (z1, cQ cJ z2 z3), (z2, cA4 cI X.1), (z3, cA4 cI X.2.1), (q1, cA9 cI (X.2.2.1, X.2.2.2.1, 0, 0, 0, 0, 0, 0, 0))] 4 rfl vi9_1 (ar9 (X.2.2.1, X.2.2.2.1, 0, 0, 0, 0, 0, 0, 0)) (ar9_s1 _ _) rfl dX4_counted_17 ?_
  refine k_dup C rfl dX4_counted_18 ?_
  refine k_iconst C 2 (by decide) dX4_counted_19 ?_
  refine k_aload_n C dX4_counted_20 0 rfl ?_
  refine k_getX4 C 0 3 rfl (by decide) rfl q426 rfl dX4_counted_21 ?_
  refine k_ifnonnullN C dX4_counted_24 ?_
  refine k_iconst C 0 (by decide) dX4_counted_27 ?_
  refine k_goto C 35 (by decide) dX4_counted_28 ?_
  refine k_iast C [(z0, cZ .null z1 X.2.2), (z1, cQ cJ z2 z3), (z2, cA4 cI X.1), (z3, cA4 cI X.2.1), (q1, cA9 cI (X.2.2.1, X.2.2.2.1, 0, 0, 0, 0, 0, 0, 0))] 4 rfl vi9_2 (ar9 (X.2.2.1, X.2.2.2.1, 0, 0, 0, 0, 0, 0, 0)) (ar9_s2 _ _) rfl dX4_counted_35 ?_
  refine k_dup C rfl dX4_counted_36 ?_
  refine k_iconst C 3 (by decide) dX4_counted_37 ?_
  refine k_aload_n C dX4_counted_38 0 rfl ?_
  refine k_getX4 C 0 5 rfl (by decide) rfl q430 rfl dX4_counted_39 ?_
  refine k_iast C [(z0, cZ .null z1 X.2.2), (z1, cQ cJ z2 z3), (z2, cA4 cI X.1), (z3, cA4 cI X.2.1), (q1, cA9 cI (X.2.2.1, X.2.2.2.1, 0, X.2.2.2.2.2.1, 0, 0, 0, 0, 0))] 4 rfl vi9_3 (ar9 (X.2.2.1, X.2.2.2.1, 0, X.2.2.2.2.2.1, 0, 0, 0, 0, 0)) (ar9_s3 _ _) rfl dX4_counted_42 ?_
  refine k_dup C rfl dX4_counted_43 ?_
  refine k_iconst C 4 (by decide) dX4_counted_44 ?_
  refine k_aload_n C dX4_counted_45 0 rfl ?_
  refine k_getX4 C 0 6 rfl (by decide) rfl q431 rfl dX4_counted_46 ?_
  refine k_iast C [(z0, cZ .null z1 X.2.2), (z1, cQ cJ z2 z3), (z2, cA4 cI X.1), (z3, cA4 cI X.2.1), (q1, cA9 cI (X.2.2.1, X.2.2.2.1, 0, X.2.2.2.2.2.1, X.2.2.2.2.2.2.1, 0, 0, 0, 0))] 4 rfl vi9_4 (ar9 (X.2.2.1, X.2.2.2.1, 0, X.2.2.2.2.2.1, X.2.2.2.2.2.2.1, 0, 0, 0, 0)) (ar9_s4 _ _) rfl dX4_counted_49 ?_
  refine k_dup C rfl dX4_counted_50 ?_
  refine k_iconst C 5 (by decide) dX4_counted_51 ?_
  refine k_aload_n C dX4_counted_52 0 rfl ?_
  refine k_getX4 C 0 8 rfl (by decide) rfl q433 rfl dX4_counted_53 ?_
  refine k_iast C [(z0, cZ .null z1 X.2.2), (z1, cQ cJ z2 z3), (z2, cA4 cI X.1), (z3, cA4 cI X.2.1), (q1, cA9 cI (X.2.2.1, X.2.2.2.1, 0, X.2.2.2.2.2.1, X.2.2.2.2.2.2.1, X.2.2.2.2.2.2.2.2.1, 0, 0, 0))] 4 rfl vi9_5 (ar9 (X.2.2.1, X.2.2.2.1, 0, X.2.2.2.2.2.1, X.2.2.2.2.2.2.1, X.2.2.2.2.2.2.2.2.1, 0, 0, 0)) (ar9_s5 _ _) rfl dX4_counted_56 ?_
  refine k_dup C rfl dX4_counted_57 ?_
  refine k_bipush C 6 (by decide) dX4_counted_58 ?_
  refine k_aload_n C dX4_counted_60 0 rfl ?_
  refine k_callV_i C (mX4_canSet_n l D cI cJ z0 z1 z2 z3 X) (cwV 0 C.2.2.2.2.1 (kGV q475 q476 q477 q38 q478) rfl rfl rfl ⟨rfl, hdX4_canSet⟩ ⟨Nat.le_of_ble_eq_true rfl, Nat.le_of_ble_eq_true rfl⟩) [0, 1, 2, 3] [4] [1, 2, 3, 4, 0] [(q1, cA9 cI (X.2.2.1, X.2.2.2.1, 0, X.2.2.2.2.2.1, X.2.2.2.2.2.2.1, X.2.2.2.2.2.2.2.2.1, 0, 0, 0))] ([(z0, cZ .null z1 X.2.2), (z1, cQ cJ z2 z3), (z2, cA4 cI X.1), (z3, cA4 cI X.2.1), (q1, cA9 cI (X.2.2.1, X.2.2.2.1, 0, X.2.2.2.2.2.1, X.2.2.2.2.2.2.1, X.2.2.2.2.2.2.2.2.1, 0, 0, 0))]) rfl rfl rfl rfl (by decide) [z0, z1, z2, z3] rfl rfl rfl rfl 0 4 rfl rfl rfl (Nat.le_of_ble_eq_true rfl) ⟨Nat.le_of_ble_eq_true rfl, Nat.le_of_ble_eq_true rfl⟩ rfl dX4_counted_61 ?_
  generalize er2 : fX4_canSet_n X = r2
  refine k_if_eq C 71 (by decide) dX4_counted_64 (fun c3 => ?_) (fun c3 => ?_)
  ·
    refine k_iconst C 0 (by decide) dX4_counted_71 ?_
    refine k_iast C [(z0, cZ .null z1 X.2.2), (z1, cQ cJ z2 z3), (z2, cA4 cI X.1), (z3, cA4 cI X.2.1), (q1, cA9 cI (X.2.2.1, X.2.2.2.1, 0, X.2.2.2.2.2.1, X.2.2.2.2.2.2.1, X.2.2.2.2.2.2.2.2.1, 0, 0, 0))] 4 rfl vi9_6 (ar9 (X.2.2.1, X.2.2.2.1, 0, X.2.2.2.2.2.1, X.2.2.2.2.2.2.1, X.2.2.2.2.2.2.2.2.1, 0, 0, 0)) (ar9_s6 _ _) rfl dX4_counted_72 ?_
    refine k_dup C rfl dX4_counted_73 ?_
    refine k_bipush C 7 (by decide) dX4_counted_74 ?_
    refine k_aload_n C dX4_counted_76 0 rfl ?_
    refine k_callV_i C (mX4_winner l D cI cJ z0 z1 z2 z3 .null X) (cwV 0 C.2.2.2.2.1 (kGV q479 q463 q464 q38 q465) rfl rfl rfl ⟨rfl, hdX4_winner⟩ ⟨Nat.le_of_ble_eq_true rfl, Nat.le_of_ble_eq_true rfl⟩) [0, 1, 2, 3] [4] [1, 2, 3, 4, 0] [(q1, cA9 cI (X.2.2.1, X.2.2.2.1, 0, X.2.2.2.2.2.1, X.2.2.2.2.2.2.1, X.2.2.2.2.2.2.2.2.1, 0, 0, 0))] ([(z0, cZ .null z1 X.2.2), (z1, cQ cJ z2 z3), (z2, cA4 cI X.1), (z3, cA4 cI X.2.1), (q1, cA9 cI (X.2.2.1, X.2.2.2.1, 0, X.2.2.2.2.2.1, X.2.2.2.2.2.2.1, X.2.2.2.2.2.2.2.2.1, 0, 0, 0))]) rfl rfl rfl rfl (by decide) [z0, z1, z2, z3] rfl rfl rfl rfl 0 4 rfl rfl rfl (Nat.le_of_ble_eq_true rfl) ⟨Nat.le_of_ble_eq_true rfl, Nat.le_of_ble_eq_true rfl⟩ rfl dX4_counted_77 ?_
    generalize er4 : fX4_winner X = r4
    refine k_iast C [(z0, cZ .null z1 X.2.2), (z1, cQ cJ z2 z3), (z2, cA4 cI X.1), (z3, cA4 cI X.2.1), (q1, cA9 cI (X.2.2.1, X.2.2.2.1, 0, X.2.2.2.2.2.1, X.2.2.2.2.2.2.1, X.2.2.2.2.2.2.2.2.1, 0, r4, 0))] 4 rfl vi9_7 (ar9 (X.2.2.1, X.2.2.2.1, 0, X.2.2.2.2.2.1, X.2.2.2.2.2.2.1, X.2.2.2.2.2.2.2.2.1, 0, r4, 0)) (ar9_s7 _ _) rfl dX4_counted_80 ?_
    refine k_dup C rfl dX4_counted_81 ?_
    refine k_bipush C 8 (by decide) dX4_counted_82 ?_
    refine k_aload_n C dX4_counted_84 0 rfl ?_
    refine k_getX4 C 0 7 rfl (by decide) rfl q432 rfl dX4_counted_85 ?_
    refine k_iast C [(z0, cZ .null z1 X.2.2), (z1, cQ cJ z2 z3), (z2, cA4 cI X.1), (z3, cA4 cI X.2.1), (q1, cA9 cI (X.2.2.1, X.2.2.2.1, 0, X.2.2.2.2.2.1, X.2.2.2.2.2.2.1, X.2.2.2.2.2.2.2.2.1, 0, r4, X.2.2.2.2.2.2.2.1))] 4 rfl vi9_8 (ar9 (X.2.2.1, X.2.2.2.1, 0, X.2.2.2.2.2.1, X.2.2.2.2.2.2.1, X.2.2.2.2.2.2.2.2.1, 0, r4, X.2.2.2.2.2.2.2.1)) (ar9_s8 _ _) rfl dX4_counted_88 ?_
    refine k_astore_n C [(2, .ref q1), (0, .ref z0), (1, .int 5)] (by decide) rfl dX4_counted_89 ?_
    refine k_aload_n C dX4_counted_90 0 rfl ?_
    refine k_iload_n C dX4_counted_91 2 rfl ?_
    refine k_iald C 4 rfl vi9_5 (ar9_l5 _) dX4_counted_92 ?_
    have hL : fX4_counted_n5 X = X.2.2.2.2.2.2.2.2.1 := by subst er4; subst er2; exact (if_pos c3).trans rfl
    refine k_widen (k' := 1) (n' := 9) (Nat.le_of_ble_eq_true rfl) (Nat.le_of_ble_eq_true rfl) ?_
    refine k_wsub (w' := [(z0, cZ .null z1 X.2.2), (z1, cQ cJ z2 z3), (z2, cA4 cI X.1), (z3, cA4 cI X.2.1)]) [0, 1, 2, 3] rfl rfl ?_
    exact k_iretG C rfl (by rw [hL]; exact ⟨rfl, rfl⟩) dX4_counted_93
  ·
    refine k_iconst C 1 (by decide) dX4_counted_67 ?_
    refine k_goto C 72 (by decide) dX4_counted_68 ?_
    refine k_iast C [(z0, cZ .null z1 X.2.2), (z1, cQ cJ z2 z3), (z2, cA4 cI X.1), (z3, cA4 cI X.2.1), (q1, cA9 cI (X.2.2.1, X.2.2.2.1, 0, X.2.2.2.2.2.1, X.2.2.2.2.2.2.1, X.2.2.2.2.2.2.2.2.1, 1, 0, 0))] 4 rfl vi9_6 (ar9 (X.2.2.1, X.2.2.2.1, 0, X.2.2.2.2.2.1, X.2.2.2.2.2.2.1, X.2.2.2.2.2.2.2.2.1, 1, 0, 0)) (ar9_s6 _ _) rfl dX4_counted_72 ?_
    refine k_dup C rfl dX4_counted_73 ?_
    refine k_bipush C 7 (by decide) dX4_counted_74 ?_
    refine k_aload_n C dX4_counted_76 0 rfl ?_
    refine k_callV_i C (mX4_winner l D cI cJ z0 z1 z2 z3 .null X) (cwV 0 C.2.2.2.2.1 (kGV q479 q463 q464 q38 q465) rfl rfl rfl ⟨rfl, hdX4_winner⟩ ⟨Nat.le_of_ble_eq_true rfl, Nat.le_of_ble_eq_true rfl⟩) [0, 1, 2, 3] [4] [1, 2, 3, 4, 0] [(q1, cA9 cI (X.2.2.1, X.2.2.2.1, 0, X.2.2.2.2.2.1, X.2.2.2.2.2.2.1, X.2.2.2.2.2.2.2.2.1, 1, 0, 0))] ([(z0, cZ .null z1 X.2.2), (z1, cQ cJ z2 z3), (z2, cA4 cI X.1), (z3, cA4 cI X.2.1), (q1, cA9 cI (X.2.2.1, X.2.2.2.1, 0, X.2.2.2.2.2.1, X.2.2.2.2.2.2.1, X.2.2.2.2.2.2.2.2.1, 1, 0, 0))]) rfl rfl rfl rfl (by decide) [z0, z1, z2, z3] rfl rfl rfl rfl 0 4 rfl rfl rfl (Nat.le_of_ble_eq_true rfl) ⟨Nat.le_of_ble_eq_true rfl, Nat.le_of_ble_eq_true rfl⟩ rfl dX4_counted_77 ?_
    generalize er5 : fX4_winner X = r5
    refine k_iast C [(z0, cZ .null z1 X.2.2), (z1, cQ cJ z2 z3), (z2, cA4 cI X.1), (z3, cA4 cI X.2.1), (q1, cA9 cI (X.2.2.1, X.2.2.2.1, 0, X.2.2.2.2.2.1, X.2.2.2.2.2.2.1, X.2.2.2.2.2.2.2.2.1, 1, r5, 0))] 4 rfl vi9_7 (ar9 (X.2.2.1, X.2.2.2.1, 0, X.2.2.2.2.2.1, X.2.2.2.2.2.2.1, X.2.2.2.2.2.2.2.2.1, 1, r5, 0)) (ar9_s7 _ _) rfl dX4_counted_80 ?_
    refine k_dup C rfl dX4_counted_81 ?_
    refine k_bipush C 8 (by decide) dX4_counted_82 ?_
    refine k_aload_n C dX4_counted_84 0 rfl ?_
    refine k_getX4 C 0 7 rfl (by decide) rfl q432 rfl dX4_counted_85 ?_
    refine k_iast C [(z0, cZ .null z1 X.2.2), (z1, cQ cJ z2 z3), (z2, cA4 cI X.1), (z3, cA4 cI X.2.1), (q1, cA9 cI (X.2.2.1, X.2.2.2.1, 0, X.2.2.2.2.2.1, X.2.2.2.2.2.2.1, X.2.2.2.2.2.2.2.2.1, 1, r5, X.2.2.2.2.2.2.2.1))] 4 rfl vi9_8 (ar9 (X.2.2.1, X.2.2.2.1, 0, X.2.2.2.2.2.1, X.2.2.2.2.2.2.1, X.2.2.2.2.2.2.2.2.1, 1, r5, X.2.2.2.2.2.2.2.1)) (ar9_s8 _ _) rfl dX4_counted_88 ?_
    refine k_astore_n C [(2, .ref q1), (0, .ref z0), (1, .int 5)] (by decide) rfl dX4_counted_89 ?_
    refine k_aload_n C dX4_counted_90 0 rfl ?_
    refine k_iload_n C dX4_counted_91 2 rfl ?_
    refine k_iald C 4 rfl vi9_5 (ar9_l5 _) dX4_counted_92 ?_
    have hL : fX4_counted_n5 X = X.2.2.2.2.2.2.2.2.1 := by subst er5; subst er2; exact (if_neg c3).trans rfl
    refine k_widen (k' := 1) (n' := 9) (Nat.le_of_ble_eq_true rfl) (Nat.le_of_ble_eq_true rfl) ?_
    refine k_wsub (w' := [(z0, cZ .null z1 X.2.2), (z1, cQ cJ z2 z3), (z2, cA4 cI X.1), (z3, cA4 cI X.2.1)]) [0, 1, 2, 3] rfl rfl ?_
    exact k_iretG C rfl (by rw [hL]; exact ⟨rfl, rfl⟩) dX4_counted_93

noncomputable def fX4_counted_r5 (X : Zs) (b : Lb) : Int32 :=
  if (fX4_canSet_r X b) = 0 then X.2.2.2.2.2.2.2.2.1
  else X.2.2.2.2.2.2.2.2.1
set_option maxHeartbeats 4000000 in
set_option maxRecDepth 100000 in
theorem mX4_counted_r5 (l : Launch) (D : va_G) (cI cJ : ClassId) (z0 z1 z2 z3 z4 : Nat) (X : Zs) (b : Lb) : kGi l D cI cJ yX4_counted (.code yX4_counted cX4_counted 3 (some .int)) { frames := 1, cells := 1, slots := 9, locals := 20 } [.ref z0, .int 5] [(z0, cZ (.ref z4) z1 X.2.2), (z1, cQ cJ z2 z3), (z2, cA4 cI X.1), (z3, cA4 cI X.2.1), (z4, cL b)] 1 9 (fun r U => r = fX4_counted_r5 X b ∧ U = [(z0, cZ (.ref z4) z1 X.2.2), (z1, cQ cJ z2 z3), (z2, cA4 cI X.1), (z3, cA4 cI X.2.1), (z4, cL b)]) := by
  refine fun sz => k_ofN (lv := [(0, .ref z0), (1, .int 5)]) (by decide) sz (Nat.le_of_ble_eq_true rfl) rfl ?_
  intro p e s m args below meth c hsz hnm C
  refine k_bipush C 9 (by decide) dX4_counted_0 ?_
  refine k_newI C 9 (ar9 (0, 0, 0, 0, 0, 0, 0, 0, 0)) zf9 (by decide) (by decide) (by decide) (Nat.le_of_ble_eq_true rfl) (Nat.le_of_ble_eq_true rfl) dX4_counted_2 (fun q1 => ?_)
  refine k_dup C rfl dX4_counted_4 ?_
  refine k_iconst C 0 (by decide) dX4_counted_5 ?_
  refine k_aload_n C dX4_counted_6 0 rfl ?_
  refine k_getX4 C 0 0 rfl (by decide) rfl q423 rfl dX4_counted_7 ?_
  refine k_iast C [(z0, cZ (.ref z4) z1 X.2.2), (z1, cQ cJ z2 z3), (z2, cA4 cI X.1), (z3, cA4 cI X.2.1), (z4, cL b), (q1, cA9 cI (X.2.2.1, 0, 0, 0, 0, 0, 0, 0, 0))] 5 rfl vi9_0 (ar9 (X.2.2.1, 0, 0, 0, 0, 0, 0, 0, 0)) (ar9_s0 _ _) rfl dX4_counted_10 ?_
  refine k_dup C rfl dX4_counted_11 ?_
  refine k_iconst C 1 (by decide) dX4_counted_12 ?_
  refine k_aload_n C dX4_counted_13 0 rfl ?_
  refine k_getX4 C 0 1 rfl (by decide) rfl q424 rfl dX4_counted_14 ?_
  refine k_iast C [(z0, cZ (.ref z4) z1 X.2.2), (z1, cQ cJ z2 z3), (z2, cA4 cI X.1), (z3, cA4 cI X.2.1), (z4, cL b), (q1, cA9 cI (X.2.2.1, X.2.2.2.1, 0, 0, 0, 0, 0, 0, 0))] 5 rfl vi9_1 (ar9 (X.2.2.1, X.2.2.2.1, 0, 0, 0, 0, 0, 0, 0)) (ar9_s1 _ _) rfl dX4_counted_17 ?_
  refine k_dup C rfl dX4_counted_18 ?_
  refine k_iconst C 2 (by decide) dX4_counted_19 ?_
  refine k_aload_n C dX4_counted_20 0 rfl ?_
  refine k_getX4 C 0 3 rfl (by decide) rfl q426 rfl dX4_counted_21 ?_
  refine k_ifnonnull C 31 (by decide) dX4_counted_24 ?_
  refine k_aload_n C dX4_counted_31 0 rfl ?_
  refine k_getX4 C 0 2 rfl (by decide) rfl q425 rfl dX4_counted_32 ?_
  refine k_iast C [(z0, cZ (.ref z4) z1 X.2.2), (z1, cQ cJ z2 z3), (z2, cA4 cI X.1), (z3, cA4 cI X.2.1), (z4, cL b), (q1, cA9 cI (X.2.2.1, X.2.2.2.1, X.2.2.2.2.1, 0, 0, 0, 0, 0, 0))] 5 rfl vi9_2 (ar9 (X.2.2.1, X.2.2.2.1, X.2.2.2.2.1, 0, 0, 0, 0, 0, 0)) (ar9_s2 _ _) rfl dX4_counted_35 ?_
  refine k_dup C rfl dX4_counted_36 ?_
  refine k_iconst C 3 (by decide) dX4_counted_37 ?_
  refine k_aload_n C dX4_counted_38 0 rfl ?_
  refine k_getX4 C 0 5 rfl (by decide) rfl q430 rfl dX4_counted_39 ?_
  refine k_iast C [(z0, cZ (.ref z4) z1 X.2.2), (z1, cQ cJ z2 z3), (z2, cA4 cI X.1), (z3, cA4 cI X.2.1), (z4, cL b), (q1, cA9 cI (X.2.2.1, X.2.2.2.1, X.2.2.2.2.1, X.2.2.2.2.2.1, 0, 0, 0, 0, 0))] 5 rfl vi9_3 (ar9 (X.2.2.1, X.2.2.2.1, X.2.2.2.2.1, X.2.2.2.2.2.1, 0, 0, 0, 0, 0)) (ar9_s3 _ _) rfl dX4_counted_42 ?_
  refine k_dup C rfl dX4_counted_43 ?_
  refine k_iconst C 4 (by decide) dX4_counted_44 ?_
  refine k_aload_n C dX4_counted_45 0 rfl ?_
  refine k_getX4 C 0 6 rfl (by decide) rfl q431 rfl dX4_counted_46 ?_
  refine k_iast C [(z0, cZ (.ref z4) z1 X.2.2), (z1, cQ cJ z2 z3), (z2, cA4 cI X.1), (z3, cA4 cI X.2.1), (z4, cL b), (q1, cA9 cI (X.2.2.1, X.2.2.2.1, X.2.2.2.2.1, X.2.2.2.2.2.1, X.2.2.2.2.2.2.1, 0, 0, 0, 0))] 5 rfl vi9_4 (ar9 (X.2.2.1, X.2.2.2.1, X.2.2.2.2.1, X.2.2.2.2.2.1, X.2.2.2.2.2.2.1, 0, 0, 0, 0)) (ar9_s4 _ _) rfl dX4_counted_49 ?_
  refine k_dup C rfl dX4_counted_50 ?_
  refine k_iconst C 5 (by decide) dX4_counted_51 ?_
  refine k_aload_n C dX4_counted_52 0 rfl ?_
  refine k_getX4 C 0 8 rfl (by decide) rfl q433 rfl dX4_counted_53 ?_
  refine k_iast C [(z0, cZ (.ref z4) z1 X.2.2), (z1, cQ cJ z2 z3), (z2, cA4 cI X.1), (z3, cA4 cI X.2.1), (z4, cL b), (q1, cA9 cI (X.2.2.1, X.2.2.2.1, X.2.2.2.2.1, X.2.2.2.2.2.1, X.2.2.2.2.2.2.1, X.2.2.2.2.2.2.2.2.1, 0, 0, 0))] 5 rfl vi9_5 (ar9 (X.2.2.1, X.2.2.2.1, X.2.2.2.2.1, X.2.2.2.2.2.1, X.2.2.2.2.2.2.1, X.2.2.2.2.2.2.2.2.1, 0, 0, 0)) (ar9_s5 _ _) rfl dX4_counted_56 ?_
  refine k_dup C rfl dX4_counted_57 ?_
  refine k_bipush C 6 (by decide) dX4_counted_58 ?_
  refine k_aload_n C dX4_counted_60 0 rfl ?_
  refine k_callV_i C (mX4_canSet_r l D cI cJ z0 z1 z2 z3 z4 X b) (cwV 0 C.2.2.2.2.1 (kGV q475 q476 q477 q38 q478) rfl rfl rfl ⟨rfl, hdX4_canSet⟩ ⟨Nat.le_of_ble_eq_true rfl, Nat.le_of_ble_eq_true rfl⟩) [0, 1, 2, 3, 4] [5] [1, 2, 3, 4, 5, 0] [(q1, cA9 cI (X.2.2.1, X.2.2.2.1, X.2.2.2.2.1, X.2.2.2.2.2.1, X.2.2.2.2.2.2.1, X.2.2.2.2.2.2.2.2.1, 0, 0, 0))] ([(z0, cZ (.ref z4) z1 X.2.2), (z1, cQ cJ z2 z3), (z2, cA4 cI X.1), (z3, cA4 cI X.2.1), (z4, cL b), (q1, cA9 cI (X.2.2.1, X.2.2.2.1, X.2.2.2.2.1, X.2.2.2.2.2.1, X.2.2.2.2.2.2.1, X.2.2.2.2.2.2.2.2.1, 0, 0, 0))]) rfl rfl rfl rfl (by decide) [z0, z1, z2, z3, z4] rfl rfl rfl rfl 0 4 rfl rfl rfl (Nat.le_of_ble_eq_true rfl) ⟨Nat.le_of_ble_eq_true rfl, Nat.le_of_ble_eq_true rfl⟩ rfl dX4_counted_61 ?_
  generalize er2 : fX4_canSet_r X b = r2
  refine k_if_eq C 71 (by decide) dX4_counted_64 (fun c3 => ?_) (fun c3 => ?_)
  ·
    refine k_iconst C 0 (by decide) dX4_counted_71 ?_
    refine k_iast C [(z0, cZ (.ref z4) z1 X.2.2), (z1, cQ cJ z2 z3), (z2, cA4 cI X.1), (z3, cA4 cI X.2.1), (z4, cL b), (q1, cA9 cI (X.2.2.1, X.2.2.2.1, X.2.2.2.2.1, X.2.2.2.2.2.1, X.2.2.2.2.2.2.1, X.2.2.2.2.2.2.2.2.1, 0, 0, 0))] 5 rfl vi9_6 (ar9 (X.2.2.1, X.2.2.2.1, X.2.2.2.2.1, X.2.2.2.2.2.1, X.2.2.2.2.2.2.1, X.2.2.2.2.2.2.2.2.1, 0, 0, 0)) (ar9_s6 _ _) rfl dX4_counted_72 ?_
    refine k_dup C rfl dX4_counted_73 ?_
    refine k_bipush C 7 (by decide) dX4_counted_74 ?_
    refine k_aload_n C dX4_counted_76 0 rfl ?_
    refine k_callV_i C (mX4_winner l D cI cJ z0 z1 z2 z3 (.ref z4) X) (cwV 0 C.2.2.2.2.1 (kGV q479 q463 q464 q38 q465) rfl rfl rfl ⟨rfl, hdX4_winner⟩ ⟨Nat.le_of_ble_eq_true rfl, Nat.le_of_ble_eq_true rfl⟩) [0, 1, 2, 3] [4, 5] [2, 3, 4, 5, 0, 1] [(z4, cL b), (q1, cA9 cI (X.2.2.1, X.2.2.2.1, X.2.2.2.2.1, X.2.2.2.2.2.1, X.2.2.2.2.2.2.1, X.2.2.2.2.2.2.2.2.1, 0, 0, 0))] ([(z0, cZ (.ref z4) z1 X.2.2), (z1, cQ cJ z2 z3), (z2, cA4 cI X.1), (z3, cA4 cI X.2.1), (z4, cL b), (q1, cA9 cI (X.2.2.1, X.2.2.2.1, X.2.2.2.2.1, X.2.2.2.2.2.1, X.2.2.2.2.2.2.1, X.2.2.2.2.2.2.2.2.1, 0, 0, 0))]) rfl rfl rfl rfl (by decide) [z0, z1, z2, z3] rfl rfl rfl rfl 0 4 rfl rfl rfl (Nat.le_of_ble_eq_true rfl) ⟨Nat.le_of_ble_eq_true rfl, Nat.le_of_ble_eq_true rfl⟩ rfl dX4_counted_77 ?_
    generalize er4 : fX4_winner X = r4
    refine k_iast C [(z0, cZ (.ref z4) z1 X.2.2), (z1, cQ cJ z2 z3), (z2, cA4 cI X.1), (z3, cA4 cI X.2.1), (z4, cL b), (q1, cA9 cI (X.2.2.1, X.2.2.2.1, X.2.2.2.2.1, X.2.2.2.2.2.1, X.2.2.2.2.2.2.1, X.2.2.2.2.2.2.2.2.1, 0, r4, 0))] 5 rfl vi9_7 (ar9 (X.2.2.1, X.2.2.2.1, X.2.2.2.2.1, X.2.2.2.2.2.1, X.2.2.2.2.2.2.1, X.2.2.2.2.2.2.2.2.1, 0, r4, 0)) (ar9_s7 _ _) rfl dX4_counted_80 ?_
    refine k_dup C rfl dX4_counted_81 ?_
    refine k_bipush C 8 (by decide) dX4_counted_82 ?_
    refine k_aload_n C dX4_counted_84 0 rfl ?_
    refine k_getX4 C 0 7 rfl (by decide) rfl q432 rfl dX4_counted_85 ?_
    refine k_iast C [(z0, cZ (.ref z4) z1 X.2.2), (z1, cQ cJ z2 z3), (z2, cA4 cI X.1), (z3, cA4 cI X.2.1), (z4, cL b), (q1, cA9 cI (X.2.2.1, X.2.2.2.1, X.2.2.2.2.1, X.2.2.2.2.2.1, X.2.2.2.2.2.2.1, X.2.2.2.2.2.2.2.2.1, 0, r4, X.2.2.2.2.2.2.2.1))] 5 rfl vi9_8 (ar9 (X.2.2.1, X.2.2.2.1, X.2.2.2.2.1, X.2.2.2.2.2.1, X.2.2.2.2.2.2.1, X.2.2.2.2.2.2.2.2.1, 0, r4, X.2.2.2.2.2.2.2.1)) (ar9_s8 _ _) rfl dX4_counted_88 ?_
    refine k_astore_n C [(2, .ref q1), (0, .ref z0), (1, .int 5)] (by decide) rfl dX4_counted_89 ?_
    refine k_aload_n C dX4_counted_90 0 rfl ?_
    refine k_iload_n C dX4_counted_91 2 rfl ?_
    refine k_iald C 5 rfl vi9_5 (ar9_l5 _) dX4_counted_92 ?_
    have hL : fX4_counted_r5 X b = X.2.2.2.2.2.2.2.2.1 := by subst er4; subst er2; exact (if_pos c3).trans rfl
    refine k_widen (k' := 1) (n' := 9) (Nat.le_of_ble_eq_true rfl) (Nat.le_of_ble_eq_true rfl) ?_
    refine k_wsub (w' := [(z0, cZ (.ref z4) z1 X.2.2), (z1, cQ cJ z2 z3), (z2, cA4 cI X.1), (z3, cA4 cI X.2.1), (z4, cL b)]) [0, 1, 2, 3, 4] rfl rfl ?_
    exact k_iretG C rfl (by rw [hL]; exact ⟨rfl, rfl⟩) dX4_counted_93
  ·
    refine k_iconst C 1 (by decide) dX4_counted_67 ?_
    refine k_goto C 72 (by decide) dX4_counted_68 ?_
    refine k_iast C [(z0, cZ (.ref z4) z1 X.2.2), (z1, cQ cJ z2 z3), (z2, cA4 cI X.1), (z3, cA4 cI X.2.1), (z4, cL b), (q1, cA9 cI (X.2.2.1, X.2.2.2.1, X.2.2.2.2.1, X.2.2.2.2.2.1, X.2.2.2.2.2.2.1, X.2.2.2.2.2.2.2.2.1, 1, 0, 0))] 5 rfl vi9_6 (ar9 (X.2.2.1, X.2.2.2.1, X.2.2.2.2.1, X.2.2.2.2.2.1, X.2.2.2.2.2.2.1, X.2.2.2.2.2.2.2.2.1, 1, 0, 0)) (ar9_s6 _ _) rfl dX4_counted_72 ?_
    refine k_dup C rfl dX4_counted_73 ?_
    refine k_bipush C 7 (by decide) dX4_counted_74 ?_
    refine k_aload_n C dX4_counted_76 0 rfl ?_
    refine k_callV_i C (mX4_winner l D cI cJ z0 z1 z2 z3 (.ref z4) X) (cwV 0 C.2.2.2.2.1 (kGV q479 q463 q464 q38 q465) rfl rfl rfl ⟨rfl, hdX4_winner⟩ ⟨Nat.le_of_ble_eq_true rfl, Nat.le_of_ble_eq_true rfl⟩) [0, 1, 2, 3] [4, 5] [2, 3, 4, 5, 0, 1] [(z4, cL b), (q1, cA9 cI (X.2.2.1, X.2.2.2.1, X.2.2.2.2.1, X.2.2.2.2.2.1, X.2.2.2.2.2.2.1, X.2.2.2.2.2.2.2.2.1, 1, 0, 0))] ([(z0, cZ (.ref z4) z1 X.2.2), (z1, cQ cJ z2 z3), (z2, cA4 cI X.1), (z3, cA4 cI X.2.1), (z4, cL b), (q1, cA9 cI (X.2.2.1, X.2.2.2.1, X.2.2.2.2.1, X.2.2.2.2.2.1, X.2.2.2.2.2.2.1, X.2.2.2.2.2.2.2.2.1, 1, 0, 0))]) rfl rfl rfl rfl (by decide) [z0, z1, z2, z3] rfl rfl rfl rfl 0 4 rfl rfl rfl (Nat.le_of_ble_eq_true rfl) ⟨Nat.le_of_ble_eq_true rfl, Nat.le_of_ble_eq_true rfl⟩ rfl dX4_counted_77 ?_
    generalize er5 : fX4_winner X = r5
    refine k_iast C [(z0, cZ (.ref z4) z1 X.2.2), (z1, cQ cJ z2 z3), (z2, cA4 cI X.1), (z3, cA4 cI X.2.1), (z4, cL b), (q1, cA9 cI (X.2.2.1, X.2.2.2.1, X.2.2.2.2.1, X.2.2.2.2.2.1, X.2.2.2.2.2.2.1, X.2.2.2.2.2.2.2.2.1, 1, r5, 0))] 5 rfl vi9_7 (ar9 (X.2.2.1, X.2.2.2.1, X.2.2.2.2.1, X.2.2.2.2.2.1, X.2.2.2.2.2.2.1, X.2.2.2.2.2.2.2.2.1, 1, r5, 0)) (ar9_s7 _ _) rfl dX4_counted_80 ?_
    refine k_dup C rfl dX4_counted_81 ?_
    refine k_bipush C 8 (by decide) dX4_counted_82 ?_
    refine k_aload_n C dX4_counted_84 0 rfl ?_
    refine k_getX4 C 0 7 rfl (by decide) rfl q432 rfl dX4_counted_85 ?_
    refine k_iast C [(z0, cZ (.ref z4) z1 X.2.2), (z1, cQ cJ z2 z3), (z2, cA4 cI X.1), (z3, cA4 cI X.2.1), (z4, cL b), (q1, cA9 cI (X.2.2.1, X.2.2.2.1, X.2.2.2.2.1, X.2.2.2.2.2.1, X.2.2.2.2.2.2.1, X.2.2.2.2.2.2.2.2.1, 1, r5, X.2.2.2.2.2.2.2.1))] 5 rfl vi9_8 (ar9 (X.2.2.1, X.2.2.2.1, X.2.2.2.2.1, X.2.2.2.2.2.1, X.2.2.2.2.2.2.1, X.2.2.2.2.2.2.2.2.1, 1, r5, X.2.2.2.2.2.2.2.1)) (ar9_s8 _ _) rfl dX4_counted_88 ?_
    refine k_astore_n C [(2, .ref q1), (0, .ref z0), (1, .int 5)] (by decide) rfl dX4_counted_89 ?_
    refine k_aload_n C dX4_counted_90 0 rfl ?_
    refine k_iload_n C dX4_counted_91 2 rfl ?_
    refine k_iald C 5 rfl vi9_5 (ar9_l5 _) dX4_counted_92 ?_
    have hL : fX4_counted_r5 X b = X.2.2.2.2.2.2.2.2.1 := by subst er5; subst er2; exact (if_neg c3).trans rfl
    refine k_widen (k' := 1) (n' := 9) (Nat.le_of_ble_eq_true rfl) (Nat.le_of_ble_eq_true rfl) ?_
    refine k_wsub (w' := [(z0, cZ (.ref z4) z1 X.2.2), (z1, cQ cJ z2 z3), (z2, cA4 cI X.1), (z3, cA4 cI X.2.1), (z4, cL b)]) [0, 1, 2, 3, 4] rfl rfl ?_
    exact k_iretG C rfl (by rw [hL]; exact ⟨rfl, rfl⟩) dX4_counted_93

noncomputable def fX4_counted_n6 (X : Zs) : Int32 :=
  if (fX4_canSet_n X) = 0 then 0
  else 1
set_option maxHeartbeats 4000000 in
set_option maxRecDepth 100000 in
theorem mX4_counted_n6 (l : Launch) (D : va_G) (cI cJ : ClassId) (z0 z1 z2 z3 : Nat) (X : Zs) : kGi l D cI cJ yX4_counted (.code yX4_counted cX4_counted 3 (some .int)) { frames := 1, cells := 1, slots := 9, locals := 20 } [.ref z0, .int 6] [(z0, cZ .null z1 X.2.2), (z1, cQ cJ z2 z3), (z2, cA4 cI X.1), (z3, cA4 cI X.2.1)] 1 9 (fun r U => r = fX4_counted_n6 X ∧ U = [(z0, cZ .null z1 X.2.2), (z1, cQ cJ z2 z3), (z2, cA4 cI X.1), (z3, cA4 cI X.2.1)]) := by
  refine fun sz => k_ofN (lv := [(0, .ref z0), (1, .int 6)]) (by decide) sz (Nat.le_of_ble_eq_true rfl) rfl ?_
  intro p e s m args below meth c hsz hnm C
  refine k_bipush C 9 (by decide) dX4_counted_0 ?_
  refine k_newI C 9 (ar9 (0, 0, 0, 0, 0, 0, 0, 0, 0)) zf9 (by decide) (by decide) (by decide) (Nat.le_of_ble_eq_true rfl) (Nat.le_of_ble_eq_true rfl) dX4_counted_2 (fun q1 => ?_)
  refine k_dup C rfl dX4_counted_4 ?_
  refine k_iconst C 0 (by decide) dX4_counted_5 ?_
  refine k_aload_n C dX4_counted_6 0 rfl ?_
  refine k_getX4 C 0 0 rfl (by decide) rfl q423 rfl dX4_counted_7 ?_
  refine k_iast C [(z0, cZ .null z1 X.2.2), (z1, cQ cJ z2 z3), (z2, cA4 cI X.1), (z3, cA4 cI X.2.1), (q1, cA9 cI (X.2.2.1, 0, 0, 0, 0, 0, 0, 0, 0))] 4 rfl vi9_0 (ar9 (X.2.2.1, 0, 0, 0, 0, 0, 0, 0, 0)) (ar9_s0 _ _) rfl dX4_counted_10 ?_
  refine k_dup C rfl dX4_counted_11 ?_
  refine k_iconst C 1 (by decide) dX4_counted_12 ?_
  refine k_aload_n C dX4_counted_13 0 rfl ?_
  refine k_getX4 C 0 1 rfl (by decide) rfl q424 rfl dX4_counted_14 ?_
  refine k_iast C [(z0, cZ .null z1 X.2.2), (z1, cQ cJ z2 z3), (z2, cA4 cI X.1), (z3, cA4 cI X.2.1), (q1, cA9 cI (X.2.2.1, X.2.2.2.1, 0, 0, 0, 0, 0, 0, 0))] 4 rfl vi9_1 (ar9 (X.2.2.1, X.2.2.2.1, 0, 0, 0, 0, 0, 0, 0)) (ar9_s1 _ _) rfl dX4_counted_17 ?_
  refine k_dup C rfl dX4_counted_18 ?_
  refine k_iconst C 2 (by decide) dX4_counted_19 ?_
  refine k_aload_n C dX4_counted_20 0 rfl ?_
  refine k_getX4 C 0 3 rfl (by decide) rfl q426 rfl dX4_counted_21 ?_
  refine k_ifnonnullN C dX4_counted_24 ?_
  refine k_iconst C 0 (by decide) dX4_counted_27 ?_
  refine k_goto C 35 (by decide) dX4_counted_28 ?_
  refine k_iast C [(z0, cZ .null z1 X.2.2), (z1, cQ cJ z2 z3), (z2, cA4 cI X.1), (z3, cA4 cI X.2.1), (q1, cA9 cI (X.2.2.1, X.2.2.2.1, 0, 0, 0, 0, 0, 0, 0))] 4 rfl vi9_2 (ar9 (X.2.2.1, X.2.2.2.1, 0, 0, 0, 0, 0, 0, 0)) (ar9_s2 _ _) rfl dX4_counted_35 ?_
  refine k_dup C rfl dX4_counted_36 ?_
  refine k_iconst C 3 (by decide) dX4_counted_37 ?_
  refine k_aload_n C dX4_counted_38 0 rfl ?_
  refine k_getX4 C 0 5 rfl (by decide) rfl q430 rfl dX4_counted_39 ?_
  refine k_iast C [(z0, cZ .null z1 X.2.2), (z1, cQ cJ z2 z3), (z2, cA4 cI X.1), (z3, cA4 cI X.2.1), (q1, cA9 cI (X.2.2.1, X.2.2.2.1, 0, X.2.2.2.2.2.1, 0, 0, 0, 0, 0))] 4 rfl vi9_3 (ar9 (X.2.2.1, X.2.2.2.1, 0, X.2.2.2.2.2.1, 0, 0, 0, 0, 0)) (ar9_s3 _ _) rfl dX4_counted_42 ?_
  refine k_dup C rfl dX4_counted_43 ?_
  refine k_iconst C 4 (by decide) dX4_counted_44 ?_
  refine k_aload_n C dX4_counted_45 0 rfl ?_
  refine k_getX4 C 0 6 rfl (by decide) rfl q431 rfl dX4_counted_46 ?_
  refine k_iast C [(z0, cZ .null z1 X.2.2), (z1, cQ cJ z2 z3), (z2, cA4 cI X.1), (z3, cA4 cI X.2.1), (q1, cA9 cI (X.2.2.1, X.2.2.2.1, 0, X.2.2.2.2.2.1, X.2.2.2.2.2.2.1, 0, 0, 0, 0))] 4 rfl vi9_4 (ar9 (X.2.2.1, X.2.2.2.1, 0, X.2.2.2.2.2.1, X.2.2.2.2.2.2.1, 0, 0, 0, 0)) (ar9_s4 _ _) rfl dX4_counted_49 ?_
  refine k_dup C rfl dX4_counted_50 ?_
  refine k_iconst C 5 (by decide) dX4_counted_51 ?_
  refine k_aload_n C dX4_counted_52 0 rfl ?_
  refine k_getX4 C 0 8 rfl (by decide) rfl q433 rfl dX4_counted_53 ?_
  refine k_iast C [(z0, cZ .null z1 X.2.2), (z1, cQ cJ z2 z3), (z2, cA4 cI X.1), (z3, cA4 cI X.2.1), (q1, cA9 cI (X.2.2.1, X.2.2.2.1, 0, X.2.2.2.2.2.1, X.2.2.2.2.2.2.1, X.2.2.2.2.2.2.2.2.1, 0, 0, 0))] 4 rfl vi9_5 (ar9 (X.2.2.1, X.2.2.2.1, 0, X.2.2.2.2.2.1, X.2.2.2.2.2.2.1, X.2.2.2.2.2.2.2.2.1, 0, 0, 0)) (ar9_s5 _ _) rfl dX4_counted_56 ?_
  refine k_dup C rfl dX4_counted_57 ?_
  refine k_bipush C 6 (by decide) dX4_counted_58 ?_
  refine k_aload_n C dX4_counted_60 0 rfl ?_
  refine k_callV_i C (mX4_canSet_n l D cI cJ z0 z1 z2 z3 X) (cwV 0 C.2.2.2.2.1 (kGV q475 q476 q477 q38 q478) rfl rfl rfl ⟨rfl, hdX4_canSet⟩ ⟨Nat.le_of_ble_eq_true rfl, Nat.le_of_ble_eq_true rfl⟩) [0, 1, 2, 3] [4] [1, 2, 3, 4, 0] [(q1, cA9 cI (X.2.2.1, X.2.2.2.1, 0, X.2.2.2.2.2.1, X.2.2.2.2.2.2.1, X.2.2.2.2.2.2.2.2.1, 0, 0, 0))] ([(z0, cZ .null z1 X.2.2), (z1, cQ cJ z2 z3), (z2, cA4 cI X.1), (z3, cA4 cI X.2.1), (q1, cA9 cI (X.2.2.1, X.2.2.2.1, 0, X.2.2.2.2.2.1, X.2.2.2.2.2.2.1, X.2.2.2.2.2.2.2.2.1, 0, 0, 0))]) rfl rfl rfl rfl (by decide) [z0, z1, z2, z3] rfl rfl rfl rfl 0 4 rfl rfl rfl (Nat.le_of_ble_eq_true rfl) ⟨Nat.le_of_ble_eq_true rfl, Nat.le_of_ble_eq_true rfl⟩ rfl dX4_counted_61 ?_
  generalize er2 : fX4_canSet_n X = r2
  refine k_if_eq C 71 (by decide) dX4_counted_64 (fun c3 => ?_) (fun c3 => ?_)
  ·
    refine k_iconst C 0 (by decide) dX4_counted_71 ?_
    refine k_iast C [(z0, cZ .null z1 X.2.2), (z1, cQ cJ z2 z3), (z2, cA4 cI X.1), (z3, cA4 cI X.2.1), (q1, cA9 cI (X.2.2.1, X.2.2.2.1, 0, X.2.2.2.2.2.1, X.2.2.2.2.2.2.1, X.2.2.2.2.2.2.2.2.1, 0, 0, 0))] 4 rfl vi9_6 (ar9 (X.2.2.1, X.2.2.2.1, 0, X.2.2.2.2.2.1, X.2.2.2.2.2.2.1, X.2.2.2.2.2.2.2.2.1, 0, 0, 0)) (ar9_s6 _ _) rfl dX4_counted_72 ?_
    refine k_dup C rfl dX4_counted_73 ?_
    refine k_bipush C 7 (by decide) dX4_counted_74 ?_
    refine k_aload_n C dX4_counted_76 0 rfl ?_
    refine k_callV_i C (mX4_winner l D cI cJ z0 z1 z2 z3 .null X) (cwV 0 C.2.2.2.2.1 (kGV q479 q463 q464 q38 q465) rfl rfl rfl ⟨rfl, hdX4_winner⟩ ⟨Nat.le_of_ble_eq_true rfl, Nat.le_of_ble_eq_true rfl⟩) [0, 1, 2, 3] [4] [1, 2, 3, 4, 0] [(q1, cA9 cI (X.2.2.1, X.2.2.2.1, 0, X.2.2.2.2.2.1, X.2.2.2.2.2.2.1, X.2.2.2.2.2.2.2.2.1, 0, 0, 0))] ([(z0, cZ .null z1 X.2.2), (z1, cQ cJ z2 z3), (z2, cA4 cI X.1), (z3, cA4 cI X.2.1), (q1, cA9 cI (X.2.2.1, X.2.2.2.1, 0, X.2.2.2.2.2.1, X.2.2.2.2.2.2.1, X.2.2.2.2.2.2.2.2.1, 0, 0, 0))]) rfl rfl rfl rfl (by decide) [z0, z1, z2, z3] rfl rfl rfl rfl 0 4 rfl rfl rfl (Nat.le_of_ble_eq_true rfl) ⟨Nat.le_of_ble_eq_true rfl, Nat.le_of_ble_eq_true rfl⟩ rfl dX4_counted_77 ?_
    generalize er4 : fX4_winner X = r4
    refine k_iast C [(z0, cZ .null z1 X.2.2), (z1, cQ cJ z2 z3), (z2, cA4 cI X.1), (z3, cA4 cI X.2.1), (q1, cA9 cI (X.2.2.1, X.2.2.2.1, 0, X.2.2.2.2.2.1, X.2.2.2.2.2.2.1, X.2.2.2.2.2.2.2.2.1, 0, r4, 0))] 4 rfl vi9_7 (ar9 (X.2.2.1, X.2.2.2.1, 0, X.2.2.2.2.2.1, X.2.2.2.2.2.2.1, X.2.2.2.2.2.2.2.2.1, 0, r4, 0)) (ar9_s7 _ _) rfl dX4_counted_80 ?_
    refine k_dup C rfl dX4_counted_81 ?_
    refine k_bipush C 8 (by decide) dX4_counted_82 ?_
    refine k_aload_n C dX4_counted_84 0 rfl ?_
    refine k_getX4 C 0 7 rfl (by decide) rfl q432 rfl dX4_counted_85 ?_
    refine k_iast C [(z0, cZ .null z1 X.2.2), (z1, cQ cJ z2 z3), (z2, cA4 cI X.1), (z3, cA4 cI X.2.1), (q1, cA9 cI (X.2.2.1, X.2.2.2.1, 0, X.2.2.2.2.2.1, X.2.2.2.2.2.2.1, X.2.2.2.2.2.2.2.2.1, 0, r4, X.2.2.2.2.2.2.2.1))] 4 rfl vi9_8 (ar9 (X.2.2.1, X.2.2.2.1, 0, X.2.2.2.2.2.1, X.2.2.2.2.2.2.1, X.2.2.2.2.2.2.2.2.1, 0, r4, X.2.2.2.2.2.2.2.1)) (ar9_s8 _ _) rfl dX4_counted_88 ?_
    refine k_astore_n C [(2, .ref q1), (0, .ref z0), (1, .int 6)] (by decide) rfl dX4_counted_89 ?_
    refine k_aload_n C dX4_counted_90 0 rfl ?_
    refine k_iload_n C dX4_counted_91 2 rfl ?_
    refine k_iald C 4 rfl vi9_6 (ar9_l6 _) dX4_counted_92 ?_
    have hL : fX4_counted_n6 X = 0 := by subst er4; subst er2; exact (if_pos c3).trans rfl
    refine k_widen (k' := 1) (n' := 9) (Nat.le_of_ble_eq_true rfl) (Nat.le_of_ble_eq_true rfl) ?_
    refine k_wsub (w' := [(z0, cZ .null z1 X.2.2), (z1, cQ cJ z2 z3), (z2, cA4 cI X.1), (z3, cA4 cI X.2.1)]) [0, 1, 2, 3] rfl rfl ?_
    exact k_iretG C rfl (by rw [hL]; exact ⟨rfl, rfl⟩) dX4_counted_93
  ·
    refine k_iconst C 1 (by decide) dX4_counted_67 ?_
    refine k_goto C 72 (by decide) dX4_counted_68 ?_
    refine k_iast C [(z0, cZ .null z1 X.2.2), (z1, cQ cJ z2 z3), (z2, cA4 cI X.1), (z3, cA4 cI X.2.1), (q1, cA9 cI (X.2.2.1, X.2.2.2.1, 0, X.2.2.2.2.2.1, X.2.2.2.2.2.2.1, X.2.2.2.2.2.2.2.2.1, 1, 0, 0))] 4 rfl vi9_6 (ar9 (X.2.2.1, X.2.2.2.1, 0, X.2.2.2.2.2.1, X.2.2.2.2.2.2.1, X.2.2.2.2.2.2.2.2.1, 1, 0, 0)) (ar9_s6 _ _) rfl dX4_counted_72 ?_
    refine k_dup C rfl dX4_counted_73 ?_
    refine k_bipush C 7 (by decide) dX4_counted_74 ?_
    refine k_aload_n C dX4_counted_76 0 rfl ?_
    refine k_callV_i C (mX4_winner l D cI cJ z0 z1 z2 z3 .null X) (cwV 0 C.2.2.2.2.1 (kGV q479 q463 q464 q38 q465) rfl rfl rfl ⟨rfl, hdX4_winner⟩ ⟨Nat.le_of_ble_eq_true rfl, Nat.le_of_ble_eq_true rfl⟩) [0, 1, 2, 3] [4] [1, 2, 3, 4, 0] [(q1, cA9 cI (X.2.2.1, X.2.2.2.1, 0, X.2.2.2.2.2.1, X.2.2.2.2.2.2.1, X.2.2.2.2.2.2.2.2.1, 1, 0, 0))] ([(z0, cZ .null z1 X.2.2), (z1, cQ cJ z2 z3), (z2, cA4 cI X.1), (z3, cA4 cI X.2.1), (q1, cA9 cI (X.2.2.1, X.2.2.2.1, 0, X.2.2.2.2.2.1, X.2.2.2.2.2.2.1, X.2.2.2.2.2.2.2.2.1, 1, 0, 0))]) rfl rfl rfl rfl (by decide) [z0, z1, z2, z3] rfl rfl rfl rfl 0 4 rfl rfl rfl (Nat.le_of_ble_eq_true rfl) ⟨Nat.le_of_ble_eq_true rfl, Nat.le_of_ble_eq_true rfl⟩ rfl dX4_counted_77 ?_
    generalize er5 : fX4_winner X = r5
    refine k_iast C [(z0, cZ .null z1 X.2.2), (z1, cQ cJ z2 z3), (z2, cA4 cI X.1), (z3, cA4 cI X.2.1), (q1, cA9 cI (X.2.2.1, X.2.2.2.1, 0, X.2.2.2.2.2.1, X.2.2.2.2.2.2.1, X.2.2.2.2.2.2.2.2.1, 1, r5, 0))] 4 rfl vi9_7 (ar9 (X.2.2.1, X.2.2.2.1, 0, X.2.2.2.2.2.1, X.2.2.2.2.2.2.1, X.2.2.2.2.2.2.2.2.1, 1, r5, 0)) (ar9_s7 _ _) rfl dX4_counted_80 ?_
    refine k_dup C rfl dX4_counted_81 ?_
    refine k_bipush C 8 (by decide) dX4_counted_82 ?_
    refine k_aload_n C dX4_counted_84 0 rfl ?_
    refine k_getX4 C 0 7 rfl (by decide) rfl q432 rfl dX4_counted_85 ?_
    refine k_iast C [(z0, cZ .null z1 X.2.2), (z1, cQ cJ z2 z3), (z2, cA4 cI X.1), (z3, cA4 cI X.2.1), (q1, cA9 cI (X.2.2.1, X.2.2.2.1, 0, X.2.2.2.2.2.1, X.2.2.2.2.2.2.1, X.2.2.2.2.2.2.2.2.1, 1, r5, X.2.2.2.2.2.2.2.1))] 4 rfl vi9_8 (ar9 (X.2.2.1, X.2.2.2.1, 0, X.2.2.2.2.2.1, X.2.2.2.2.2.2.1, X.2.2.2.2.2.2.2.2.1, 1, r5, X.2.2.2.2.2.2.2.1)) (ar9_s8 _ _) rfl dX4_counted_88 ?_
    refine k_astore_n C [(2, .ref q1), (0, .ref z0), (1, .int 6)] (by decide) rfl dX4_counted_89 ?_
    refine k_aload_n C dX4_counted_90 0 rfl ?_
    refine k_iload_n C dX4_counted_91 2 rfl ?_
    refine k_iald C 4 rfl vi9_6 (ar9_l6 _) dX4_counted_92 ?_
    have hL : fX4_counted_n6 X = 1 := by subst er5; subst er2; exact (if_neg c3).trans rfl
    refine k_widen (k' := 1) (n' := 9) (Nat.le_of_ble_eq_true rfl) (Nat.le_of_ble_eq_true rfl) ?_
    refine k_wsub (w' := [(z0, cZ .null z1 X.2.2), (z1, cQ cJ z2 z3), (z2, cA4 cI X.1), (z3, cA4 cI X.2.1)]) [0, 1, 2, 3] rfl rfl ?_
    exact k_iretG C rfl (by rw [hL]; exact ⟨rfl, rfl⟩) dX4_counted_93

noncomputable def fX4_counted_r6 (X : Zs) (b : Lb) : Int32 :=
  if (fX4_canSet_r X b) = 0 then 0
  else 1
set_option maxHeartbeats 4000000 in
set_option maxRecDepth 100000 in
theorem mX4_counted_r6 (l : Launch) (D : va_G) (cI cJ : ClassId) (z0 z1 z2 z3 z4 : Nat) (X : Zs) (b : Lb) : kGi l D cI cJ yX4_counted (.code yX4_counted cX4_counted 3 (some .int)) { frames := 1, cells := 1, slots := 9, locals := 20 } [.ref z0, .int 6] [(z0, cZ (.ref z4) z1 X.2.2), (z1, cQ cJ z2 z3), (z2, cA4 cI X.1), (z3, cA4 cI X.2.1), (z4, cL b)] 1 9 (fun r U => r = fX4_counted_r6 X b ∧ U = [(z0, cZ (.ref z4) z1 X.2.2), (z1, cQ cJ z2 z3), (z2, cA4 cI X.1), (z3, cA4 cI X.2.1), (z4, cL b)]) := by
  refine fun sz => k_ofN (lv := [(0, .ref z0), (1, .int 6)]) (by decide) sz (Nat.le_of_ble_eq_true rfl) rfl ?_
  intro p e s m args below meth c hsz hnm C
  refine k_bipush C 9 (by decide) dX4_counted_0 ?_
  refine k_newI C 9 (ar9 (0, 0, 0, 0, 0, 0, 0, 0, 0)) zf9 (by decide) (by decide) (by decide) (Nat.le_of_ble_eq_true rfl) (Nat.le_of_ble_eq_true rfl) dX4_counted_2 (fun q1 => ?_)
  refine k_dup C rfl dX4_counted_4 ?_
  refine k_iconst C 0 (by decide) dX4_counted_5 ?_
  refine k_aload_n C dX4_counted_6 0 rfl ?_
  refine k_getX4 C 0 0 rfl (by decide) rfl q423 rfl dX4_counted_7 ?_
  refine k_iast C [(z0, cZ (.ref z4) z1 X.2.2), (z1, cQ cJ z2 z3), (z2, cA4 cI X.1), (z3, cA4 cI X.2.1), (z4, cL b), (q1, cA9 cI (X.2.2.1, 0, 0, 0, 0, 0, 0, 0, 0))] 5 rfl vi9_0 (ar9 (X.2.2.1, 0, 0, 0, 0, 0, 0, 0, 0)) (ar9_s0 _ _) rfl dX4_counted_10 ?_
  refine k_dup C rfl dX4_counted_11 ?_
  refine k_iconst C 1 (by decide) dX4_counted_12 ?_
  refine k_aload_n C dX4_counted_13 0 rfl ?_
  refine k_getX4 C 0 1 rfl (by decide) rfl q424 rfl dX4_counted_14 ?_
  refine k_iast C [(z0, cZ (.ref z4) z1 X.2.2), (z1, cQ cJ z2 z3), (z2, cA4 cI X.1), (z3, cA4 cI X.2.1), (z4, cL b), (q1, cA9 cI (X.2.2.1, X.2.2.2.1, 0, 0, 0, 0, 0, 0, 0))] 5 rfl vi9_1 (ar9 (X.2.2.1, X.2.2.2.1, 0, 0, 0, 0, 0, 0, 0)) (ar9_s1 _ _) rfl dX4_counted_17 ?_
  refine k_dup C rfl dX4_counted_18 ?_
  refine k_iconst C 2 (by decide) dX4_counted_19 ?_
  refine k_aload_n C dX4_counted_20 0 rfl ?_
  refine k_getX4 C 0 3 rfl (by decide) rfl q426 rfl dX4_counted_21 ?_
  refine k_ifnonnull C 31 (by decide) dX4_counted_24 ?_
  refine k_aload_n C dX4_counted_31 0 rfl ?_
  refine k_getX4 C 0 2 rfl (by decide) rfl q425 rfl dX4_counted_32 ?_
  refine k_iast C [(z0, cZ (.ref z4) z1 X.2.2), (z1, cQ cJ z2 z3), (z2, cA4 cI X.1), (z3, cA4 cI X.2.1), (z4, cL b), (q1, cA9 cI (X.2.2.1, X.2.2.2.1, X.2.2.2.2.1, 0, 0, 0, 0, 0, 0))] 5 rfl vi9_2 (ar9 (X.2.2.1, X.2.2.2.1, X.2.2.2.2.1, 0, 0, 0, 0, 0, 0)) (ar9_s2 _ _) rfl dX4_counted_35 ?_
  refine k_dup C rfl dX4_counted_36 ?_
  refine k_iconst C 3 (by decide) dX4_counted_37 ?_
  refine k_aload_n C dX4_counted_38 0 rfl ?_
  refine k_getX4 C 0 5 rfl (by decide) rfl q430 rfl dX4_counted_39 ?_
  refine k_iast C [(z0, cZ (.ref z4) z1 X.2.2), (z1, cQ cJ z2 z3), (z2, cA4 cI X.1), (z3, cA4 cI X.2.1), (z4, cL b), (q1, cA9 cI (X.2.2.1, X.2.2.2.1, X.2.2.2.2.1, X.2.2.2.2.2.1, 0, 0, 0, 0, 0))] 5 rfl vi9_3 (ar9 (X.2.2.1, X.2.2.2.1, X.2.2.2.2.1, X.2.2.2.2.2.1, 0, 0, 0, 0, 0)) (ar9_s3 _ _) rfl dX4_counted_42 ?_
  refine k_dup C rfl dX4_counted_43 ?_
  refine k_iconst C 4 (by decide) dX4_counted_44 ?_
  refine k_aload_n C dX4_counted_45 0 rfl ?_
  refine k_getX4 C 0 6 rfl (by decide) rfl q431 rfl dX4_counted_46 ?_
  refine k_iast C [(z0, cZ (.ref z4) z1 X.2.2), (z1, cQ cJ z2 z3), (z2, cA4 cI X.1), (z3, cA4 cI X.2.1), (z4, cL b), (q1, cA9 cI (X.2.2.1, X.2.2.2.1, X.2.2.2.2.1, X.2.2.2.2.2.1, X.2.2.2.2.2.2.1, 0, 0, 0, 0))] 5 rfl vi9_4 (ar9 (X.2.2.1, X.2.2.2.1, X.2.2.2.2.1, X.2.2.2.2.2.1, X.2.2.2.2.2.2.1, 0, 0, 0, 0)) (ar9_s4 _ _) rfl dX4_counted_49 ?_
  refine k_dup C rfl dX4_counted_50 ?_
  refine k_iconst C 5 (by decide) dX4_counted_51 ?_
  refine k_aload_n C dX4_counted_52 0 rfl ?_
  refine k_getX4 C 0 8 rfl (by decide) rfl q433 rfl dX4_counted_53 ?_
  refine k_iast C [(z0, cZ (.ref z4) z1 X.2.2), (z1, cQ cJ z2 z3), (z2, cA4 cI X.1), (z3, cA4 cI X.2.1), (z4, cL b), (q1, cA9 cI (X.2.2.1, X.2.2.2.1, X.2.2.2.2.1, X.2.2.2.2.2.1, X.2.2.2.2.2.2.1, X.2.2.2.2.2.2.2.2.1, 0, 0, 0))] 5 rfl vi9_5 (ar9 (X.2.2.1, X.2.2.2.1, X.2.2.2.2.1, X.2.2.2.2.2.1, X.2.2.2.2.2.2.1, X.2.2.2.2.2.2.2.2.1, 0, 0, 0)) (ar9_s5 _ _) rfl dX4_counted_56 ?_
  refine k_dup C rfl dX4_counted_57 ?_
  refine k_bipush C 6 (by decide) dX4_counted_58 ?_
  refine k_aload_n C dX4_counted_60 0 rfl ?_
  refine k_callV_i C (mX4_canSet_r l D cI cJ z0 z1 z2 z3 z4 X b) (cwV 0 C.2.2.2.2.1 (kGV q475 q476 q477 q38 q478) rfl rfl rfl ⟨rfl, hdX4_canSet⟩ ⟨Nat.le_of_ble_eq_true rfl, Nat.le_of_ble_eq_true rfl⟩) [0, 1, 2, 3, 4] [5] [1, 2, 3, 4, 5, 0] [(q1, cA9 cI (X.2.2.1, X.2.2.2.1, X.2.2.2.2.1, X.2.2.2.2.2.1, X.2.2.2.2.2.2.1, X.2.2.2.2.2.2.2.2.1, 0, 0, 0))] ([(z0, cZ (.ref z4) z1 X.2.2), (z1, cQ cJ z2 z3), (z2, cA4 cI X.1), (z3, cA4 cI X.2.1), (z4, cL b), (q1, cA9 cI (X.2.2.1, X.2.2.2.1, X.2.2.2.2.1, X.2.2.2.2.2.1, X.2.2.2.2.2.2.1, X.2.2.2.2.2.2.2.2.1, 0, 0, 0))]) rfl rfl rfl rfl (by decide) [z0, z1, z2, z3, z4] rfl rfl rfl rfl 0 4 rfl rfl rfl (Nat.le_of_ble_eq_true rfl) ⟨Nat.le_of_ble_eq_true rfl, Nat.le_of_ble_eq_true rfl⟩ rfl dX4_counted_61 ?_
  generalize er2 : fX4_canSet_r X b = r2
  refine k_if_eq C 71 (by decide) dX4_counted_64 (fun c3 => ?_) (fun c3 => ?_)
  ·
    refine k_iconst C 0 (by decide) dX4_counted_71 ?_
    refine k_iast C [(z0, cZ (.ref z4) z1 X.2.2), (z1, cQ cJ z2 z3), (z2, cA4 cI X.1), (z3, cA4 cI X.2.1), (z4, cL b), (q1, cA9 cI (X.2.2.1, X.2.2.2.1, X.2.2.2.2.1, X.2.2.2.2.2.1, X.2.2.2.2.2.2.1, X.2.2.2.2.2.2.2.2.1, 0, 0, 0))] 5 rfl vi9_6 (ar9 (X.2.2.1, X.2.2.2.1, X.2.2.2.2.1, X.2.2.2.2.2.1, X.2.2.2.2.2.2.1, X.2.2.2.2.2.2.2.2.1, 0, 0, 0)) (ar9_s6 _ _) rfl dX4_counted_72 ?_
    refine k_dup C rfl dX4_counted_73 ?_
    refine k_bipush C 7 (by decide) dX4_counted_74 ?_
    refine k_aload_n C dX4_counted_76 0 rfl ?_
    refine k_callV_i C (mX4_winner l D cI cJ z0 z1 z2 z3 (.ref z4) X) (cwV 0 C.2.2.2.2.1 (kGV q479 q463 q464 q38 q465) rfl rfl rfl ⟨rfl, hdX4_winner⟩ ⟨Nat.le_of_ble_eq_true rfl, Nat.le_of_ble_eq_true rfl⟩) [0, 1, 2, 3] [4, 5] [2, 3, 4, 5, 0, 1] [(z4, cL b), (q1, cA9 cI (X.2.2.1, X.2.2.2.1, X.2.2.2.2.1, X.2.2.2.2.2.1, X.2.2.2.2.2.2.1, X.2.2.2.2.2.2.2.2.1, 0, 0, 0))] ([(z0, cZ (.ref z4) z1 X.2.2), (z1, cQ cJ z2 z3), (z2, cA4 cI X.1), (z3, cA4 cI X.2.1), (z4, cL b), (q1, cA9 cI (X.2.2.1, X.2.2.2.1, X.2.2.2.2.1, X.2.2.2.2.2.1, X.2.2.2.2.2.2.1, X.2.2.2.2.2.2.2.2.1, 0, 0, 0))]) rfl rfl rfl rfl (by decide) [z0, z1, z2, z3] rfl rfl rfl rfl 0 4 rfl rfl rfl (Nat.le_of_ble_eq_true rfl) ⟨Nat.le_of_ble_eq_true rfl, Nat.le_of_ble_eq_true rfl⟩ rfl dX4_counted_77 ?_
    generalize er4 : fX4_winner X = r4
    refine k_iast C [(z0, cZ (.ref z4) z1 X.2.2), (z1, cQ cJ z2 z3), (z2, cA4 cI X.1), (z3, cA4 cI X.2.1), (z4, cL b), (q1, cA9 cI (X.2.2.1, X.2.2.2.1, X.2.2.2.2.1, X.2.2.2.2.2.1, X.2.2.2.2.2.2.1, X.2.2.2.2.2.2.2.2.1, 0, r4, 0))] 5 rfl vi9_7 (ar9 (X.2.2.1, X.2.2.2.1, X.2.2.2.2.1, X.2.2.2.2.2.1, X.2.2.2.2.2.2.1, X.2.2.2.2.2.2.2.2.1, 0, r4, 0)) (ar9_s7 _ _) rfl dX4_counted_80 ?_
    refine k_dup C rfl dX4_counted_81 ?_
    refine k_bipush C 8 (by decide) dX4_counted_82 ?_
    refine k_aload_n C dX4_counted_84 0 rfl ?_
    refine k_getX4 C 0 7 rfl (by decide) rfl q432 rfl dX4_counted_85 ?_
    refine k_iast C [(z0, cZ (.ref z4) z1 X.2.2), (z1, cQ cJ z2 z3), (z2, cA4 cI X.1), (z3, cA4 cI X.2.1), (z4, cL b), (q1, cA9 cI (X.2.2.1, X.2.2.2.1, X.2.2.2.2.1, X.2.2.2.2.2.1, X.2.2.2.2.2.2.1, X.2.2.2.2.2.2.2.2.1, 0, r4, X.2.2.2.2.2.2.2.1))] 5 rfl vi9_8 (ar9 (X.2.2.1, X.2.2.2.1, X.2.2.2.2.1, X.2.2.2.2.2.1, X.2.2.2.2.2.2.1, X.2.2.2.2.2.2.2.2.1, 0, r4, X.2.2.2.2.2.2.2.1)) (ar9_s8 _ _) rfl dX4_counted_88 ?_
    refine k_astore_n C [(2, .ref q1), (0, .ref z0), (1, .int 6)] (by decide) rfl dX4_counted_89 ?_
    refine k_aload_n C dX4_counted_90 0 rfl ?_
    refine k_iload_n C dX4_counted_91 2 rfl ?_
    refine k_iald C 5 rfl vi9_6 (ar9_l6 _) dX4_counted_92 ?_
    have hL : fX4_counted_r6 X b = 0 := by subst er4; subst er2; exact (if_pos c3).trans rfl
    refine k_widen (k' := 1) (n' := 9) (Nat.le_of_ble_eq_true rfl) (Nat.le_of_ble_eq_true rfl) ?_
    refine k_wsub (w' := [(z0, cZ (.ref z4) z1 X.2.2), (z1, cQ cJ z2 z3), (z2, cA4 cI X.1), (z3, cA4 cI X.2.1), (z4, cL b)]) [0, 1, 2, 3, 4] rfl rfl ?_
    exact k_iretG C rfl (by rw [hL]; exact ⟨rfl, rfl⟩) dX4_counted_93
  ·
    refine k_iconst C 1 (by decide) dX4_counted_67 ?_
    refine k_goto C 72 (by decide) dX4_counted_68 ?_
    refine k_iast C [(z0, cZ (.ref z4) z1 X.2.2), (z1, cQ cJ z2 z3), (z2, cA4 cI X.1), (z3, cA4 cI X.2.1), (z4, cL b), (q1, cA9 cI (X.2.2.1, X.2.2.2.1, X.2.2.2.2.1, X.2.2.2.2.2.1, X.2.2.2.2.2.2.1, X.2.2.2.2.2.2.2.2.1, 1, 0, 0))] 5 rfl vi9_6 (ar9 (X.2.2.1, X.2.2.2.1, X.2.2.2.2.1, X.2.2.2.2.2.1, X.2.2.2.2.2.2.1, X.2.2.2.2.2.2.2.2.1, 1, 0, 0)) (ar9_s6 _ _) rfl dX4_counted_72 ?_
    refine k_dup C rfl dX4_counted_73 ?_
    refine k_bipush C 7 (by decide) dX4_counted_74 ?_
    refine k_aload_n C dX4_counted_76 0 rfl ?_
    refine k_callV_i C (mX4_winner l D cI cJ z0 z1 z2 z3 (.ref z4) X) (cwV 0 C.2.2.2.2.1 (kGV q479 q463 q464 q38 q465) rfl rfl rfl ⟨rfl, hdX4_winner⟩ ⟨Nat.le_of_ble_eq_true rfl, Nat.le_of_ble_eq_true rfl⟩) [0, 1, 2, 3] [4, 5] [2, 3, 4, 5, 0, 1] [(z4, cL b), (q1, cA9 cI (X.2.2.1, X.2.2.2.1, X.2.2.2.2.1, X.2.2.2.2.2.1, X.2.2.2.2.2.2.1, X.2.2.2.2.2.2.2.2.1, 1, 0, 0))] ([(z0, cZ (.ref z4) z1 X.2.2), (z1, cQ cJ z2 z3), (z2, cA4 cI X.1), (z3, cA4 cI X.2.1), (z4, cL b), (q1, cA9 cI (X.2.2.1, X.2.2.2.1, X.2.2.2.2.1, X.2.2.2.2.2.1, X.2.2.2.2.2.2.1, X.2.2.2.2.2.2.2.2.1, 1, 0, 0))]) rfl rfl rfl rfl (by decide) [z0, z1, z2, z3] rfl rfl rfl rfl 0 4 rfl rfl rfl (Nat.le_of_ble_eq_true rfl) ⟨Nat.le_of_ble_eq_true rfl, Nat.le_of_ble_eq_true rfl⟩ rfl dX4_counted_77 ?_
    generalize er5 : fX4_winner X = r5
    refine k_iast C [(z0, cZ (.ref z4) z1 X.2.2), (z1, cQ cJ z2 z3), (z2, cA4 cI X.1), (z3, cA4 cI X.2.1), (z4, cL b), (q1, cA9 cI (X.2.2.1, X.2.2.2.1, X.2.2.2.2.1, X.2.2.2.2.2.1, X.2.2.2.2.2.2.1, X.2.2.2.2.2.2.2.2.1, 1, r5, 0))] 5 rfl vi9_7 (ar9 (X.2.2.1, X.2.2.2.1, X.2.2.2.2.1, X.2.2.2.2.2.1, X.2.2.2.2.2.2.1, X.2.2.2.2.2.2.2.2.1, 1, r5, 0)) (ar9_s7 _ _) rfl dX4_counted_80 ?_
    refine k_dup C rfl dX4_counted_81 ?_
    refine k_bipush C 8 (by decide) dX4_counted_82 ?_
    refine k_aload_n C dX4_counted_84 0 rfl ?_
    refine k_getX4 C 0 7 rfl (by decide) rfl q432 rfl dX4_counted_85 ?_
    refine k_iast C [(z0, cZ (.ref z4) z1 X.2.2), (z1, cQ cJ z2 z3), (z2, cA4 cI X.1), (z3, cA4 cI X.2.1), (z4, cL b), (q1, cA9 cI (X.2.2.1, X.2.2.2.1, X.2.2.2.2.1, X.2.2.2.2.2.1, X.2.2.2.2.2.2.1, X.2.2.2.2.2.2.2.2.1, 1, r5, X.2.2.2.2.2.2.2.1))] 5 rfl vi9_8 (ar9 (X.2.2.1, X.2.2.2.1, X.2.2.2.2.1, X.2.2.2.2.2.1, X.2.2.2.2.2.2.1, X.2.2.2.2.2.2.2.2.1, 1, r5, X.2.2.2.2.2.2.2.1)) (ar9_s8 _ _) rfl dX4_counted_88 ?_
    refine k_astore_n C [(2, .ref q1), (0, .ref z0), (1, .int 6)] (by decide) rfl dX4_counted_89 ?_
    refine k_aload_n C dX4_counted_90 0 rfl ?_
    refine k_iload_n C dX4_counted_91 2 rfl ?_
    refine k_iald C 5 rfl vi9_6 (ar9_l6 _) dX4_counted_92 ?_
    have hL : fX4_counted_r6 X b = 1 := by subst er5; subst er2; exact (if_neg c3).trans rfl
    refine k_widen (k' := 1) (n' := 9) (Nat.le_of_ble_eq_true rfl) (Nat.le_of_ble_eq_true rfl) ?_
    refine k_wsub (w' := [(z0, cZ (.ref z4) z1 X.2.2), (z1, cQ cJ z2 z3), (z2, cA4 cI X.1), (z3, cA4 cI X.2.1), (z4, cL b)]) [0, 1, 2, 3, 4] rfl rfl ?_
    exact k_iretG C rfl (by rw [hL]; exact ⟨rfl, rfl⟩) dX4_counted_93

noncomputable def fX4_counted_n7 (X : Zs) : Int32 :=
  if (fX4_canSet_n X) = 0 then (fX4_winner X)
  else (fX4_winner X)
set_option maxHeartbeats 4000000 in
set_option maxRecDepth 100000 in
theorem mX4_counted_n7 (l : Launch) (D : va_G) (cI cJ : ClassId) (z0 z1 z2 z3 : Nat) (X : Zs) : kGi l D cI cJ yX4_counted (.code yX4_counted cX4_counted 3 (some .int)) { frames := 1, cells := 1, slots := 9, locals := 20 } [.ref z0, .int 7] [(z0, cZ .null z1 X.2.2), (z1, cQ cJ z2 z3), (z2, cA4 cI X.1), (z3, cA4 cI X.2.1)] 1 9 (fun r U => r = fX4_counted_n7 X ∧ U = [(z0, cZ .null z1 X.2.2), (z1, cQ cJ z2 z3), (z2, cA4 cI X.1), (z3, cA4 cI X.2.1)]) := by
  refine fun sz => k_ofN (lv := [(0, .ref z0), (1, .int 7)]) (by decide) sz (Nat.le_of_ble_eq_true rfl) rfl ?_
  intro p e s m args below meth c hsz hnm C
  refine k_bipush C 9 (by decide) dX4_counted_0 ?_
  refine k_newI C 9 (ar9 (0, 0, 0, 0, 0, 0, 0, 0, 0)) zf9 (by decide) (by decide) (by decide) (Nat.le_of_ble_eq_true rfl) (Nat.le_of_ble_eq_true rfl) dX4_counted_2 (fun q1 => ?_)
  refine k_dup C rfl dX4_counted_4 ?_
  refine k_iconst C 0 (by decide) dX4_counted_5 ?_
  refine k_aload_n C dX4_counted_6 0 rfl ?_
  refine k_getX4 C 0 0 rfl (by decide) rfl q423 rfl dX4_counted_7 ?_
  refine k_iast C [(z0, cZ .null z1 X.2.2), (z1, cQ cJ z2 z3), (z2, cA4 cI X.1), (z3, cA4 cI X.2.1), (q1, cA9 cI (X.2.2.1, 0, 0, 0, 0, 0, 0, 0, 0))] 4 rfl vi9_0 (ar9 (X.2.2.1, 0, 0, 0, 0, 0, 0, 0, 0)) (ar9_s0 _ _) rfl dX4_counted_10 ?_
  refine k_dup C rfl dX4_counted_11 ?_
  refine k_iconst C 1 (by decide) dX4_counted_12 ?_
  refine k_aload_n C dX4_counted_13 0 rfl ?_
  refine k_getX4 C 0 1 rfl (by decide) rfl q424 rfl dX4_counted_14 ?_
  refine k_iast C [(z0, cZ .null z1 X.2.2), (z1, cQ cJ z2 z3), (z2, cA4 cI X.1), (z3, cA4 cI X.2.1), (q1, cA9 cI (X.2.2.1, X.2.2.2.1, 0, 0, 0, 0, 0, 0, 0))] 4 rfl vi9_1 (ar9 (X.2.2.1, X.2.2.2.1, 0, 0, 0, 0, 0, 0, 0)) (ar9_s1 _ _) rfl dX4_counted_17 ?_
  refine k_dup C rfl dX4_counted_18 ?_
  refine k_iconst C 2 (by decide) dX4_counted_19 ?_
  refine k_aload_n C dX4_counted_20 0 rfl ?_
  refine k_getX4 C 0 3 rfl (by decide) rfl q426 rfl dX4_counted_21 ?_
  refine k_ifnonnullN C dX4_counted_24 ?_
  refine k_iconst C 0 (by decide) dX4_counted_27 ?_
  refine k_goto C 35 (by decide) dX4_counted_28 ?_
  refine k_iast C [(z0, cZ .null z1 X.2.2), (z1, cQ cJ z2 z3), (z2, cA4 cI X.1), (z3, cA4 cI X.2.1), (q1, cA9 cI (X.2.2.1, X.2.2.2.1, 0, 0, 0, 0, 0, 0, 0))] 4 rfl vi9_2 (ar9 (X.2.2.1, X.2.2.2.1, 0, 0, 0, 0, 0, 0, 0)) (ar9_s2 _ _) rfl dX4_counted_35 ?_
  refine k_dup C rfl dX4_counted_36 ?_
  refine k_iconst C 3 (by decide) dX4_counted_37 ?_
  refine k_aload_n C dX4_counted_38 0 rfl ?_
  refine k_getX4 C 0 5 rfl (by decide) rfl q430 rfl dX4_counted_39 ?_
  refine k_iast C [(z0, cZ .null z1 X.2.2), (z1, cQ cJ z2 z3), (z2, cA4 cI X.1), (z3, cA4 cI X.2.1), (q1, cA9 cI (X.2.2.1, X.2.2.2.1, 0, X.2.2.2.2.2.1, 0, 0, 0, 0, 0))] 4 rfl vi9_3 (ar9 (X.2.2.1, X.2.2.2.1, 0, X.2.2.2.2.2.1, 0, 0, 0, 0, 0)) (ar9_s3 _ _) rfl dX4_counted_42 ?_
  refine k_dup C rfl dX4_counted_43 ?_
  refine k_iconst C 4 (by decide) dX4_counted_44 ?_
  refine k_aload_n C dX4_counted_45 0 rfl ?_
  refine k_getX4 C 0 6 rfl (by decide) rfl q431 rfl dX4_counted_46 ?_
  refine k_iast C [(z0, cZ .null z1 X.2.2), (z1, cQ cJ z2 z3), (z2, cA4 cI X.1), (z3, cA4 cI X.2.1), (q1, cA9 cI (X.2.2.1, X.2.2.2.1, 0, X.2.2.2.2.2.1, X.2.2.2.2.2.2.1, 0, 0, 0, 0))] 4 rfl vi9_4 (ar9 (X.2.2.1, X.2.2.2.1, 0, X.2.2.2.2.2.1, X.2.2.2.2.2.2.1, 0, 0, 0, 0)) (ar9_s4 _ _) rfl dX4_counted_49 ?_
  refine k_dup C rfl dX4_counted_50 ?_
  refine k_iconst C 5 (by decide) dX4_counted_51 ?_
  refine k_aload_n C dX4_counted_52 0 rfl ?_
  refine k_getX4 C 0 8 rfl (by decide) rfl q433 rfl dX4_counted_53 ?_
  refine k_iast C [(z0, cZ .null z1 X.2.2), (z1, cQ cJ z2 z3), (z2, cA4 cI X.1), (z3, cA4 cI X.2.1), (q1, cA9 cI (X.2.2.1, X.2.2.2.1, 0, X.2.2.2.2.2.1, X.2.2.2.2.2.2.1, X.2.2.2.2.2.2.2.2.1, 0, 0, 0))] 4 rfl vi9_5 (ar9 (X.2.2.1, X.2.2.2.1, 0, X.2.2.2.2.2.1, X.2.2.2.2.2.2.1, X.2.2.2.2.2.2.2.2.1, 0, 0, 0)) (ar9_s5 _ _) rfl dX4_counted_56 ?_
  refine k_dup C rfl dX4_counted_57 ?_
  refine k_bipush C 6 (by decide) dX4_counted_58 ?_
  refine k_aload_n C dX4_counted_60 0 rfl ?_
  refine k_callV_i C (mX4_canSet_n l D cI cJ z0 z1 z2 z3 X) (cwV 0 C.2.2.2.2.1 (kGV q475 q476 q477 q38 q478) rfl rfl rfl ⟨rfl, hdX4_canSet⟩ ⟨Nat.le_of_ble_eq_true rfl, Nat.le_of_ble_eq_true rfl⟩) [0, 1, 2, 3] [4] [1, 2, 3, 4, 0] [(q1, cA9 cI (X.2.2.1, X.2.2.2.1, 0, X.2.2.2.2.2.1, X.2.2.2.2.2.2.1, X.2.2.2.2.2.2.2.2.1, 0, 0, 0))] ([(z0, cZ .null z1 X.2.2), (z1, cQ cJ z2 z3), (z2, cA4 cI X.1), (z3, cA4 cI X.2.1), (q1, cA9 cI (X.2.2.1, X.2.2.2.1, 0, X.2.2.2.2.2.1, X.2.2.2.2.2.2.1, X.2.2.2.2.2.2.2.2.1, 0, 0, 0))]) rfl rfl rfl rfl (by decide) [z0, z1, z2, z3] rfl rfl rfl rfl 0 4 rfl rfl rfl (Nat.le_of_ble_eq_true rfl) ⟨Nat.le_of_ble_eq_true rfl, Nat.le_of_ble_eq_true rfl⟩ rfl dX4_counted_61 ?_
  generalize er2 : fX4_canSet_n X = r2
  refine k_if_eq C 71 (by decide) dX4_counted_64 (fun c3 => ?_) (fun c3 => ?_)
  ·
    refine k_iconst C 0 (by decide) dX4_counted_71 ?_
    refine k_iast C [(z0, cZ .null z1 X.2.2), (z1, cQ cJ z2 z3), (z2, cA4 cI X.1), (z3, cA4 cI X.2.1), (q1, cA9 cI (X.2.2.1, X.2.2.2.1, 0, X.2.2.2.2.2.1, X.2.2.2.2.2.2.1, X.2.2.2.2.2.2.2.2.1, 0, 0, 0))] 4 rfl vi9_6 (ar9 (X.2.2.1, X.2.2.2.1, 0, X.2.2.2.2.2.1, X.2.2.2.2.2.2.1, X.2.2.2.2.2.2.2.2.1, 0, 0, 0)) (ar9_s6 _ _) rfl dX4_counted_72 ?_
    refine k_dup C rfl dX4_counted_73 ?_
    refine k_bipush C 7 (by decide) dX4_counted_74 ?_
    refine k_aload_n C dX4_counted_76 0 rfl ?_
    refine k_callV_i C (mX4_winner l D cI cJ z0 z1 z2 z3 .null X) (cwV 0 C.2.2.2.2.1 (kGV q479 q463 q464 q38 q465) rfl rfl rfl ⟨rfl, hdX4_winner⟩ ⟨Nat.le_of_ble_eq_true rfl, Nat.le_of_ble_eq_true rfl⟩) [0, 1, 2, 3] [4] [1, 2, 3, 4, 0] [(q1, cA9 cI (X.2.2.1, X.2.2.2.1, 0, X.2.2.2.2.2.1, X.2.2.2.2.2.2.1, X.2.2.2.2.2.2.2.2.1, 0, 0, 0))] ([(z0, cZ .null z1 X.2.2), (z1, cQ cJ z2 z3), (z2, cA4 cI X.1), (z3, cA4 cI X.2.1), (q1, cA9 cI (X.2.2.1, X.2.2.2.1, 0, X.2.2.2.2.2.1, X.2.2.2.2.2.2.1, X.2.2.2.2.2.2.2.2.1, 0, 0, 0))]) rfl rfl rfl rfl (by decide) [z0, z1, z2, z3] rfl rfl rfl rfl 0 4 rfl rfl rfl (Nat.le_of_ble_eq_true rfl) ⟨Nat.le_of_ble_eq_true rfl, Nat.le_of_ble_eq_true rfl⟩ rfl dX4_counted_77 ?_
    generalize er4 : fX4_winner X = r4
    refine k_iast C [(z0, cZ .null z1 X.2.2), (z1, cQ cJ z2 z3), (z2, cA4 cI X.1), (z3, cA4 cI X.2.1), (q1, cA9 cI (X.2.2.1, X.2.2.2.1, 0, X.2.2.2.2.2.1, X.2.2.2.2.2.2.1, X.2.2.2.2.2.2.2.2.1, 0, r4, 0))] 4 rfl vi9_7 (ar9 (X.2.2.1, X.2.2.2.1, 0, X.2.2.2.2.2.1, X.2.2.2.2.2.2.1, X.2.2.2.2.2.2.2.2.1, 0, r4, 0)) (ar9_s7 _ _) rfl dX4_counted_80 ?_
    refine k_dup C rfl dX4_counted_81 ?_
    refine k_bipush C 8 (by decide) dX4_counted_82 ?_
    refine k_aload_n C dX4_counted_84 0 rfl ?_
    refine k_getX4 C 0 7 rfl (by decide) rfl q432 rfl dX4_counted_85 ?_
    refine k_iast C [(z0, cZ .null z1 X.2.2), (z1, cQ cJ z2 z3), (z2, cA4 cI X.1), (z3, cA4 cI X.2.1), (q1, cA9 cI (X.2.2.1, X.2.2.2.1, 0, X.2.2.2.2.2.1, X.2.2.2.2.2.2.1, X.2.2.2.2.2.2.2.2.1, 0, r4, X.2.2.2.2.2.2.2.1))] 4 rfl vi9_8 (ar9 (X.2.2.1, X.2.2.2.1, 0, X.2.2.2.2.2.1, X.2.2.2.2.2.2.1, X.2.2.2.2.2.2.2.2.1, 0, r4, X.2.2.2.2.2.2.2.1)) (ar9_s8 _ _) rfl dX4_counted_88 ?_
    refine k_astore_n C [(2, .ref q1), (0, .ref z0), (1, .int 7)] (by decide) rfl dX4_counted_89 ?_
    refine k_aload_n C dX4_counted_90 0 rfl ?_
    refine k_iload_n C dX4_counted_91 2 rfl ?_
    refine k_iald C 4 rfl vi9_7 (ar9_l7 _) dX4_counted_92 ?_
    have hL : fX4_counted_n7 X = r4 := by subst er4; subst er2; exact (if_pos c3).trans rfl
    refine k_widen (k' := 1) (n' := 9) (Nat.le_of_ble_eq_true rfl) (Nat.le_of_ble_eq_true rfl) ?_
    refine k_wsub (w' := [(z0, cZ .null z1 X.2.2), (z1, cQ cJ z2 z3), (z2, cA4 cI X.1), (z3, cA4 cI X.2.1)]) [0, 1, 2, 3] rfl rfl ?_
    exact k_iretG C rfl (by rw [hL]; exact ⟨rfl, rfl⟩) dX4_counted_93
  ·
    refine k_iconst C 1 (by decide) dX4_counted_67 ?_
    refine k_goto C 72 (by decide) dX4_counted_68 ?_
    refine k_iast C [(z0, cZ .null z1 X.2.2), (z1, cQ cJ z2 z3), (z2, cA4 cI X.1), (z3, cA4 cI X.2.1), (q1, cA9 cI (X.2.2.1, X.2.2.2.1, 0, X.2.2.2.2.2.1, X.2.2.2.2.2.2.1, X.2.2.2.2.2.2.2.2.1, 1, 0, 0))] 4 rfl vi9_6 (ar9 (X.2.2.1, X.2.2.2.1, 0, X.2.2.2.2.2.1, X.2.2.2.2.2.2.1, X.2.2.2.2.2.2.2.2.1, 1, 0, 0)) (ar9_s6 _ _) rfl dX4_counted_72 ?_
    refine k_dup C rfl dX4_counted_73 ?_
    refine k_bipush C 7 (by decide) dX4_counted_74 ?_
    refine k_aload_n C dX4_counted_76 0 rfl ?_
    refine k_callV_i C (mX4_winner l D cI cJ z0 z1 z2 z3 .null X) (cwV 0 C.2.2.2.2.1 (kGV q479 q463 q464 q38 q465) rfl rfl rfl ⟨rfl, hdX4_winner⟩ ⟨Nat.le_of_ble_eq_true rfl, Nat.le_of_ble_eq_true rfl⟩) [0, 1, 2, 3] [4] [1, 2, 3, 4, 0] [(q1, cA9 cI (X.2.2.1, X.2.2.2.1, 0, X.2.2.2.2.2.1, X.2.2.2.2.2.2.1, X.2.2.2.2.2.2.2.2.1, 1, 0, 0))] ([(z0, cZ .null z1 X.2.2), (z1, cQ cJ z2 z3), (z2, cA4 cI X.1), (z3, cA4 cI X.2.1), (q1, cA9 cI (X.2.2.1, X.2.2.2.1, 0, X.2.2.2.2.2.1, X.2.2.2.2.2.2.1, X.2.2.2.2.2.2.2.2.1, 1, 0, 0))]) rfl rfl rfl rfl (by decide) [z0, z1, z2, z3] rfl rfl rfl rfl 0 4 rfl rfl rfl (Nat.le_of_ble_eq_true rfl) ⟨Nat.le_of_ble_eq_true rfl, Nat.le_of_ble_eq_true rfl⟩ rfl dX4_counted_77 ?_
    generalize er5 : fX4_winner X = r5
    refine k_iast C [(z0, cZ .null z1 X.2.2), (z1, cQ cJ z2 z3), (z2, cA4 cI X.1), (z3, cA4 cI X.2.1), (q1, cA9 cI (X.2.2.1, X.2.2.2.1, 0, X.2.2.2.2.2.1, X.2.2.2.2.2.2.1, X.2.2.2.2.2.2.2.2.1, 1, r5, 0))] 4 rfl vi9_7 (ar9 (X.2.2.1, X.2.2.2.1, 0, X.2.2.2.2.2.1, X.2.2.2.2.2.2.1, X.2.2.2.2.2.2.2.2.1, 1, r5, 0)) (ar9_s7 _ _) rfl dX4_counted_80 ?_
    refine k_dup C rfl dX4_counted_81 ?_
    refine k_bipush C 8 (by decide) dX4_counted_82 ?_
    refine k_aload_n C dX4_counted_84 0 rfl ?_
    refine k_getX4 C 0 7 rfl (by decide) rfl q432 rfl dX4_counted_85 ?_
    refine k_iast C [(z0, cZ .null z1 X.2.2), (z1, cQ cJ z2 z3), (z2, cA4 cI X.1), (z3, cA4 cI X.2.1), (q1, cA9 cI (X.2.2.1, X.2.2.2.1, 0, X.2.2.2.2.2.1, X.2.2.2.2.2.2.1, X.2.2.2.2.2.2.2.2.1, 1, r5, X.2.2.2.2.2.2.2.1))] 4 rfl vi9_8 (ar9 (X.2.2.1, X.2.2.2.1, 0, X.2.2.2.2.2.1, X.2.2.2.2.2.2.1, X.2.2.2.2.2.2.2.2.1, 1, r5, X.2.2.2.2.2.2.2.1)) (ar9_s8 _ _) rfl dX4_counted_88 ?_
    refine k_astore_n C [(2, .ref q1), (0, .ref z0), (1, .int 7)] (by decide) rfl dX4_counted_89 ?_
    refine k_aload_n C dX4_counted_90 0 rfl ?_
    refine k_iload_n C dX4_counted_91 2 rfl ?_
    refine k_iald C 4 rfl vi9_7 (ar9_l7 _) dX4_counted_92 ?_
    have hL : fX4_counted_n7 X = r5 := by subst er5; subst er2; exact (if_neg c3).trans rfl
    refine k_widen (k' := 1) (n' := 9) (Nat.le_of_ble_eq_true rfl) (Nat.le_of_ble_eq_true rfl) ?_
    refine k_wsub (w' := [(z0, cZ .null z1 X.2.2), (z1, cQ cJ z2 z3), (z2, cA4 cI X.1), (z3, cA4 cI X.2.1)]) [0, 1, 2, 3] rfl rfl ?_
    exact k_iretG C rfl (by rw [hL]; exact ⟨rfl, rfl⟩) dX4_counted_93

noncomputable def fX4_counted_r7 (X : Zs) (b : Lb) : Int32 :=
  if (fX4_canSet_r X b) = 0 then (fX4_winner X)
  else (fX4_winner X)
set_option maxHeartbeats 4000000 in
set_option maxRecDepth 100000 in
theorem mX4_counted_r7 (l : Launch) (D : va_G) (cI cJ : ClassId) (z0 z1 z2 z3 z4 : Nat) (X : Zs) (b : Lb) : kGi l D cI cJ yX4_counted (.code yX4_counted cX4_counted 3 (some .int)) { frames := 1, cells := 1, slots := 9, locals := 20 } [.ref z0, .int 7] [(z0, cZ (.ref z4) z1 X.2.2), (z1, cQ cJ z2 z3), (z2, cA4 cI X.1), (z3, cA4 cI X.2.1), (z4, cL b)] 1 9 (fun r U => r = fX4_counted_r7 X b ∧ U = [(z0, cZ (.ref z4) z1 X.2.2), (z1, cQ cJ z2 z3), (z2, cA4 cI X.1), (z3, cA4 cI X.2.1), (z4, cL b)]) := by
  refine fun sz => k_ofN (lv := [(0, .ref z0), (1, .int 7)]) (by decide) sz (Nat.le_of_ble_eq_true rfl) rfl ?_
  intro p e s m args below meth c hsz hnm C
  refine k_bipush C 9 (by decide) dX4_counted_0 ?_
  refine k_newI C 9 (ar9 (0, 0, 0, 0, 0, 0, 0, 0, 0)) zf9 (by decide) (by decide) (by decide) (Nat.le_of_ble_eq_true rfl) (Nat.le_of_ble_eq_true rfl) dX4_counted_2 (fun q1 => ?_)
  refine k_dup C rfl dX4_counted_4 ?_
  refine k_iconst C 0 (by decide) dX4_counted_5 ?_
  refine k_aload_n C dX4_counted_6 0 rfl ?_
  refine k_getX4 C 0 0 rfl (by decide) rfl q423 rfl dX4_counted_7 ?_
  refine k_iast C [(z0, cZ (.ref z4) z1 X.2.2), (z1, cQ cJ z2 z3), (z2, cA4 cI X.1), (z3, cA4 cI X.2.1), (z4, cL b), (q1, cA9 cI (X.2.2.1, 0, 0, 0, 0, 0, 0, 0, 0))] 5 rfl vi9_0 (ar9 (X.2.2.1, 0, 0, 0, 0, 0, 0, 0, 0)) (ar9_s0 _ _) rfl dX4_counted_10 ?_
  refine k_dup C rfl dX4_counted_11 ?_
  refine k_iconst C 1 (by decide) dX4_counted_12 ?_
  refine k_aload_n C dX4_counted_13 0 rfl ?_
  refine k_getX4 C 0 1 rfl (by decide) rfl q424 rfl dX4_counted_14 ?_
  refine k_iast C [(z0, cZ (.ref z4) z1 X.2.2), (z1, cQ cJ z2 z3), (z2, cA4 cI X.1), (z3, cA4 cI X.2.1), (z4, cL b), (q1, cA9 cI (X.2.2.1, X.2.2.2.1, 0, 0, 0, 0, 0, 0, 0))] 5 rfl vi9_1 (ar9 (X.2.2.1, X.2.2.2.1, 0, 0, 0, 0, 0, 0, 0)) (ar9_s1 _ _) rfl dX4_counted_17 ?_
  refine k_dup C rfl dX4_counted_18 ?_
  refine k_iconst C 2 (by decide) dX4_counted_19 ?_
  refine k_aload_n C dX4_counted_20 0 rfl ?_
  refine k_getX4 C 0 3 rfl (by decide) rfl q426 rfl dX4_counted_21 ?_
  refine k_ifnonnull C 31 (by decide) dX4_counted_24 ?_
  refine k_aload_n C dX4_counted_31 0 rfl ?_
  refine k_getX4 C 0 2 rfl (by decide) rfl q425 rfl dX4_counted_32 ?_
  refine k_iast C [(z0, cZ (.ref z4) z1 X.2.2), (z1, cQ cJ z2 z3), (z2, cA4 cI X.1), (z3, cA4 cI X.2.1), (z4, cL b), (q1, cA9 cI (X.2.2.1, X.2.2.2.1, X.2.2.2.2.1, 0, 0, 0, 0, 0, 0))] 5 rfl vi9_2 (ar9 (X.2.2.1, X.2.2.2.1, X.2.2.2.2.1, 0, 0, 0, 0, 0, 0)) (ar9_s2 _ _) rfl dX4_counted_35 ?_
  refine k_dup C rfl dX4_counted_36 ?_
  refine k_iconst C 3 (by decide) dX4_counted_37 ?_
  refine k_aload_n C dX4_counted_38 0 rfl ?_
  refine k_getX4 C 0 5 rfl (by decide) rfl q430 rfl dX4_counted_39 ?_
  refine k_iast C [(z0, cZ (.ref z4) z1 X.2.2), (z1, cQ cJ z2 z3), (z2, cA4 cI X.1), (z3, cA4 cI X.2.1), (z4, cL b), (q1, cA9 cI (X.2.2.1, X.2.2.2.1, X.2.2.2.2.1, X.2.2.2.2.2.1, 0, 0, 0, 0, 0))] 5 rfl vi9_3 (ar9 (X.2.2.1, X.2.2.2.1, X.2.2.2.2.1, X.2.2.2.2.2.1, 0, 0, 0, 0, 0)) (ar9_s3 _ _) rfl dX4_counted_42 ?_
  refine k_dup C rfl dX4_counted_43 ?_
  refine k_iconst C 4 (by decide) dX4_counted_44 ?_
  refine k_aload_n C dX4_counted_45 0 rfl ?_
  refine k_getX4 C 0 6 rfl (by decide) rfl q431 rfl dX4_counted_46 ?_
  refine k_iast C [(z0, cZ (.ref z4) z1 X.2.2), (z1, cQ cJ z2 z3), (z2, cA4 cI X.1), (z3, cA4 cI X.2.1), (z4, cL b), (q1, cA9 cI (X.2.2.1, X.2.2.2.1, X.2.2.2.2.1, X.2.2.2.2.2.1, X.2.2.2.2.2.2.1, 0, 0, 0, 0))] 5 rfl vi9_4 (ar9 (X.2.2.1, X.2.2.2.1, X.2.2.2.2.1, X.2.2.2.2.2.1, X.2.2.2.2.2.2.1, 0, 0, 0, 0)) (ar9_s4 _ _) rfl dX4_counted_49 ?_
  refine k_dup C rfl dX4_counted_50 ?_
  refine k_iconst C 5 (by decide) dX4_counted_51 ?_
  refine k_aload_n C dX4_counted_52 0 rfl ?_
  refine k_getX4 C 0 8 rfl (by decide) rfl q433 rfl dX4_counted_53 ?_
  refine k_iast C [(z0, cZ (.ref z4) z1 X.2.2), (z1, cQ cJ z2 z3), (z2, cA4 cI X.1), (z3, cA4 cI X.2.1), (z4, cL b), (q1, cA9 cI (X.2.2.1, X.2.2.2.1, X.2.2.2.2.1, X.2.2.2.2.2.1, X.2.2.2.2.2.2.1, X.2.2.2.2.2.2.2.2.1, 0, 0, 0))] 5 rfl vi9_5 (ar9 (X.2.2.1, X.2.2.2.1, X.2.2.2.2.1, X.2.2.2.2.2.1, X.2.2.2.2.2.2.1, X.2.2.2.2.2.2.2.2.1, 0, 0, 0)) (ar9_s5 _ _) rfl dX4_counted_56 ?_
  refine k_dup C rfl dX4_counted_57 ?_
  refine k_bipush C 6 (by decide) dX4_counted_58 ?_
  refine k_aload_n C dX4_counted_60 0 rfl ?_
  refine k_callV_i C (mX4_canSet_r l D cI cJ z0 z1 z2 z3 z4 X b) (cwV 0 C.2.2.2.2.1 (kGV q475 q476 q477 q38 q478) rfl rfl rfl ⟨rfl, hdX4_canSet⟩ ⟨Nat.le_of_ble_eq_true rfl, Nat.le_of_ble_eq_true rfl⟩) [0, 1, 2, 3, 4] [5] [1, 2, 3, 4, 5, 0] [(q1, cA9 cI (X.2.2.1, X.2.2.2.1, X.2.2.2.2.1, X.2.2.2.2.2.1, X.2.2.2.2.2.2.1, X.2.2.2.2.2.2.2.2.1, 0, 0, 0))] ([(z0, cZ (.ref z4) z1 X.2.2), (z1, cQ cJ z2 z3), (z2, cA4 cI X.1), (z3, cA4 cI X.2.1), (z4, cL b), (q1, cA9 cI (X.2.2.1, X.2.2.2.1, X.2.2.2.2.1, X.2.2.2.2.2.1, X.2.2.2.2.2.2.1, X.2.2.2.2.2.2.2.2.1, 0, 0, 0))]) rfl rfl rfl rfl (by decide) [z0, z1, z2, z3, z4] rfl rfl rfl rfl 0 4 rfl rfl rfl (Nat.le_of_ble_eq_true rfl) ⟨Nat.le_of_ble_eq_true rfl, Nat.le_of_ble_eq_true rfl⟩ rfl dX4_counted_61 ?_
  generalize er2 : fX4_canSet_r X b = r2
  refine k_if_eq C 71 (by decide) dX4_counted_64 (fun c3 => ?_) (fun c3 => ?_)
  ·
    refine k_iconst C 0 (by decide) dX4_counted_71 ?_
    refine k_iast C [(z0, cZ (.ref z4) z1 X.2.2), (z1, cQ cJ z2 z3), (z2, cA4 cI X.1), (z3, cA4 cI X.2.1), (z4, cL b), (q1, cA9 cI (X.2.2.1, X.2.2.2.1, X.2.2.2.2.1, X.2.2.2.2.2.1, X.2.2.2.2.2.2.1, X.2.2.2.2.2.2.2.2.1, 0, 0, 0))] 5 rfl vi9_6 (ar9 (X.2.2.1, X.2.2.2.1, X.2.2.2.2.1, X.2.2.2.2.2.1, X.2.2.2.2.2.2.1, X.2.2.2.2.2.2.2.2.1, 0, 0, 0)) (ar9_s6 _ _) rfl dX4_counted_72 ?_
    refine k_dup C rfl dX4_counted_73 ?_
    refine k_bipush C 7 (by decide) dX4_counted_74 ?_
    refine k_aload_n C dX4_counted_76 0 rfl ?_
    refine k_callV_i C (mX4_winner l D cI cJ z0 z1 z2 z3 (.ref z4) X) (cwV 0 C.2.2.2.2.1 (kGV q479 q463 q464 q38 q465) rfl rfl rfl ⟨rfl, hdX4_winner⟩ ⟨Nat.le_of_ble_eq_true rfl, Nat.le_of_ble_eq_true rfl⟩) [0, 1, 2, 3] [4, 5] [2, 3, 4, 5, 0, 1] [(z4, cL b), (q1, cA9 cI (X.2.2.1, X.2.2.2.1, X.2.2.2.2.1, X.2.2.2.2.2.1, X.2.2.2.2.2.2.1, X.2.2.2.2.2.2.2.2.1, 0, 0, 0))] ([(z0, cZ (.ref z4) z1 X.2.2), (z1, cQ cJ z2 z3), (z2, cA4 cI X.1), (z3, cA4 cI X.2.1), (z4, cL b), (q1, cA9 cI (X.2.2.1, X.2.2.2.1, X.2.2.2.2.1, X.2.2.2.2.2.1, X.2.2.2.2.2.2.1, X.2.2.2.2.2.2.2.2.1, 0, 0, 0))]) rfl rfl rfl rfl (by decide) [z0, z1, z2, z3] rfl rfl rfl rfl 0 4 rfl rfl rfl (Nat.le_of_ble_eq_true rfl) ⟨Nat.le_of_ble_eq_true rfl, Nat.le_of_ble_eq_true rfl⟩ rfl dX4_counted_77 ?_
    generalize er4 : fX4_winner X = r4
    refine k_iast C [(z0, cZ (.ref z4) z1 X.2.2), (z1, cQ cJ z2 z3), (z2, cA4 cI X.1), (z3, cA4 cI X.2.1), (z4, cL b), (q1, cA9 cI (X.2.2.1, X.2.2.2.1, X.2.2.2.2.1, X.2.2.2.2.2.1, X.2.2.2.2.2.2.1, X.2.2.2.2.2.2.2.2.1, 0, r4, 0))] 5 rfl vi9_7 (ar9 (X.2.2.1, X.2.2.2.1, X.2.2.2.2.1, X.2.2.2.2.2.1, X.2.2.2.2.2.2.1, X.2.2.2.2.2.2.2.2.1, 0, r4, 0)) (ar9_s7 _ _) rfl dX4_counted_80 ?_
    refine k_dup C rfl dX4_counted_81 ?_
    refine k_bipush C 8 (by decide) dX4_counted_82 ?_
    refine k_aload_n C dX4_counted_84 0 rfl ?_
    refine k_getX4 C 0 7 rfl (by decide) rfl q432 rfl dX4_counted_85 ?_
    refine k_iast C [(z0, cZ (.ref z4) z1 X.2.2), (z1, cQ cJ z2 z3), (z2, cA4 cI X.1), (z3, cA4 cI X.2.1), (z4, cL b), (q1, cA9 cI (X.2.2.1, X.2.2.2.1, X.2.2.2.2.1, X.2.2.2.2.2.1, X.2.2.2.2.2.2.1, X.2.2.2.2.2.2.2.2.1, 0, r4, X.2.2.2.2.2.2.2.1))] 5 rfl vi9_8 (ar9 (X.2.2.1, X.2.2.2.1, X.2.2.2.2.1, X.2.2.2.2.2.1, X.2.2.2.2.2.2.1, X.2.2.2.2.2.2.2.2.1, 0, r4, X.2.2.2.2.2.2.2.1)) (ar9_s8 _ _) rfl dX4_counted_88 ?_
    refine k_astore_n C [(2, .ref q1), (0, .ref z0), (1, .int 7)] (by decide) rfl dX4_counted_89 ?_
    refine k_aload_n C dX4_counted_90 0 rfl ?_
    refine k_iload_n C dX4_counted_91 2 rfl ?_
    refine k_iald C 5 rfl vi9_7 (ar9_l7 _) dX4_counted_92 ?_
    have hL : fX4_counted_r7 X b = r4 := by subst er4; subst er2; exact (if_pos c3).trans rfl
    refine k_widen (k' := 1) (n' := 9) (Nat.le_of_ble_eq_true rfl) (Nat.le_of_ble_eq_true rfl) ?_
    refine k_wsub (w' := [(z0, cZ (.ref z4) z1 X.2.2), (z1, cQ cJ z2 z3), (z2, cA4 cI X.1), (z3, cA4 cI X.2.1), (z4, cL b)]) [0, 1, 2, 3, 4] rfl rfl ?_
    exact k_iretG C rfl (by rw [hL]; exact ⟨rfl, rfl⟩) dX4_counted_93
  ·
    refine k_iconst C 1 (by decide) dX4_counted_67 ?_
    refine k_goto C 72 (by decide) dX4_counted_68 ?_
    refine k_iast C [(z0, cZ (.ref z4) z1 X.2.2), (z1, cQ cJ z2 z3), (z2, cA4 cI X.1), (z3, cA4 cI X.2.1), (z4, cL b), (q1, cA9 cI (X.2.2.1, X.2.2.2.1, X.2.2.2.2.1, X.2.2.2.2.2.1, X.2.2.2.2.2.2.1, X.2.2.2.2.2.2.2.2.1, 1, 0, 0))] 5 rfl vi9_6 (ar9 (X.2.2.1, X.2.2.2.1, X.2.2.2.2.1, X.2.2.2.2.2.1, X.2.2.2.2.2.2.1, X.2.2.2.2.2.2.2.2.1, 1, 0, 0)) (ar9_s6 _ _) rfl dX4_counted_72 ?_
    refine k_dup C rfl dX4_counted_73 ?_
    refine k_bipush C 7 (by decide) dX4_counted_74 ?_
    refine k_aload_n C dX4_counted_76 0 rfl ?_
    refine k_callV_i C (mX4_winner l D cI cJ z0 z1 z2 z3 (.ref z4) X) (cwV 0 C.2.2.2.2.1 (kGV q479 q463 q464 q38 q465) rfl rfl rfl ⟨rfl, hdX4_winner⟩ ⟨Nat.le_of_ble_eq_true rfl, Nat.le_of_ble_eq_true rfl⟩) [0, 1, 2, 3] [4, 5] [2, 3, 4, 5, 0, 1] [(z4, cL b), (q1, cA9 cI (X.2.2.1, X.2.2.2.1, X.2.2.2.2.1, X.2.2.2.2.2.1, X.2.2.2.2.2.2.1, X.2.2.2.2.2.2.2.2.1, 1, 0, 0))] ([(z0, cZ (.ref z4) z1 X.2.2), (z1, cQ cJ z2 z3), (z2, cA4 cI X.1), (z3, cA4 cI X.2.1), (z4, cL b), (q1, cA9 cI (X.2.2.1, X.2.2.2.1, X.2.2.2.2.1, X.2.2.2.2.2.1, X.2.2.2.2.2.2.1, X.2.2.2.2.2.2.2.2.1, 1, 0, 0))]) rfl rfl rfl rfl (by decide) [z0, z1, z2, z3] rfl rfl rfl rfl 0 4 rfl rfl rfl (Nat.le_of_ble_eq_true rfl) ⟨Nat.le_of_ble_eq_true rfl, Nat.le_of_ble_eq_true rfl⟩ rfl dX4_counted_77 ?_
    generalize er5 : fX4_winner X = r5
    refine k_iast C [(z0, cZ (.ref z4) z1 X.2.2), (z1, cQ cJ z2 z3), (z2, cA4 cI X.1), (z3, cA4 cI X.2.1), (z4, cL b), (q1, cA9 cI (X.2.2.1, X.2.2.2.1, X.2.2.2.2.1, X.2.2.2.2.2.1, X.2.2.2.2.2.2.1, X.2.2.2.2.2.2.2.2.1, 1, r5, 0))] 5 rfl vi9_7 (ar9 (X.2.2.1, X.2.2.2.1, X.2.2.2.2.1, X.2.2.2.2.2.1, X.2.2.2.2.2.2.1, X.2.2.2.2.2.2.2.2.1, 1, r5, 0)) (ar9_s7 _ _) rfl dX4_counted_80 ?_
    refine k_dup C rfl dX4_counted_81 ?_
    refine k_bipush C 8 (by decide) dX4_counted_82 ?_
    refine k_aload_n C dX4_counted_84 0 rfl ?_
    refine k_getX4 C 0 7 rfl (by decide) rfl q432 rfl dX4_counted_85 ?_
    refine k_iast C [(z0, cZ (.ref z4) z1 X.2.2), (z1, cQ cJ z2 z3), (z2, cA4 cI X.1), (z3, cA4 cI X.2.1), (z4, cL b), (q1, cA9 cI (X.2.2.1, X.2.2.2.1, X.2.2.2.2.1, X.2.2.2.2.2.1, X.2.2.2.2.2.2.1, X.2.2.2.2.2.2.2.2.1, 1, r5, X.2.2.2.2.2.2.2.1))] 5 rfl vi9_8 (ar9 (X.2.2.1, X.2.2.2.1, X.2.2.2.2.1, X.2.2.2.2.2.1, X.2.2.2.2.2.2.1, X.2.2.2.2.2.2.2.2.1, 1, r5, X.2.2.2.2.2.2.2.1)) (ar9_s8 _ _) rfl dX4_counted_88 ?_
    refine k_astore_n C [(2, .ref q1), (0, .ref z0), (1, .int 7)] (by decide) rfl dX4_counted_89 ?_
    refine k_aload_n C dX4_counted_90 0 rfl ?_
    refine k_iload_n C dX4_counted_91 2 rfl ?_
    refine k_iald C 5 rfl vi9_7 (ar9_l7 _) dX4_counted_92 ?_
    have hL : fX4_counted_r7 X b = r5 := by subst er5; subst er2; exact (if_neg c3).trans rfl
    refine k_widen (k' := 1) (n' := 9) (Nat.le_of_ble_eq_true rfl) (Nat.le_of_ble_eq_true rfl) ?_
    refine k_wsub (w' := [(z0, cZ (.ref z4) z1 X.2.2), (z1, cQ cJ z2 z3), (z2, cA4 cI X.1), (z3, cA4 cI X.2.1), (z4, cL b)]) [0, 1, 2, 3, 4] rfl rfl ?_
    exact k_iretG C rfl (by rw [hL]; exact ⟨rfl, rfl⟩) dX4_counted_93

noncomputable def fX4_counted_n8 (X : Zs) : Int32 :=
  if (fX4_canSet_n X) = 0 then X.2.2.2.2.2.2.2.1
  else X.2.2.2.2.2.2.2.1
set_option maxHeartbeats 4000000 in
set_option maxRecDepth 100000 in
theorem mX4_counted_n8 (l : Launch) (D : va_G) (cI cJ : ClassId) (z0 z1 z2 z3 : Nat) (X : Zs) : kGi l D cI cJ yX4_counted (.code yX4_counted cX4_counted 3 (some .int)) { frames := 1, cells := 1, slots := 9, locals := 20 } [.ref z0, .int 8] [(z0, cZ .null z1 X.2.2), (z1, cQ cJ z2 z3), (z2, cA4 cI X.1), (z3, cA4 cI X.2.1)] 1 9 (fun r U => r = fX4_counted_n8 X ∧ U = [(z0, cZ .null z1 X.2.2), (z1, cQ cJ z2 z3), (z2, cA4 cI X.1), (z3, cA4 cI X.2.1)]) := by
  refine fun sz => k_ofN (lv := [(0, .ref z0), (1, .int 8)]) (by decide) sz (Nat.le_of_ble_eq_true rfl) rfl ?_
  intro p e s m args below meth c hsz hnm C
  refine k_bipush C 9 (by decide) dX4_counted_0 ?_
  refine k_newI C 9 (ar9 (0, 0, 0, 0, 0, 0, 0, 0, 0)) zf9 (by decide) (by decide) (by decide) (Nat.le_of_ble_eq_true rfl) (Nat.le_of_ble_eq_true rfl) dX4_counted_2 (fun q1 => ?_)
  refine k_dup C rfl dX4_counted_4 ?_
  refine k_iconst C 0 (by decide) dX4_counted_5 ?_
  refine k_aload_n C dX4_counted_6 0 rfl ?_
  refine k_getX4 C 0 0 rfl (by decide) rfl q423 rfl dX4_counted_7 ?_
  refine k_iast C [(z0, cZ .null z1 X.2.2), (z1, cQ cJ z2 z3), (z2, cA4 cI X.1), (z3, cA4 cI X.2.1), (q1, cA9 cI (X.2.2.1, 0, 0, 0, 0, 0, 0, 0, 0))] 4 rfl vi9_0 (ar9 (X.2.2.1, 0, 0, 0, 0, 0, 0, 0, 0)) (ar9_s0 _ _) rfl dX4_counted_10 ?_
  refine k_dup C rfl dX4_counted_11 ?_
  refine k_iconst C 1 (by decide) dX4_counted_12 ?_
  refine k_aload_n C dX4_counted_13 0 rfl ?_
  refine k_getX4 C 0 1 rfl (by decide) rfl q424 rfl dX4_counted_14 ?_
  refine k_iast C [(z0, cZ .null z1 X.2.2), (z1, cQ cJ z2 z3), (z2, cA4 cI X.1), (z3, cA4 cI X.2.1), (q1, cA9 cI (X.2.2.1, X.2.2.2.1, 0, 0, 0, 0, 0, 0, 0))] 4 rfl vi9_1 (ar9 (X.2.2.1, X.2.2.2.1, 0, 0, 0, 0, 0, 0, 0)) (ar9_s1 _ _) rfl dX4_counted_17 ?_
  refine k_dup C rfl dX4_counted_18 ?_
  refine k_iconst C 2 (by decide) dX4_counted_19 ?_
  refine k_aload_n C dX4_counted_20 0 rfl ?_
  refine k_getX4 C 0 3 rfl (by decide) rfl q426 rfl dX4_counted_21 ?_
  refine k_ifnonnullN C dX4_counted_24 ?_
  refine k_iconst C 0 (by decide) dX4_counted_27 ?_
  refine k_goto C 35 (by decide) dX4_counted_28 ?_
  refine k_iast C [(z0, cZ .null z1 X.2.2), (z1, cQ cJ z2 z3), (z2, cA4 cI X.1), (z3, cA4 cI X.2.1), (q1, cA9 cI (X.2.2.1, X.2.2.2.1, 0, 0, 0, 0, 0, 0, 0))] 4 rfl vi9_2 (ar9 (X.2.2.1, X.2.2.2.1, 0, 0, 0, 0, 0, 0, 0)) (ar9_s2 _ _) rfl dX4_counted_35 ?_
  refine k_dup C rfl dX4_counted_36 ?_
  refine k_iconst C 3 (by decide) dX4_counted_37 ?_
  refine k_aload_n C dX4_counted_38 0 rfl ?_
  refine k_getX4 C 0 5 rfl (by decide) rfl q430 rfl dX4_counted_39 ?_
  refine k_iast C [(z0, cZ .null z1 X.2.2), (z1, cQ cJ z2 z3), (z2, cA4 cI X.1), (z3, cA4 cI X.2.1), (q1, cA9 cI (X.2.2.1, X.2.2.2.1, 0, X.2.2.2.2.2.1, 0, 0, 0, 0, 0))] 4 rfl vi9_3 (ar9 (X.2.2.1, X.2.2.2.1, 0, X.2.2.2.2.2.1, 0, 0, 0, 0, 0)) (ar9_s3 _ _) rfl dX4_counted_42 ?_
  refine k_dup C rfl dX4_counted_43 ?_
  refine k_iconst C 4 (by decide) dX4_counted_44 ?_
  refine k_aload_n C dX4_counted_45 0 rfl ?_
  refine k_getX4 C 0 6 rfl (by decide) rfl q431 rfl dX4_counted_46 ?_
  refine k_iast C [(z0, cZ .null z1 X.2.2), (z1, cQ cJ z2 z3), (z2, cA4 cI X.1), (z3, cA4 cI X.2.1), (q1, cA9 cI (X.2.2.1, X.2.2.2.1, 0, X.2.2.2.2.2.1, X.2.2.2.2.2.2.1, 0, 0, 0, 0))] 4 rfl vi9_4 (ar9 (X.2.2.1, X.2.2.2.1, 0, X.2.2.2.2.2.1, X.2.2.2.2.2.2.1, 0, 0, 0, 0)) (ar9_s4 _ _) rfl dX4_counted_49 ?_
  refine k_dup C rfl dX4_counted_50 ?_
  refine k_iconst C 5 (by decide) dX4_counted_51 ?_
  refine k_aload_n C dX4_counted_52 0 rfl ?_
  refine k_getX4 C 0 8 rfl (by decide) rfl q433 rfl dX4_counted_53 ?_
  refine k_iast C [(z0, cZ .null z1 X.2.2), (z1, cQ cJ z2 z3), (z2, cA4 cI X.1), (z3, cA4 cI X.2.1), (q1, cA9 cI (X.2.2.1, X.2.2.2.1, 0, X.2.2.2.2.2.1, X.2.2.2.2.2.2.1, X.2.2.2.2.2.2.2.2.1, 0, 0, 0))] 4 rfl vi9_5 (ar9 (X.2.2.1, X.2.2.2.1, 0, X.2.2.2.2.2.1, X.2.2.2.2.2.2.1, X.2.2.2.2.2.2.2.2.1, 0, 0, 0)) (ar9_s5 _ _) rfl dX4_counted_56 ?_
  refine k_dup C rfl dX4_counted_57 ?_
  refine k_bipush C 6 (by decide) dX4_counted_58 ?_
  refine k_aload_n C dX4_counted_60 0 rfl ?_
  refine k_callV_i C (mX4_canSet_n l D cI cJ z0 z1 z2 z3 X) (cwV 0 C.2.2.2.2.1 (kGV q475 q476 q477 q38 q478) rfl rfl rfl ⟨rfl, hdX4_canSet⟩ ⟨Nat.le_of_ble_eq_true rfl, Nat.le_of_ble_eq_true rfl⟩) [0, 1, 2, 3] [4] [1, 2, 3, 4, 0] [(q1, cA9 cI (X.2.2.1, X.2.2.2.1, 0, X.2.2.2.2.2.1, X.2.2.2.2.2.2.1, X.2.2.2.2.2.2.2.2.1, 0, 0, 0))] ([(z0, cZ .null z1 X.2.2), (z1, cQ cJ z2 z3), (z2, cA4 cI X.1), (z3, cA4 cI X.2.1), (q1, cA9 cI (X.2.2.1, X.2.2.2.1, 0, X.2.2.2.2.2.1, X.2.2.2.2.2.2.1, X.2.2.2.2.2.2.2.2.1, 0, 0, 0))]) rfl rfl rfl rfl (by decide) [z0, z1, z2, z3] rfl rfl rfl rfl 0 4 rfl rfl rfl (Nat.le_of_ble_eq_true rfl) ⟨Nat.le_of_ble_eq_true rfl, Nat.le_of_ble_eq_true rfl⟩ rfl dX4_counted_61 ?_
  generalize er2 : fX4_canSet_n X = r2
  refine k_if_eq C 71 (by decide) dX4_counted_64 (fun c3 => ?_) (fun c3 => ?_)
  ·
    refine k_iconst C 0 (by decide) dX4_counted_71 ?_
    refine k_iast C [(z0, cZ .null z1 X.2.2), (z1, cQ cJ z2 z3), (z2, cA4 cI X.1), (z3, cA4 cI X.2.1), (q1, cA9 cI (X.2.2.1, X.2.2.2.1, 0, X.2.2.2.2.2.1, X.2.2.2.2.2.2.1, X.2.2.2.2.2.2.2.2.1, 0, 0, 0))] 4 rfl vi9_6 (ar9 (X.2.2.1, X.2.2.2.1, 0, X.2.2.2.2.2.1, X.2.2.2.2.2.2.1, X.2.2.2.2.2.2.2.2.1, 0, 0, 0)) (ar9_s6 _ _) rfl dX4_counted_72 ?_
    refine k_dup C rfl dX4_counted_73 ?_
    refine k_bipush C 7 (by decide) dX4_counted_74 ?_
    refine k_aload_n C dX4_counted_76 0 rfl ?_
    refine k_callV_i C (mX4_winner l D cI cJ z0 z1 z2 z3 .null X) (cwV 0 C.2.2.2.2.1 (kGV q479 q463 q464 q38 q465) rfl rfl rfl ⟨rfl, hdX4_winner⟩ ⟨Nat.le_of_ble_eq_true rfl, Nat.le_of_ble_eq_true rfl⟩) [0, 1, 2, 3] [4] [1, 2, 3, 4, 0] [(q1, cA9 cI (X.2.2.1, X.2.2.2.1, 0, X.2.2.2.2.2.1, X.2.2.2.2.2.2.1, X.2.2.2.2.2.2.2.2.1, 0, 0, 0))] ([(z0, cZ .null z1 X.2.2), (z1, cQ cJ z2 z3), (z2, cA4 cI X.1), (z3, cA4 cI X.2.1), (q1, cA9 cI (X.2.2.1, X.2.2.2.1, 0, X.2.2.2.2.2.1, X.2.2.2.2.2.2.1, X.2.2.2.2.2.2.2.2.1, 0, 0, 0))]) rfl rfl rfl rfl (by decide) [z0, z1, z2, z3] rfl rfl rfl rfl 0 4 rfl rfl rfl (Nat.le_of_ble_eq_true rfl) ⟨Nat.le_of_ble_eq_true rfl, Nat.le_of_ble_eq_true rfl⟩ rfl dX4_counted_77 ?_
    generalize er4 : fX4_winner X = r4
    refine k_iast C [(z0, cZ .null z1 X.2.2), (z1, cQ cJ z2 z3), (z2, cA4 cI X.1), (z3, cA4 cI X.2.1), (q1, cA9 cI (X.2.2.1, X.2.2.2.1, 0, X.2.2.2.2.2.1, X.2.2.2.2.2.2.1, X.2.2.2.2.2.2.2.2.1, 0, r4, 0))] 4 rfl vi9_7 (ar9 (X.2.2.1, X.2.2.2.1, 0, X.2.2.2.2.2.1, X.2.2.2.2.2.2.1, X.2.2.2.2.2.2.2.2.1, 0, r4, 0)) (ar9_s7 _ _) rfl dX4_counted_80 ?_
    refine k_dup C rfl dX4_counted_81 ?_
    refine k_bipush C 8 (by decide) dX4_counted_82 ?_
    refine k_aload_n C dX4_counted_84 0 rfl ?_
    refine k_getX4 C 0 7 rfl (by decide) rfl q432 rfl dX4_counted_85 ?_
    refine k_iast C [(z0, cZ .null z1 X.2.2), (z1, cQ cJ z2 z3), (z2, cA4 cI X.1), (z3, cA4 cI X.2.1), (q1, cA9 cI (X.2.2.1, X.2.2.2.1, 0, X.2.2.2.2.2.1, X.2.2.2.2.2.2.1, X.2.2.2.2.2.2.2.2.1, 0, r4, X.2.2.2.2.2.2.2.1))] 4 rfl vi9_8 (ar9 (X.2.2.1, X.2.2.2.1, 0, X.2.2.2.2.2.1, X.2.2.2.2.2.2.1, X.2.2.2.2.2.2.2.2.1, 0, r4, X.2.2.2.2.2.2.2.1)) (ar9_s8 _ _) rfl dX4_counted_88 ?_
    refine k_astore_n C [(2, .ref q1), (0, .ref z0), (1, .int 8)] (by decide) rfl dX4_counted_89 ?_
    refine k_aload_n C dX4_counted_90 0 rfl ?_
    refine k_iload_n C dX4_counted_91 2 rfl ?_
    refine k_iald C 4 rfl vi9_8 (ar9_l8 _) dX4_counted_92 ?_
    have hL : fX4_counted_n8 X = X.2.2.2.2.2.2.2.1 := by subst er4; subst er2; exact (if_pos c3).trans rfl
    refine k_widen (k' := 1) (n' := 9) (Nat.le_of_ble_eq_true rfl) (Nat.le_of_ble_eq_true rfl) ?_
    refine k_wsub (w' := [(z0, cZ .null z1 X.2.2), (z1, cQ cJ z2 z3), (z2, cA4 cI X.1), (z3, cA4 cI X.2.1)]) [0, 1, 2, 3] rfl rfl ?_
    exact k_iretG C rfl (by rw [hL]; exact ⟨rfl, rfl⟩) dX4_counted_93
  ·
    refine k_iconst C 1 (by decide) dX4_counted_67 ?_
    refine k_goto C 72 (by decide) dX4_counted_68 ?_
    refine k_iast C [(z0, cZ .null z1 X.2.2), (z1, cQ cJ z2 z3), (z2, cA4 cI X.1), (z3, cA4 cI X.2.1), (q1, cA9 cI (X.2.2.1, X.2.2.2.1, 0, X.2.2.2.2.2.1, X.2.2.2.2.2.2.1, X.2.2.2.2.2.2.2.2.1, 1, 0, 0))] 4 rfl vi9_6 (ar9 (X.2.2.1, X.2.2.2.1, 0, X.2.2.2.2.2.1, X.2.2.2.2.2.2.1, X.2.2.2.2.2.2.2.2.1, 1, 0, 0)) (ar9_s6 _ _) rfl dX4_counted_72 ?_
    refine k_dup C rfl dX4_counted_73 ?_
    refine k_bipush C 7 (by decide) dX4_counted_74 ?_
    refine k_aload_n C dX4_counted_76 0 rfl ?_
    refine k_callV_i C (mX4_winner l D cI cJ z0 z1 z2 z3 .null X) (cwV 0 C.2.2.2.2.1 (kGV q479 q463 q464 q38 q465) rfl rfl rfl ⟨rfl, hdX4_winner⟩ ⟨Nat.le_of_ble_eq_true rfl, Nat.le_of_ble_eq_true rfl⟩) [0, 1, 2, 3] [4] [1, 2, 3, 4, 0] [(q1, cA9 cI (X.2.2.1, X.2.2.2.1, 0, X.2.2.2.2.2.1, X.2.2.2.2.2.2.1, X.2.2.2.2.2.2.2.2.1, 1, 0, 0))] ([(z0, cZ .null z1 X.2.2), (z1, cQ cJ z2 z3), (z2, cA4 cI X.1), (z3, cA4 cI X.2.1), (q1, cA9 cI (X.2.2.1, X.2.2.2.1, 0, X.2.2.2.2.2.1, X.2.2.2.2.2.2.1, X.2.2.2.2.2.2.2.2.1, 1, 0, 0))]) rfl rfl rfl rfl (by decide) [z0, z1, z2, z3] rfl rfl rfl rfl 0 4 rfl rfl rfl (Nat.le_of_ble_eq_true rfl) ⟨Nat.le_of_ble_eq_true rfl, Nat.le_of_ble_eq_true rfl⟩ rfl dX4_counted_77 ?_
    generalize er5 : fX4_winner X = r5
    refine k_iast C [(z0, cZ .null z1 X.2.2), (z1, cQ cJ z2 z3), (z2, cA4 cI X.1), (z3, cA4 cI X.2.1), (q1, cA9 cI (X.2.2.1, X.2.2.2.1, 0, X.2.2.2.2.2.1, X.2.2.2.2.2.2.1, X.2.2.2.2.2.2.2.2.1, 1, r5, 0))] 4 rfl vi9_7 (ar9 (X.2.2.1, X.2.2.2.1, 0, X.2.2.2.2.2.1, X.2.2.2.2.2.2.1, X.2.2.2.2.2.2.2.2.1, 1, r5, 0)) (ar9_s7 _ _) rfl dX4_counted_80 ?_
    refine k_dup C rfl dX4_counted_81 ?_
    refine k_bipush C 8 (by decide) dX4_counted_82 ?_
    refine k_aload_n C dX4_counted_84 0 rfl ?_
    refine k_getX4 C 0 7 rfl (by decide) rfl q432 rfl dX4_counted_85 ?_
    refine k_iast C [(z0, cZ .null z1 X.2.2), (z1, cQ cJ z2 z3), (z2, cA4 cI X.1), (z3, cA4 cI X.2.1), (q1, cA9 cI (X.2.2.1, X.2.2.2.1, 0, X.2.2.2.2.2.1, X.2.2.2.2.2.2.1, X.2.2.2.2.2.2.2.2.1, 1, r5, X.2.2.2.2.2.2.2.1))] 4 rfl vi9_8 (ar9 (X.2.2.1, X.2.2.2.1, 0, X.2.2.2.2.2.1, X.2.2.2.2.2.2.1, X.2.2.2.2.2.2.2.2.1, 1, r5, X.2.2.2.2.2.2.2.1)) (ar9_s8 _ _) rfl dX4_counted_88 ?_
    refine k_astore_n C [(2, .ref q1), (0, .ref z0), (1, .int 8)] (by decide) rfl dX4_counted_89 ?_
    refine k_aload_n C dX4_counted_90 0 rfl ?_
    refine k_iload_n C dX4_counted_91 2 rfl ?_
    refine k_iald C 4 rfl vi9_8 (ar9_l8 _) dX4_counted_92 ?_
    have hL : fX4_counted_n8 X = X.2.2.2.2.2.2.2.1 := by subst er5; subst er2; exact (if_neg c3).trans rfl
    refine k_widen (k' := 1) (n' := 9) (Nat.le_of_ble_eq_true rfl) (Nat.le_of_ble_eq_true rfl) ?_
    refine k_wsub (w' := [(z0, cZ .null z1 X.2.2), (z1, cQ cJ z2 z3), (z2, cA4 cI X.1), (z3, cA4 cI X.2.1)]) [0, 1, 2, 3] rfl rfl ?_
    exact k_iretG C rfl (by rw [hL]; exact ⟨rfl, rfl⟩) dX4_counted_93

noncomputable def fX4_counted_r8 (X : Zs) (b : Lb) : Int32 :=
  if (fX4_canSet_r X b) = 0 then X.2.2.2.2.2.2.2.1
  else X.2.2.2.2.2.2.2.1
set_option maxHeartbeats 4000000 in
set_option maxRecDepth 100000 in
theorem mX4_counted_r8 (l : Launch) (D : va_G) (cI cJ : ClassId) (z0 z1 z2 z3 z4 : Nat) (X : Zs) (b : Lb) : kGi l D cI cJ yX4_counted (.code yX4_counted cX4_counted 3 (some .int)) { frames := 1, cells := 1, slots := 9, locals := 20 } [.ref z0, .int 8] [(z0, cZ (.ref z4) z1 X.2.2), (z1, cQ cJ z2 z3), (z2, cA4 cI X.1), (z3, cA4 cI X.2.1), (z4, cL b)] 1 9 (fun r U => r = fX4_counted_r8 X b ∧ U = [(z0, cZ (.ref z4) z1 X.2.2), (z1, cQ cJ z2 z3), (z2, cA4 cI X.1), (z3, cA4 cI X.2.1), (z4, cL b)]) := by
  refine fun sz => k_ofN (lv := [(0, .ref z0), (1, .int 8)]) (by decide) sz (Nat.le_of_ble_eq_true rfl) rfl ?_
  intro p e s m args below meth c hsz hnm C
  refine k_bipush C 9 (by decide) dX4_counted_0 ?_
  refine k_newI C 9 (ar9 (0, 0, 0, 0, 0, 0, 0, 0, 0)) zf9 (by decide) (by decide) (by decide) (Nat.le_of_ble_eq_true rfl) (Nat.le_of_ble_eq_true rfl) dX4_counted_2 (fun q1 => ?_)
  refine k_dup C rfl dX4_counted_4 ?_
  refine k_iconst C 0 (by decide) dX4_counted_5 ?_
  refine k_aload_n C dX4_counted_6 0 rfl ?_
  refine k_getX4 C 0 0 rfl (by decide) rfl q423 rfl dX4_counted_7 ?_
  refine k_iast C [(z0, cZ (.ref z4) z1 X.2.2), (z1, cQ cJ z2 z3), (z2, cA4 cI X.1), (z3, cA4 cI X.2.1), (z4, cL b), (q1, cA9 cI (X.2.2.1, 0, 0, 0, 0, 0, 0, 0, 0))] 5 rfl vi9_0 (ar9 (X.2.2.1, 0, 0, 0, 0, 0, 0, 0, 0)) (ar9_s0 _ _) rfl dX4_counted_10 ?_
  refine k_dup C rfl dX4_counted_11 ?_
  refine k_iconst C 1 (by decide) dX4_counted_12 ?_
  refine k_aload_n C dX4_counted_13 0 rfl ?_
  refine k_getX4 C 0 1 rfl (by decide) rfl q424 rfl dX4_counted_14 ?_
  refine k_iast C [(z0, cZ (.ref z4) z1 X.2.2), (z1, cQ cJ z2 z3), (z2, cA4 cI X.1), (z3, cA4 cI X.2.1), (z4, cL b), (q1, cA9 cI (X.2.2.1, X.2.2.2.1, 0, 0, 0, 0, 0, 0, 0))] 5 rfl vi9_1 (ar9 (X.2.2.1, X.2.2.2.1, 0, 0, 0, 0, 0, 0, 0)) (ar9_s1 _ _) rfl dX4_counted_17 ?_
  refine k_dup C rfl dX4_counted_18 ?_
  refine k_iconst C 2 (by decide) dX4_counted_19 ?_
  refine k_aload_n C dX4_counted_20 0 rfl ?_
  refine k_getX4 C 0 3 rfl (by decide) rfl q426 rfl dX4_counted_21 ?_
  refine k_ifnonnull C 31 (by decide) dX4_counted_24 ?_
  refine k_aload_n C dX4_counted_31 0 rfl ?_
  refine k_getX4 C 0 2 rfl (by decide) rfl q425 rfl dX4_counted_32 ?_
  refine k_iast C [(z0, cZ (.ref z4) z1 X.2.2), (z1, cQ cJ z2 z3), (z2, cA4 cI X.1), (z3, cA4 cI X.2.1), (z4, cL b), (q1, cA9 cI (X.2.2.1, X.2.2.2.1, X.2.2.2.2.1, 0, 0, 0, 0, 0, 0))] 5 rfl vi9_2 (ar9 (X.2.2.1, X.2.2.2.1, X.2.2.2.2.1, 0, 0, 0, 0, 0, 0)) (ar9_s2 _ _) rfl dX4_counted_35 ?_
  refine k_dup C rfl dX4_counted_36 ?_
  refine k_iconst C 3 (by decide) dX4_counted_37 ?_
  refine k_aload_n C dX4_counted_38 0 rfl ?_
  refine k_getX4 C 0 5 rfl (by decide) rfl q430 rfl dX4_counted_39 ?_
  refine k_iast C [(z0, cZ (.ref z4) z1 X.2.2), (z1, cQ cJ z2 z3), (z2, cA4 cI X.1), (z3, cA4 cI X.2.1), (z4, cL b), (q1, cA9 cI (X.2.2.1, X.2.2.2.1, X.2.2.2.2.1, X.2.2.2.2.2.1, 0, 0, 0, 0, 0))] 5 rfl vi9_3 (ar9 (X.2.2.1, X.2.2.2.1, X.2.2.2.2.1, X.2.2.2.2.2.1, 0, 0, 0, 0, 0)) (ar9_s3 _ _) rfl dX4_counted_42 ?_
  refine k_dup C rfl dX4_counted_43 ?_
  refine k_iconst C 4 (by decide) dX4_counted_44 ?_
  refine k_aload_n C dX4_counted_45 0 rfl ?_
  refine k_getX4 C 0 6 rfl (by decide) rfl q431 rfl dX4_counted_46 ?_
  refine k_iast C [(z0, cZ (.ref z4) z1 X.2.2), (z1, cQ cJ z2 z3), (z2, cA4 cI X.1), (z3, cA4 cI X.2.1), (z4, cL b), (q1, cA9 cI (X.2.2.1, X.2.2.2.1, X.2.2.2.2.1, X.2.2.2.2.2.1, X.2.2.2.2.2.2.1, 0, 0, 0, 0))] 5 rfl vi9_4 (ar9 (X.2.2.1, X.2.2.2.1, X.2.2.2.2.1, X.2.2.2.2.2.1, X.2.2.2.2.2.2.1, 0, 0, 0, 0)) (ar9_s4 _ _) rfl dX4_counted_49 ?_
  refine k_dup C rfl dX4_counted_50 ?_
  refine k_iconst C 5 (by decide) dX4_counted_51 ?_
  refine k_aload_n C dX4_counted_52 0 rfl ?_
  refine k_getX4 C 0 8 rfl (by decide) rfl q433 rfl dX4_counted_53 ?_
  refine k_iast C [(z0, cZ (.ref z4) z1 X.2.2), (z1, cQ cJ z2 z3), (z2, cA4 cI X.1), (z3, cA4 cI X.2.1), (z4, cL b), (q1, cA9 cI (X.2.2.1, X.2.2.2.1, X.2.2.2.2.1, X.2.2.2.2.2.1, X.2.2.2.2.2.2.1, X.2.2.2.2.2.2.2.2.1, 0, 0, 0))] 5 rfl vi9_5 (ar9 (X.2.2.1, X.2.2.2.1, X.2.2.2.2.1, X.2.2.2.2.2.1, X.2.2.2.2.2.2.1, X.2.2.2.2.2.2.2.2.1, 0, 0, 0)) (ar9_s5 _ _) rfl dX4_counted_56 ?_
  refine k_dup C rfl dX4_counted_57 ?_
  refine k_bipush C 6 (by decide) dX4_counted_58 ?_
  refine k_aload_n C dX4_counted_60 0 rfl ?_
  refine k_callV_i C (mX4_canSet_r l D cI cJ z0 z1 z2 z3 z4 X b) (cwV 0 C.2.2.2.2.1 (kGV q475 q476 q477 q38 q478) rfl rfl rfl ⟨rfl, hdX4_canSet⟩ ⟨Nat.le_of_ble_eq_true rfl, Nat.le_of_ble_eq_true rfl⟩) [0, 1, 2, 3, 4] [5] [1, 2, 3, 4, 5, 0] [(q1, cA9 cI (X.2.2.1, X.2.2.2.1, X.2.2.2.2.1, X.2.2.2.2.2.1, X.2.2.2.2.2.2.1, X.2.2.2.2.2.2.2.2.1, 0, 0, 0))] ([(z0, cZ (.ref z4) z1 X.2.2), (z1, cQ cJ z2 z3), (z2, cA4 cI X.1), (z3, cA4 cI X.2.1), (z4, cL b), (q1, cA9 cI (X.2.2.1, X.2.2.2.1, X.2.2.2.2.1, X.2.2.2.2.2.1, X.2.2.2.2.2.2.1, X.2.2.2.2.2.2.2.2.1, 0, 0, 0))]) rfl rfl rfl rfl (by decide) [z0, z1, z2, z3, z4] rfl rfl rfl rfl 0 4 rfl rfl rfl (Nat.le_of_ble_eq_true rfl) ⟨Nat.le_of_ble_eq_true rfl, Nat.le_of_ble_eq_true rfl⟩ rfl dX4_counted_61 ?_
  generalize er2 : fX4_canSet_r X b = r2
  refine k_if_eq C 71 (by decide) dX4_counted_64 (fun c3 => ?_) (fun c3 => ?_)
  ·
    refine k_iconst C 0 (by decide) dX4_counted_71 ?_
    refine k_iast C [(z0, cZ (.ref z4) z1 X.2.2), (z1, cQ cJ z2 z3), (z2, cA4 cI X.1), (z3, cA4 cI X.2.1), (z4, cL b), (q1, cA9 cI (X.2.2.1, X.2.2.2.1, X.2.2.2.2.1, X.2.2.2.2.2.1, X.2.2.2.2.2.2.1, X.2.2.2.2.2.2.2.2.1, 0, 0, 0))] 5 rfl vi9_6 (ar9 (X.2.2.1, X.2.2.2.1, X.2.2.2.2.1, X.2.2.2.2.2.1, X.2.2.2.2.2.2.1, X.2.2.2.2.2.2.2.2.1, 0, 0, 0)) (ar9_s6 _ _) rfl dX4_counted_72 ?_
    refine k_dup C rfl dX4_counted_73 ?_
    refine k_bipush C 7 (by decide) dX4_counted_74 ?_
    refine k_aload_n C dX4_counted_76 0 rfl ?_
    refine k_callV_i C (mX4_winner l D cI cJ z0 z1 z2 z3 (.ref z4) X) (cwV 0 C.2.2.2.2.1 (kGV q479 q463 q464 q38 q465) rfl rfl rfl ⟨rfl, hdX4_winner⟩ ⟨Nat.le_of_ble_eq_true rfl, Nat.le_of_ble_eq_true rfl⟩) [0, 1, 2, 3] [4, 5] [2, 3, 4, 5, 0, 1] [(z4, cL b), (q1, cA9 cI (X.2.2.1, X.2.2.2.1, X.2.2.2.2.1, X.2.2.2.2.2.1, X.2.2.2.2.2.2.1, X.2.2.2.2.2.2.2.2.1, 0, 0, 0))] ([(z0, cZ (.ref z4) z1 X.2.2), (z1, cQ cJ z2 z3), (z2, cA4 cI X.1), (z3, cA4 cI X.2.1), (z4, cL b), (q1, cA9 cI (X.2.2.1, X.2.2.2.1, X.2.2.2.2.1, X.2.2.2.2.2.1, X.2.2.2.2.2.2.1, X.2.2.2.2.2.2.2.2.1, 0, 0, 0))]) rfl rfl rfl rfl (by decide) [z0, z1, z2, z3] rfl rfl rfl rfl 0 4 rfl rfl rfl (Nat.le_of_ble_eq_true rfl) ⟨Nat.le_of_ble_eq_true rfl, Nat.le_of_ble_eq_true rfl⟩ rfl dX4_counted_77 ?_
    generalize er4 : fX4_winner X = r4
    refine k_iast C [(z0, cZ (.ref z4) z1 X.2.2), (z1, cQ cJ z2 z3), (z2, cA4 cI X.1), (z3, cA4 cI X.2.1), (z4, cL b), (q1, cA9 cI (X.2.2.1, X.2.2.2.1, X.2.2.2.2.1, X.2.2.2.2.2.1, X.2.2.2.2.2.2.1, X.2.2.2.2.2.2.2.2.1, 0, r4, 0))] 5 rfl vi9_7 (ar9 (X.2.2.1, X.2.2.2.1, X.2.2.2.2.1, X.2.2.2.2.2.1, X.2.2.2.2.2.2.1, X.2.2.2.2.2.2.2.2.1, 0, r4, 0)) (ar9_s7 _ _) rfl dX4_counted_80 ?_
    refine k_dup C rfl dX4_counted_81 ?_
    refine k_bipush C 8 (by decide) dX4_counted_82 ?_
    refine k_aload_n C dX4_counted_84 0 rfl ?_
    refine k_getX4 C 0 7 rfl (by decide) rfl q432 rfl dX4_counted_85 ?_
    refine k_iast C [(z0, cZ (.ref z4) z1 X.2.2), (z1, cQ cJ z2 z3), (z2, cA4 cI X.1), (z3, cA4 cI X.2.1), (z4, cL b), (q1, cA9 cI (X.2.2.1, X.2.2.2.1, X.2.2.2.2.1, X.2.2.2.2.2.1, X.2.2.2.2.2.2.1, X.2.2.2.2.2.2.2.2.1, 0, r4, X.2.2.2.2.2.2.2.1))] 5 rfl vi9_8 (ar9 (X.2.2.1, X.2.2.2.1, X.2.2.2.2.1, X.2.2.2.2.2.1, X.2.2.2.2.2.2.1, X.2.2.2.2.2.2.2.2.1, 0, r4, X.2.2.2.2.2.2.2.1)) (ar9_s8 _ _) rfl dX4_counted_88 ?_
    refine k_astore_n C [(2, .ref q1), (0, .ref z0), (1, .int 8)] (by decide) rfl dX4_counted_89 ?_
    refine k_aload_n C dX4_counted_90 0 rfl ?_
    refine k_iload_n C dX4_counted_91 2 rfl ?_
    refine k_iald C 5 rfl vi9_8 (ar9_l8 _) dX4_counted_92 ?_
    have hL : fX4_counted_r8 X b = X.2.2.2.2.2.2.2.1 := by subst er4; subst er2; exact (if_pos c3).trans rfl
    refine k_widen (k' := 1) (n' := 9) (Nat.le_of_ble_eq_true rfl) (Nat.le_of_ble_eq_true rfl) ?_
    refine k_wsub (w' := [(z0, cZ (.ref z4) z1 X.2.2), (z1, cQ cJ z2 z3), (z2, cA4 cI X.1), (z3, cA4 cI X.2.1), (z4, cL b)]) [0, 1, 2, 3, 4] rfl rfl ?_
    exact k_iretG C rfl (by rw [hL]; exact ⟨rfl, rfl⟩) dX4_counted_93
  ·
    refine k_iconst C 1 (by decide) dX4_counted_67 ?_
    refine k_goto C 72 (by decide) dX4_counted_68 ?_
    refine k_iast C [(z0, cZ (.ref z4) z1 X.2.2), (z1, cQ cJ z2 z3), (z2, cA4 cI X.1), (z3, cA4 cI X.2.1), (z4, cL b), (q1, cA9 cI (X.2.2.1, X.2.2.2.1, X.2.2.2.2.1, X.2.2.2.2.2.1, X.2.2.2.2.2.2.1, X.2.2.2.2.2.2.2.2.1, 1, 0, 0))] 5 rfl vi9_6 (ar9 (X.2.2.1, X.2.2.2.1, X.2.2.2.2.1, X.2.2.2.2.2.1, X.2.2.2.2.2.2.1, X.2.2.2.2.2.2.2.2.1, 1, 0, 0)) (ar9_s6 _ _) rfl dX4_counted_72 ?_
    refine k_dup C rfl dX4_counted_73 ?_
    refine k_bipush C 7 (by decide) dX4_counted_74 ?_
    refine k_aload_n C dX4_counted_76 0 rfl ?_
    refine k_callV_i C (mX4_winner l D cI cJ z0 z1 z2 z3 (.ref z4) X) (cwV 0 C.2.2.2.2.1 (kGV q479 q463 q464 q38 q465) rfl rfl rfl ⟨rfl, hdX4_winner⟩ ⟨Nat.le_of_ble_eq_true rfl, Nat.le_of_ble_eq_true rfl⟩) [0, 1, 2, 3] [4, 5] [2, 3, 4, 5, 0, 1] [(z4, cL b), (q1, cA9 cI (X.2.2.1, X.2.2.2.1, X.2.2.2.2.1, X.2.2.2.2.2.1, X.2.2.2.2.2.2.1, X.2.2.2.2.2.2.2.2.1, 1, 0, 0))] ([(z0, cZ (.ref z4) z1 X.2.2), (z1, cQ cJ z2 z3), (z2, cA4 cI X.1), (z3, cA4 cI X.2.1), (z4, cL b), (q1, cA9 cI (X.2.2.1, X.2.2.2.1, X.2.2.2.2.1, X.2.2.2.2.2.1, X.2.2.2.2.2.2.1, X.2.2.2.2.2.2.2.2.1, 1, 0, 0))]) rfl rfl rfl rfl (by decide) [z0, z1, z2, z3] rfl rfl rfl rfl 0 4 rfl rfl rfl (Nat.le_of_ble_eq_true rfl) ⟨Nat.le_of_ble_eq_true rfl, Nat.le_of_ble_eq_true rfl⟩ rfl dX4_counted_77 ?_
    generalize er5 : fX4_winner X = r5
    refine k_iast C [(z0, cZ (.ref z4) z1 X.2.2), (z1, cQ cJ z2 z3), (z2, cA4 cI X.1), (z3, cA4 cI X.2.1), (z4, cL b), (q1, cA9 cI (X.2.2.1, X.2.2.2.1, X.2.2.2.2.1, X.2.2.2.2.2.1, X.2.2.2.2.2.2.1, X.2.2.2.2.2.2.2.2.1, 1, r5, 0))] 5 rfl vi9_7 (ar9 (X.2.2.1, X.2.2.2.1, X.2.2.2.2.1, X.2.2.2.2.2.1, X.2.2.2.2.2.2.1, X.2.2.2.2.2.2.2.2.1, 1, r5, 0)) (ar9_s7 _ _) rfl dX4_counted_80 ?_
    refine k_dup C rfl dX4_counted_81 ?_
    refine k_bipush C 8 (by decide) dX4_counted_82 ?_
    refine k_aload_n C dX4_counted_84 0 rfl ?_
    refine k_getX4 C 0 7 rfl (by decide) rfl q432 rfl dX4_counted_85 ?_
    refine k_iast C [(z0, cZ (.ref z4) z1 X.2.2), (z1, cQ cJ z2 z3), (z2, cA4 cI X.1), (z3, cA4 cI X.2.1), (z4, cL b), (q1, cA9 cI (X.2.2.1, X.2.2.2.1, X.2.2.2.2.1, X.2.2.2.2.2.1, X.2.2.2.2.2.2.1, X.2.2.2.2.2.2.2.2.1, 1, r5, X.2.2.2.2.2.2.2.1))] 5 rfl vi9_8 (ar9 (X.2.2.1, X.2.2.2.1, X.2.2.2.2.1, X.2.2.2.2.2.1, X.2.2.2.2.2.2.1, X.2.2.2.2.2.2.2.2.1, 1, r5, X.2.2.2.2.2.2.2.1)) (ar9_s8 _ _) rfl dX4_counted_88 ?_
    refine k_astore_n C [(2, .ref q1), (0, .ref z0), (1, .int 8)] (by decide) rfl dX4_counted_89 ?_
    refine k_aload_n C dX4_counted_90 0 rfl ?_
    refine k_iload_n C dX4_counted_91 2 rfl ?_
    refine k_iald C 5 rfl vi9_8 (ar9_l8 _) dX4_counted_92 ?_
    have hL : fX4_counted_r8 X b = X.2.2.2.2.2.2.2.1 := by subst er5; subst er2; exact (if_neg c3).trans rfl
    refine k_widen (k' := 1) (n' := 9) (Nat.le_of_ble_eq_true rfl) (Nat.le_of_ble_eq_true rfl) ?_
    refine k_wsub (w' := [(z0, cZ (.ref z4) z1 X.2.2), (z1, cQ cJ z2 z3), (z2, cA4 cI X.1), (z3, cA4 cI X.2.1), (z4, cL b)]) [0, 1, 2, 3, 4] rfl rfl ?_
    exact k_iretG C rfl (by rw [hL]; exact ⟨rfl, rfl⟩) dX4_counted_93
