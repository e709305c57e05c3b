/-! what the law does: one act -/
set_option maxHeartbeats 4000000 in
set_option maxRecDepth 100000 in
theorem mL_act_n (l : Launch) (hl : l.stackTraces = false) (D : va_G) (cI cJ : ClassId) (a0 a1 a2 a3 a4 a5 a6 z0 z1 z2 z3 : Nat) (X : Co) (Z : Zs) (x : Int32) {i : Nat} (hi : i < 512) (h : Rel i X Z none) : kGH l D cI cJ yL_act (.codeWith yL_act cL_act 9 (some .boolean) [(185, 212, 213, 68)]) { frames := 7, cells := 4, slots := 40, locals := 220 } [.ref a0, .ref z0, .int x] (wC a0 a1 a2 a3 a4 a5 a6 X ++ wZ cI cJ z0 z1 z2 z3 .null Z) 4 40 (fun r W => r = 1 ∧ ∃ (X' : Co) (Z' : Zs) (β' : Option Lb) (U : va_W), W = wC a0 a1 a2 a3 a4 a5 a6 X' ++ U ∧ wSim cI cJ z0 Z' β' U ∧ Rel (i + 1) X' Z' β' ∧ Tr X X') := by
  refine fun sz => k_ofH (lv := [(0, .ref a0), (1, .ref z0), (2, .int x)]) (by decide) sz (Nat.le_of_ble_eq_true rfl) rfl ?_
  intro p e s m args below meth c hsz hTb T C
  refine k_iload_n C dL_act_0 2 rfl ?_
  refine k_iconst C 2 (by decide) dL_act_1 ?_
  refine k_ishr C dL_act_2 ?_
  refine k_iconst C 5 (by decide) dL_act_3 ?_
  refine k_callS_i C (mL_below l D cI cJ (x >>> (2 &&& 31)) 5 (by decide)) (va_cwS 2 C.2.2.2.2.1 (kGS q553 q554 q34 q555) rfl rfl rfl hdL_below ⟨Nat.le_of_ble_eq_true rfl, Nat.le_of_ble_eq_true rfl⟩) [] [0, 1, 2, 3, 4, 5, 6, 7, 8, 9, 10] [0, 1, 2, 3, 4, 5, 6, 7, 8, 9, 10] [(a0, cF a1 a2 a3 a4 a5 a6 X.2.2.2.2.2.2), (a1, cS X.1), (a2, cS X.2.1), (a3, cB X.2.2.1), (a4, cB X.2.2.2.1), (a5, cB X.2.2.2.2.1), (a6, cB X.2.2.2.2.2.1), (z0, cZ .null z1 Z.2.2), (z1, cQ cJ z2 z3), (z2, cA4 cI Z.1), (z3, cA4 cI Z.2.1)] ([(a0, cF a1 a2 a3 a4 a5 a6 X.2.2.2.2.2.2), (a1, cS X.1), (a2, cS X.2.1), (a3, cB X.2.2.1), (a4, cB X.2.2.2.1), (a5, cB X.2.2.2.2.1), (a6, cB X.2.2.2.2.2.1), (z0, cZ .null z1 Z.2.2), (z1, cQ cJ z2 z3), (z2, cA4 cI Z.1), (z3, cA4 cI Z.2.1)]) rfl rfl rfl rfl (by decide) [] rfl rfl rfl rfl (Nat.le_of_ble_eq_true rfl) ⟨Nat.le_of_ble_eq_true rfl, Nat.le_of_ble_eq_true rfl⟩ rfl dL_act_4 ?_
  refine k_iconst C 2 (by decide) dL_act_7 ?_
  refine k_isub C dL_act_8 ?_
  refine k_istore_n C [(3, .int ((fL_below (x >>> (2 &&& 31)) 5) - 2)), (0, .ref a0), (1, .ref z0), (2, .int x)] (by decide) rfl dL_act_9 ?_
  refine k_iload_n C dL_act_10 3 rfl ?_
  refine k_iconst C 5 (by decide) dL_act_11 ?_
  refine k_ishr C dL_act_12 ?_
  refine k_iconst C 5 (by decide) dL_act_13 ?_
  refine k_callS_i C (mL_below l D cI cJ (x >>> (5 &&& 31)) 5 (by decide)) (va_cwS 2 C.2.2.2.2.1 (kGS q553 q554 q34 q555) rfl rfl rfl hdL_below ⟨Nat.le_of_ble_eq_true rfl, Nat.le_of_ble_eq_true rfl⟩) [] [0, 1, 2, 3, 4, 5, 6, 7, 8, 9, 10] [0, 1, 2, 3, 4, 5, 6, 7, 8, 9, 10] [(a0, cF a1 a2 a3 a4 a5 a6 X.2.2.2.2.2.2), (a1, cS X.1), (a2, cS X.2.1), (a3, cB X.2.2.1), (a4, cB X.2.2.2.1), (a5, cB X.2.2.2.2.1), (a6, cB X.2.2.2.2.2.1), (z0, cZ .null z1 Z.2.2), (z1, cQ cJ z2 z3), (z2, cA4 cI Z.1), (z3, cA4 cI Z.2.1)] ([(a0, cF a1 a2 a3 a4 a5 a6 X.2.2.2.2.2.2), (a1, cS X.1), (a2, cS X.2.1), (a3, cB X.2.2.1), (a4, cB X.2.2.2.1), (a5, cB X.2.2.2.2.1), (a6, cB X.2.2.2.2.2.1), (z0, cZ .null z1 Z.2.2), (z1, cQ cJ z2 z3), (z2, cA4 cI Z.1), (z3, cA4 cI Z.2.1)]) rfl rfl rfl rfl (by decide) [] rfl rfl rfl rfl (Nat.le_of_ble_eq_true rfl) ⟨Nat.le_of_ble_eq_true rfl, Nat.le_of_ble_eq_true rfl⟩ rfl dL_act_14 ?_
  refine k_if_ne C 32 (by decide) dL_act_17 (fun c1 => ?_) (fun c1 => ?_)
  ·
    refine k_iconst C (-1) (by decide) dL_act_32 ?_
    refine k_iload_n C dL_act_33 3 rfl ?_
    refine k_iconst C 4 (by decide) dL_act_34 ?_
    refine k_ishr C dL_act_35 ?_
    refine k_iconst C 2 (by decide) dL_act_36 ?_
    refine k_callS_i C (mL_below l D cI cJ (x >>> (4 &&& 31)) 2 (by decide)) (va_cwS 2 C.2.2.2.2.1 (kGS q553 q554 q34 q555) rfl rfl rfl hdL_below ⟨Nat.le_of_ble_eq_true rfl, Nat.le_of_ble_eq_true rfl⟩) [] [0, 1, 2, 3, 4, 5, 6, 7, 8, 9, 10] [0, 1, 2, 3, 4, 5, 6, 7, 8, 9, 10] [(a0, cF a1 a2 a3 a4 a5 a6 X.2.2.2.2.2.2), (a1, cS X.1), (a2, cS X.2.1), (a3, cB X.2.2.1), (a4, cB X.2.2.2.1), (a5, cB X.2.2.2.2.1), (a6, cB X.2.2.2.2.2.1), (z0, cZ .null z1 Z.2.2), (z1, cQ cJ z2 z3), (z2, cA4 cI Z.1), (z3, cA4 cI Z.2.1)] ([(a0, cF a1 a2 a3 a4 a5 a6 X.2.2.2.2.2.2), (a1, cS X.1), (a2, cS X.2.1), (a3, cB X.2.2.1), (a4, cB X.2.2.2.1), (a5, cB X.2.2.2.2.1), (a6, cB X.2.2.2.2.2.1), (z0, cZ .null z1 Z.2.2), (z1, cQ cJ z2 z3), (z2, cA4 cI Z.1), (z3, cA4 cI Z.2.1)]) rfl rfl rfl rfl (by decide) [] rfl rfl rfl rfl (Nat.le_of_ble_eq_true rfl) ⟨Nat.le_of_ble_eq_true rfl, Nat.le_of_ble_eq_true rfl⟩ rfl dL_act_37 ?_
    refine k_isub C dL_act_40 ?_
    refine k_istore C [(4, .int ((-1 : Int32) - (fL_below (x >>> (4 &&& 31)) 2))), (3, .int ((fL_below (x >>> (2 &&& 31)) 5) - 2)), (0, .ref a0), (1, .ref z0), (2, .int x)] (by decide) rfl dL_act_41 ?_
    refine k_iload_n C dL_act_43 4 rfl ?_
    refine k_iconst C 5 (by decide) dL_act_44 ?_
    refine k_ishr C dL_act_45 ?_
    refine k_iconst C 4 (by decide) dL_act_46 ?_
    refine k_callS_i C (mL_below l D cI cJ (x >>> (5 &&& 31)) 4 (by decide)) (va_cwS 2 C.2.2.2.2.1 (kGS q553 q554 q34 q555) rfl rfl rfl hdL_below ⟨Nat.le_of_ble_eq_true rfl, Nat.le_of_ble_eq_true rfl⟩) [] [0, 1, 2, 3, 4, 5, 6, 7, 8, 9, 10] [0, 1, 2, 3, 4, 5, 6, 7, 8, 9, 10] [(a0, cF a1 a2 a3 a4 a5 a6 X.2.2.2.2.2.2), (a1, cS X.1), (a2, cS X.2.1), (a3, cB X.2.2.1), (a4, cB X.2.2.2.1), (a5, cB X.2.2.2.2.1), (a6, cB X.2.2.2.2.2.1), (z0, cZ .null z1 Z.2.2), (z1, cQ cJ z2 z3), (z2, cA4 cI Z.1), (z3, cA4 cI Z.2.1)] ([(a0, cF a1 a2 a3 a4 a5 a6 X.2.2.2.2.2.2), (a1, cS X.1), (a2, cS X.2.1), (a3, cB X.2.2.1), (a4, cB X.2.2.2.1), (a5, cB X.2.2.2.2.1), (a6, cB X.2.2.2.2.2.1), (z0, cZ .null z1 Z.2.2), (z1, cQ cJ z2 z3), (z2, cA4 cI Z.1), (z3, cA4 cI Z.2.1)]) rfl rfl rfl rfl (by decide) [] rfl rfl rfl rfl (Nat.le_of_ble_eq_true rfl) ⟨Nat.le_of_ble_eq_true rfl, Nat.le_of_ble_eq_true rfl⟩ rfl dL_act_47 ?_
    refine k_if_ne C 64 (by decide) dL_act_50 (fun c2 => ?_) (fun c2 => ?_)
    ·
      refine k_iconst C 4 (by decide) dL_act_64 ?_
      refine k_iload_n C dL_act_65 4 rfl ?_
      refine k_iconst C 3 (by decide) dL_act_66 ?_
      refine k_ishr C dL_act_67 ?_
      refine k_bipush C 6 (by decide) dL_act_68 ?_
      refine k_callS_i C (mL_below l D cI cJ (x >>> (3 &&& 31)) 6 (by decide)) (va_cwS 2 C.2.2.2.2.1 (kGS q553 q554 q34 q555) rfl rfl rfl hdL_below ⟨Nat.le_of_ble_eq_true rfl, Nat.le_of_ble_eq_true rfl⟩) [] [0, 1, 2, 3, 4, 5, 6, 7, 8, 9, 10] [0, 1, 2, 3, 4, 5, 6, 7, 8, 9, 10] [(a0, cF a1 a2 a3 a4 a5 a6 X.2.2.2.2.2.2), (a1, cS X.1), (a2, cS X.2.1), (a3, cB X.2.2.1), (a4, cB X.2.2.2.1), (a5, cB X.2.2.2.2.1), (a6, cB X.2.2.2.2.2.1), (z0, cZ .null z1 Z.2.2), (z1, cQ cJ z2 z3), (z2, cA4 cI Z.1), (z3, cA4 cI Z.2.1)] ([(a0, cF a1 a2 a3 a4 a5 a6 X.2.2.2.2.2.2), (a1, cS X.1), (a2, cS X.2.1), (a3, cB X.2.2.1), (a4, cB X.2.2.2.1), (a5, cB X.2.2.2.2.1), (a6, cB X.2.2.2.2.2.1), (z0, cZ .null z1 Z.2.2), (z1, cQ cJ z2 z3), (z2, cA4 cI Z.1), (z3, cA4 cI Z.2.1)]) rfl rfl rfl rfl (by decide) [] rfl rfl rfl rfl (Nat.le_of_ble_eq_true rfl) ⟨Nat.le_of_ble_eq_true rfl, Nat.le_of_ble_eq_true rfl⟩ rfl dL_act_70 ?_
      refine k_iadd C dL_act_73 ?_
      refine k_istore C [(5, .int ((4 : Int32) + (fL_below (x >>> (3 &&& 31)) 6))), (4, .int ((-1 : Int32) - (fL_below (x >>> (4 &&& 31)) 2))), (3, .int ((fL_below (x >>> (2 &&& 31)) 5) - 2)), (0, .ref a0), (1, .ref z0), (2, .int x)] (by decide) rfl dL_act_74 ?_
      exact act_n hl hTb T C hi h (q0 := ((fL_below (x >>> (2 &&& 31)) 5) - 2)) (q1 := ((-1 : Int32) - (fL_below (x >>> (4 &&& 31)) 2))) (q2 := ((4 : Int32) + (fL_below (x >>> (3 &&& 31)) 6))) ⟨(ac_b _).1, (ac_b _).2, (al_b _).1, (al_b _).2, (ri_c _).1, (ri_c _).2⟩
    ·
      refine k_iload_n C dL_act_53 4 rfl ?_
      refine k_iconst C 3 (by decide) dL_act_54 ?_
      refine k_ishr C dL_act_55 ?_
      refine k_bipush C 10 (by decide) dL_act_56 ?_
      refine k_callS_i C (mL_below l D cI cJ (x >>> (3 &&& 31)) 10 (by decide)) (va_cwS 2 C.2.2.2.2.1 (kGS q553 q554 q34 q555) rfl rfl rfl hdL_below ⟨Nat.le_of_ble_eq_true rfl, Nat.le_of_ble_eq_true rfl⟩) [] [0, 1, 2, 3, 4, 5, 6, 7, 8, 9, 10] [0, 1, 2, 3, 4, 5, 6, 7, 8, 9, 10] [(a0, cF a1 a2 a3 a4 a5 a6 X.2.2.2.2.2.2), (a1, cS X.1), (a2, cS X.2.1), (a3, cB X.2.2.1), (a4, cB X.2.2.2.1), (a5, cB X.2.2.2.2.1), (a6, cB X.2.2.2.2.2.1), (z0, cZ .null z1 Z.2.2), (z1, cQ cJ z2 z3), (z2, cA4 cI Z.1), (z3, cA4 cI Z.2.1)] ([(a0, cF a1 a2 a3 a4 a5 a6 X.2.2.2.2.2.2), (a1, cS X.1), (a2, cS X.2.1), (a3, cB X.2.2.1), (a4, cB X.2.2.2.1), (a5, cB X.2.2.2.2.1), (a6, cB X.2.2.2.2.2.1), (z0, cZ .null z1 Z.2.2), (z1, cQ cJ z2 z3), (z2, cA4 cI Z.1), (z3, cA4 cI Z.2.1)]) rfl rfl rfl rfl (by decide) [] rfl rfl rfl rfl (Nat.le_of_ble_eq_true rfl) ⟨Nat.le_of_ble_eq_true rfl, Nat.le_of_ble_eq_true rfl⟩ rfl dL_act_58 ?_
      refine k_goto C 74 (by decide) dL_act_61 ?_
      refine k_istore C [(5, .int (fL_below (x >>> (3 &&& 31)) 10)), (4, .int ((-1 : Int32) - (fL_below (x >>> (4 &&& 31)) 2))), (3, .int ((fL_below (x >>> (2 &&& 31)) 5) - 2)), (0, .ref a0), (1, .ref z0), (2, .int x)] (by decide) rfl dL_act_74 ?_
      exact act_n hl hTb T C hi h (q0 := ((fL_below (x >>> (2 &&& 31)) 5) - 2)) (q1 := ((-1 : Int32) - (fL_below (x >>> (4 &&& 31)) 2))) (q2 := (fL_below (x >>> (3 &&& 31)) 10)) ⟨(ac_b _).1, (ac_b _).2, (al_b _).1, (al_b _).2, (ri_b _).1, (ri_b _).2⟩
  ·
    refine k_iload_n C dL_act_20 3 rfl ?_
    refine k_iconst C 4 (by decide) dL_act_21 ?_
    refine k_ishr C dL_act_22 ?_
    refine k_iconst C 5 (by decide) dL_act_23 ?_
    refine k_callS_i C (mL_below l D cI cJ (x >>> (4 &&& 31)) 5 (by decide)) (va_cwS 2 C.2.2.2.2.1 (kGS q553 q554 q34 q555) rfl rfl rfl hdL_below ⟨Nat.le_of_ble_eq_true rfl, Nat.le_of_ble_eq_true rfl⟩) [] [0, 1, 2, 3, 4, 5, 6, 7, 8, 9, 10] [0, 1, 2, 3, 4, 5, 6, 7, 8, 9, 10] [(a0, cF a1 a2 a3 a4 a5 a6 X.2.2.2.2.2.2), (a1, cS X.1), (a2, cS X.2.1), (a3, cB X.2.2.1), (a4, cB X.2.2.2.1), (a5, cB X.2.2.2.2.1), (a6, cB X.2.2.2.2.2.1), (z0, cZ .null z1 Z.2.2), (z1, cQ cJ z2 z3), (z2, cA4 cI Z.1), (z3, cA4 cI Z.2.1)] ([(a0, cF a1 a2 a3 a4 a5 a6 X.2.2.2.2.2.2), (a1, cS X.1), (a2, cS X.2.1), (a3, cB X.2.2.1), (a4, cB X.2.2.2.1), (a5, cB X.2.2.2.2.1), (a6, cB X.2.2.2.2.2.1), (z0, cZ .null z1 Z.2.2), (z1, cQ cJ z2 z3), (z2, cA4 cI Z.1), (z3, cA4 cI Z.2.1)]) rfl rfl rfl rfl (by decide) [] rfl rfl rfl rfl (Nat.le_of_ble_eq_true rfl) ⟨Nat.le_of_ble_eq_true rfl, Nat.le_of_ble_eq_true rfl⟩ rfl dL_act_24 ?_
    refine k_iconst C 2 (by decide) dL_act_27 ?_
    refine k_isub C dL_act_28 ?_
    refine k_goto C 41 (by decide) dL_act_29 ?_
    refine k_istore C [(4, .int ((fL_below (x >>> (4 &&& 31)) 5) - 2)), (3, .int ((fL_below (x >>> (2 &&& 31)) 5) - 2)), (0, .ref a0), (1, .ref z0), (2, .int x)] (by decide) rfl dL_act_41 ?_
    refine k_iload_n C dL_act_43 4 rfl ?_
    refine k_iconst C 5 (by decide) dL_act_44 ?_
    refine k_ishr C dL_act_45 ?_
    refine k_iconst C 4 (by decide) dL_act_46 ?_
    refine k_callS_i C (mL_below l D cI cJ (x >>> (5 &&& 31)) 4 (by decide)) (va_cwS 2 C.2.2.2.2.1 (kGS q553 q554 q34 q555) rfl rfl rfl hdL_below ⟨Nat.le_of_ble_eq_true rfl, Nat.le_of_ble_eq_true rfl⟩) [] [0, 1, 2, 3, 4, 5, 6, 7, 8, 9, 10] [0, 1, 2, 3, 4, 5, 6, 7, 8, 9, 10] [(a0, cF a1 a2 a3 a4 a5 a6 X.2.2.2.2.2.2), (a1, cS X.1), (a2, cS X.2.1), (a3, cB X.2.2.1), (a4, cB X.2.2.2.1), (a5, cB X.2.2.2.2.1), (a6, cB X.2.2.2.2.2.1), (z0, cZ .null z1 Z.2.2), (z1, cQ cJ z2 z3), (z2, cA4 cI Z.1), (z3, cA4 cI Z.2.1)] ([(a0, cF a1 a2 a3 a4 a5 a6 X.2.2.2.2.2.2), (a1, cS X.1), (a2, cS X.2.1), (a3, cB X.2.2.1), (a4, cB X.2.2.2.1), (a5, cB X.2.2.2.2.1), (a6, cB X.2.2.2.2.2.1), (z0, cZ .null z1 Z.2.2), (z1, cQ cJ z2 z3), (z2, cA4 cI Z.1), (z3, cA4 cI Z.2.1)]) rfl rfl rfl rfl (by decide) [] rfl rfl rfl rfl (Nat.le_of_ble_eq_true rfl) ⟨Nat.le_of_ble_eq_true rfl, Nat.le_of_ble_eq_true rfl⟩ rfl dL_act_47 ?_
    refine k_if_ne C 64 (by decide) dL_act_50 (fun c3 => ?_) (fun c3 => ?_)
    ·
      refine k_iconst C 4 (by decide) dL_act_64 ?_
      refine k_iload_n C dL_act_65 4 rfl ?_
      refine k_iconst C 3 (by decide) dL_act_66 ?_
      refine k_ishr C dL_act_67 ?_
      refine k_bipush C 6 (by decide) dL_act_68 ?_
      refine k_callS_i C (mL_below l D cI cJ (x >>> (3 &&& 31)) 6 (by decide)) (va_cwS 2 C.2.2.2.2.1 (kGS q553 q554 q34 q555) rfl rfl rfl hdL_below ⟨Nat.le_of_ble_eq_true rfl, Nat.le_of_ble_eq_true rfl⟩) [] [0, 1, 2, 3, 4, 5, 6, 7, 8, 9, 10] [0, 1, 2, 3, 4, 5, 6, 7, 8, 9, 10] [(a0, cF a1 a2 a3 a4 a5 a6 X.2.2.2.2.2.2), (a1, cS X.1), (a2, cS X.2.1), (a3, cB X.2.2.1), (a4, cB X.2.2.2.1), (a5, cB X.2.2.2.2.1), (a6, cB X.2.2.2.2.2.1), (z0, cZ .null z1 Z.2.2), (z1, cQ cJ z2 z3), (z2, cA4 cI Z.1), (z3, cA4 cI Z.2.1)] ([(a0, cF a1 a2 a3 a4 a5 a6 X.2.2.2.2.2.2), (a1, cS X.1), (a2, cS X.2.1), (a3, cB X.2.2.1), (a4, cB X.2.2.2.1), (a5, cB X.2.2.2.2.1), (a6, cB X.2.2.2.2.2.1), (z0, cZ .null z1 Z.2.2), (z1, cQ cJ z2 z3), (z2, cA4 cI Z.1), (z3, cA4 cI Z.2.1)]) rfl rfl rfl rfl (by decide) [] rfl rfl rfl rfl (Nat.le_of_ble_eq_true rfl) ⟨Nat.le_of_ble_eq_true rfl, Nat.le_of_ble_eq_true rfl⟩ rfl dL_act_70 ?_
      refine k_iadd C dL_act_73 ?_
      refine k_istore C [(5, .int ((4 : Int32) + (fL_below (x >>> (3 &&& 31)) 6))), (4, .int ((fL_below (x >>> (4 &&& 31)) 5) - 2)), (3, .int ((fL_below (x >>> (2 &&& 31)) 5) - 2)), (0, .ref a0), (1, .ref z0), (2, .int x)] (by decide) rfl dL_act_74 ?_
      exact act_n hl hTb T C hi h (q0 := ((fL_below (x >>> (2 &&& 31)) 5) - 2)) (q1 := ((fL_below (x >>> (4 &&& 31)) 5) - 2)) (q2 := ((4 : Int32) + (fL_below (x >>> (3 &&& 31)) 6))) ⟨(ac_b _).1, (ac_b _).2, (ac_b _).1, (ac_b _).2, (ri_c _).1, (ri_c _).2⟩
    ·
      refine k_iload_n C dL_act_53 4 rfl ?_
      refine k_iconst C 3 (by decide) dL_act_54 ?_
      refine k_ishr C dL_act_55 ?_
      refine k_bipush C 10 (by decide) dL_act_56 ?_
      refine k_callS_i C (mL_below l D cI cJ (x >>> (3 &&& 31)) 10 (by decide)) (va_cwS 2 C.2.2.2.2.1 (kGS q553 q554 q34 q555) rfl rfl rfl hdL_below ⟨Nat.le_of_ble_eq_true rfl, Nat.le_of_ble_eq_true rfl⟩) [] [0, 1, 2, 3, 4, 5, 6, 7, 8, 9, 10] [0, 1, 2, 3, 4, 5, 6, 7, 8, 9, 10] [(a0, cF a1 a2 a3 a4 a5 a6 X.2.2.2.2.2.2), (a1, cS X.1), (a2, cS X.2.1), (a3, cB X.2.2.1), (a4, cB X.2.2.2.1), (a5, cB X.2.2.2.2.1), (a6, cB X.2.2.2.2.2.1), (z0, cZ .null z1 Z.2.2), (z1, cQ cJ z2 z3), (z2, cA4 cI Z.1), (z3, cA4 cI Z.2.1)] ([(a0, cF a1 a2 a3 a4 a5 a6 X.2.2.2.2.2.2), (a1, cS X.1), (a2, cS X.2.1), (a3, cB X.2.2.1), (a4, cB X.2.2.2.1), (a5, cB X.2.2.2.2.1), (a6, cB X.2.2.2.2.2.1), (z0, cZ .null z1 Z.2.2), (z1, cQ cJ z2 z3), (z2, cA4 cI Z.1), (z3, cA4 cI Z.2.1)]) rfl rfl rfl rfl (by decide) [] rfl rfl rfl rfl (Nat.le_of_ble_eq_true rfl) ⟨Nat.le_of_ble_eq_true rfl, Nat.le_of_ble_eq_true rfl⟩ rfl dL_act_58 ?_
      refine k_goto C 74 (by decide) dL_act_61 ?_
      refine k_istore C [(5, .int (fL_below (x >>> (3 &&& 31)) 10)), (4, .int ((fL_below (x >>> (4 &&& 31)) 5) - 2)), (3, .int ((fL_below (x >>> (2 &&& 31)) 5) - 2)), (0, .ref a0), (1, .ref z0), (2, .int x)] (by decide) rfl dL_act_74 ?_
      exact act_n hl hTb T C hi h (q0 := ((fL_below (x >>> (2 &&& 31)) 5) - 2)) (q1 := ((fL_below (x >>> (4 &&& 31)) 5) - 2)) (q2 := (fL_below (x >>> (3 &&& 31)) 10)) ⟨(ac_b _).1, (ac_b _).2, (ac_b _).1, (ac_b _).2, (ri_b _).1, (ri_b _).2⟩
set_option maxHeartbeats 4000000 in
set_option maxRecDepth 100000 in
theorem mL_act_r (l : Launch) (hl : l.stackTraces = false) (D : va_G) (cI cJ : ClassId) (a0 a1 a2 a3 a4 a5 a6 z0 z1 z2 z3 z4 : Nat) (X : Co) (Z : Zs) (b : Lb) (x : Int32) {i : Nat} (hi : i < 512) (h : Rel i X Z (some b)) : kGH l D cI cJ yL_act (.codeWith yL_act cL_act 9 (some .boolean) [(185, 212, 213, 68)]) { frames := 7, cells := 4, slots := 40, locals := 220 } [.ref a0, .ref z0, .int x] (wC a0 a1 a2 a3 a4 a5 a6 X ++ (wZ cI cJ z0 z1 z2 z3 (.ref z4) Z ++ [(z4, cL b)])) 4 40 (fun r W => r = 1 ∧ ∃ (X' : Co) (Z' : Zs) (β' : Option Lb) (U : va_W), W = wC a0 a1 a2 a3 a4 a5 a6 X' ++ U ∧ wSim cI cJ z0 Z' β' U ∧ Rel (i + 1) X' Z' β' ∧ Tr X X') := by
  refine fun sz => k_ofH (lv := [(0, .ref a0), (1, .ref z0), (2, .int x)]) (by decide) sz (Nat.le_of_ble_eq_true rfl) rfl ?_
  intro p e s m args below meth c hsz hTb T C
  refine k_iload_n C dL_act_0 2 rfl ?_
  refine k_iconst C 2 (by decide) dL_act_1 ?_
  refine k_ishr C dL_act_2 ?_
  refine k_iconst C 5 (by decide) dL_act_3 ?_
  refine k_callS_i C (mL_below l D cI cJ (x >>> (2 &&& 31)) 5 (by decide)) (va_cwS 2 C.2.2.2.2.1 (kGS q553 q554 q34 q555) rfl rfl rfl hdL_below ⟨Nat.le_of_ble_eq_true rfl, Nat.le_of_ble_eq_true rfl⟩) [] [0, 1, 2, 3, 4, 5, 6, 7, 8, 9, 10, 11] [0, 1, 2, 3, 4, 5, 6, 7, 8, 9, 10, 11] [(a0, cF a1 a2 a3 a4 a5 a6 X.2.2.2.2.2.2), (a1, cS X.1), (a2, cS X.2.1), (a3, cB X.2.2.1), (a4, cB X.2.2.2.1), (a5, cB X.2.2.2.2.1), (a6, cB X.2.2.2.2.2.1), (z0, cZ (.ref z4) z1 Z.2.2), (z1, cQ cJ z2 z3), (z2, cA4 cI Z.1), (z3, cA4 cI Z.2.1), (z4, cL b)] ([(a0, cF a1 a2 a3 a4 a5 a6 X.2.2.2.2.2.2), (a1, cS X.1), (a2, cS X.2.1), (a3, cB X.2.2.1), (a4, cB X.2.2.2.1), (a5, cB X.2.2.2.2.1), (a6, cB X.2.2.2.2.2.1), (z0, cZ (.ref z4) z1 Z.2.2), (z1, cQ cJ z2 z3), (z2, cA4 cI Z.1), (z3, cA4 cI Z.2.1), (z4, cL b)]) rfl rfl rfl rfl (by decide) [] rfl rfl rfl rfl (Nat.le_of_ble_eq_true rfl) ⟨Nat.le_of_ble_eq_true rfl, Nat.le_of_ble_eq_true rfl⟩ rfl dL_act_4 ?_
  refine k_iconst C 2 (by decide) dL_act_7 ?_
  refine k_isub C dL_act_8 ?_
  refine k_istore_n C [(3, .int ((fL_below (x >>> (2 &&& 31)) 5) - 2)), (0, .ref a0), (1, .ref z0), (2, .int x)] (by decide) rfl dL_act_9 ?_
  refine k_iload_n C dL_act_10 3 rfl ?_
  refine k_iconst C 5 (by decide) dL_act_11 ?_
  refine k_ishr C dL_act_12 ?_
  refine k_iconst C 5 (by decide) dL_act_13 ?_
  refine k_callS_i C (mL_below l D cI cJ (x >>> (5 &&& 31)) 5 (by decide)) (va_cwS 2 C.2.2.2.2.1 (kGS q553 q554 q34 q555) rfl rfl rfl hdL_below ⟨Nat.le_of_ble_eq_true rfl, Nat.le_of_ble_eq_true rfl⟩) [] [0, 1, 2, 3, 4, 5, 6, 7, 8, 9, 10, 11] [0, 1, 2, 3, 4, 5, 6, 7, 8, 9, 10, 11] [(a0, cF a1 a2 a3 a4 a5 a6 X.2.2.2.2.2.2), (a1, cS X.1), (a2, cS X.2.1), (a3, cB X.2.2.1), (a4, cB X.2.2.2.1), (a5, cB X.2.2.2.2.1), (a6, cB X.2.2.2.2.2.1), (z0, cZ (.ref z4) z1 Z.2.2), (z1, cQ cJ z2 z3), (z2, cA4 cI Z.1), (z3, cA4 cI Z.2.1), (z4, cL b)] ([(a0, cF a1 a2 a3 a4 a5 a6 X.2.2.2.2.2.2), (a1, cS X.1), (a2, cS X.2.1), (a3, cB X.2.2.1), (a4, cB X.2.2.2.1), (a5, cB X.2.2.2.2.1), (a6, cB X.2.2.2.2.2.1), (z0, cZ (.ref z4) z1 Z.2.2), (z1, cQ cJ z2 z3), (z2, cA4 cI Z.1), (z3, cA4 cI Z.2.1), (z4, cL b)]) rfl rfl rfl rfl (by decide) [] rfl rfl rfl rfl (Nat.le_of_ble_eq_true rfl) ⟨Nat.le_of_ble_eq_true rfl, Nat.le_of_ble_eq_true rfl⟩ rfl dL_act_14 ?_
  refine k_if_ne C 32 (by decide) dL_act_17 (fun c1 => ?_) (fun c1 => ?_)
  ·
    refine k_iconst C (-1) (by decide) dL_act_32 ?_
    refine k_iload_n C dL_act_33 3 rfl ?_
    refine k_iconst C 4 (by decide) dL_act_34 ?_
    refine k_ishr C dL_act_35 ?_
    refine k_iconst C 2 (by decide) dL_act_36 ?_
    refine k_callS_i C (mL_below l D cI cJ (x >>> (4 &&& 31)) 2 (by decide)) (va_cwS 2 C.2.2.2.2.1 (kGS q553 q554 q34 q555) rfl rfl rfl hdL_below ⟨Nat.le_of_ble_eq_true rfl, Nat.le_of_ble_eq_true rfl⟩) [] [0, 1, 2, 3, 4, 5, 6, 7, 8, 9, 10, 11] [0, 1, 2, 3, 4, 5, 6, 7, 8, 9, 10, 11] [(a0, cF a1 a2 a3 a4 a5 a6 X.2.2.2.2.2.2), (a1, cS X.1), (a2, cS X.2.1), (a3, cB X.2.2.1), (a4, cB X.2.2.2.1), (a5, cB X.2.2.2.2.1), (a6, cB X.2.2.2.2.2.1), (z0, cZ (.ref z4) z1 Z.2.2), (z1, cQ cJ z2 z3), (z2, cA4 cI Z.1), (z3, cA4 cI Z.2.1), (z4, cL b)] ([(a0, cF a1 a2 a3 a4 a5 a6 X.2.2.2.2.2.2), (a1, cS X.1), (a2, cS X.2.1), (a3, cB X.2.2.1), (a4, cB X.2.2.2.1), (a5, cB X.2.2.2.2.1), (a6, cB X.2.2.2.2.2.1), (z0, cZ (.ref z4) z1 Z.2.2), (z1, cQ cJ z2 z3), (z2, cA4 cI Z.1), (z3, cA4 cI Z.2.1), (z4, cL b)]) rfl rfl rfl rfl (by decide) [] rfl rfl rfl rfl (Nat.le_of_ble_eq_true rfl) ⟨Nat.le_of_ble_eq_true rfl, Nat.le_of_ble_eq_true rfl⟩ rfl dL_act_37 ?_
    refine k_isub C dL_act_40 ?_
    refine k_istore C [(4, .int ((-1 : Int32) - (fL_below (x >>> (4 &&& 31)) 2))), (3, .int ((fL_below (x >>> (2 &&& 31)) 5) - 2)), (0, .ref a0), (1, .ref z0), (2, .int x)] (by decide) rfl dL_act_41 ?_
    refine k_iload_n C dL_act_43 4 rfl ?_
    refine k_iconst C 5 (by decide) dL_act_44 ?_
    refine k_ishr C dL_act_45 ?_
    refine k_iconst C 4 (by decide) dL_act_46 ?_
    refine k_callS_i C (mL_below l D cI cJ (x >>> (5 &&& 31)) 4 (by decide)) (va_cwS 2 C.2.2.2.2.1 (kGS q553 q554 q34 q555) rfl rfl rfl hdL_below ⟨Nat.le_of_ble_eq_true rfl, Nat.le_of_ble_eq_true rfl⟩) [] [0, 1, 2, 3, 4, 5, 6, 7, 8, 9, 10, 11] [0, 1, 2, 3, 4, 5, 6, 7, 8, 9, 10, 11] [(a0, cF a1 a2 a3 a4 a5 a6 X.2.2.2.2.2.2), (a1, cS X.1), (a2, cS X.2.1), (a3, cB X.2.2.1), (a4, cB X.2.2.2.1), (a5, cB X.2.2.2.2.1), (a6, cB X.2.2.2.2.2.1), (z0, cZ (.ref z4) z1 Z.2.2), (z1, cQ cJ z2 z3), (z2, cA4 cI Z.1), (z3, cA4 cI Z.2.1), (z4, cL b)] ([(a0, cF a1 a2 a3 a4 a5 a6 X.2.2.2.2.2.2), (a1, cS X.1), (a2, cS X.2.1), (a3, cB X.2.2.1), (a4, cB X.2.2.2.1), (a5, cB X.2.2.2.2.1), (a6, cB X.2.2.2.2.2.1), (z0, cZ (.ref z4) z1 Z.2.2), (z1, cQ cJ z2 z3), (z2, cA4 cI Z.1), (z3, cA4 cI Z.2.1), (z4, cL b)]) rfl rfl rfl rfl (by decide) [] rfl rfl rfl rfl (Nat.le_of_ble_eq_true rfl) ⟨Nat.le_of_ble_eq_true rfl, Nat.le_of_ble_eq_true rfl⟩ rfl dL_act_47 ?_
    refine k_if_ne C 64 (by decide) dL_act_50 (fun c2 => ?_) (fun c2 => ?_)
    ·
      refine k_iconst C 4 (by decide) dL_act_64 ?_
      refine k_iload_n C dL_act_65 4 rfl ?_
      refine k_iconst C 3 (by decide) dL_act_66 ?_
      refine k_ishr C dL_act_67 ?_
      refine k_bipush C 6 (by decide) dL_act_68 ?_
      refine k_callS_i C (mL_below l D cI cJ (x >>> (3 &&& 31)) 6 (by decide)) (va_cwS 2 C.2.2.2.2.1 (kGS q553 q554 q34 q555) rfl rfl rfl hdL_below ⟨Nat.le_of_ble_eq_true rfl, Nat.le_of_ble_eq_true rfl⟩) [] [0, 1, 2, 3, 4, 5, 6, 7, 8, 9, 10, 11] [0, 1, 2, 3, 4, 5, 6, 7, 8, 9, 10, 11] [(a0, cF a1 a2 a3 a4 a5 a6 X.2.2.2.2.2.2), (a1, cS X.1), (a2, cS X.2.1), (a3, cB X.2.2.1), (a4, cB X.2.2.2.1), (a5, cB X.2.2.2.2.1), (a6, cB X.2.2.2.2.2.1), (z0, cZ (.ref z4) z1 Z.2.2), (z1, cQ cJ z2 z3), (z2, cA4 cI Z.1), (z3, cA4 cI Z.2.1), (z4, cL b)] ([(a0, cF a1 a2 a3 a4 a5 a6 X.2.2.2.2.2.2), (a1, cS X.1), (a2, cS X.2.1), (a3, cB X.2.2.1), (a4, cB X.2.2.2.1), (a5, cB X.2.2.2.2.1), (a6, cB X.2.2.2.2.2.1), (z0, cZ (.ref z4) z1 Z.2.2), (z1, cQ cJ z2 z3), (z2, cA4 cI Z.1), (z3, cA4 cI Z.2.1), (z4, cL b)]) rfl rfl rfl rfl (by decide) [] rfl rfl rfl rfl (Nat.le_of_ble_eq_true rfl) ⟨Nat.le_of_ble_eq_true rfl, Nat.le_of_ble_eq_true rfl⟩ rfl dL_act_70 ?_
      refine k_iadd C dL_act_73 ?_
      refine k_istore C [(5, .int ((4 : Int32) + (fL_below (x >>> (3 &&& 31)) 6))), (4, .int ((-1 : Int32) - (fL_below (x >>> (4 &&& 31)) 2))), (3, .int ((fL_below (x >>> (2 &&& 31)) 5) - 2)), (0, .ref a0), (1, .ref z0), (2, .int x)] (by decide) rfl dL_act_74 ?_
      exact act_r hl hTb T C hi h (q0 := ((fL_below (x >>> (2 &&& 31)) 5) - 2)) (q1 := ((-1 : Int32) - (fL_below (x >>> (4 &&& 31)) 2))) (q2 := ((4 : Int32) + (fL_below (x >>> (3 &&& 31)) 6))) ⟨(ac_b _).1, (ac_b _).2, (al_b _).1, (al_b _).2, (ri_c _).1, (ri_c _).2⟩
    ·
      refine k_iload_n C dL_act_53 4 rfl ?_
      refine k_iconst C 3 (by decide) dL_act_54 ?_
      refine k_ishr C dL_act_55 ?_
      refine k_bipush C 10 (by decide) dL_act_56 ?_
      refine k_callS_i C (mL_below l D cI cJ (x >>> (3 &&& 31)) 10 (by decide)) (va_cwS 2 C.2.2.2.2.1 (kGS q553 q554 q34 q555) rfl rfl rfl hdL_below ⟨Nat.le_of_ble_eq_true rfl, Nat.le_of_ble_eq_true rfl⟩) [] [0, 1, 2, 3, 4, 5, 6, 7, 8, 9, 10, 11] [0, 1, 2, 3, 4, 5, 6, 7, 8, 9, 10, 11] [(a0, cF a1 a2 a3 a4 a5 a6 X.2.2.2.2.2.2), (a1, cS X.1), (a2, cS X.2.1), (a3, cB X.2.2.1), (a4, cB X.2.2.2.1), (a5, cB X.2.2.2.2.1), (a6, cB X.2.2.2.2.2.1), (z0, cZ (.ref z4) z1 Z.2.2), (z1, cQ cJ z2 z3), (z2, cA4 cI Z.1), (z3, cA4 cI Z.2.1), (z4, cL b)] ([(a0, cF a1 a2 a3 a4 a5 a6 X.2.2.2.2.2.2), (a1, cS X.1), (a2, cS X.2.1), (a3, cB X.2.2.1), (a4, cB X.2.2.2.1), (a5, cB X.2.2.2.2.1), (a6, cB X.2.2.2.2.2.1), (z0, cZ (.ref z4) z1 Z.2.2), (z1, cQ cJ z2 z3), (z2, cA4 cI Z.1), (z3, cA4 cI Z.2.1), (z4, cL b)]) rfl rfl rfl rfl (by decide) [] rfl rfl rfl rfl (Nat.le_of_ble_eq_true rfl) ⟨Nat.le_of_ble_eq_true rfl, Nat.le_of_ble_eq_true rfl⟩ rfl dL_act_58 ?_
      refine k_goto C 74 (by decide) dL_act_61 ?_
      refine k_istore C [(5, .int (fL_below (x >>> (3 &&& 31)) 10)), (4, .int ((-1 : Int32) - (fL_below (x >>> (4 &&& 31)) 2))), (3, .int ((fL_below (x >>> (2 &&& 31)) 5) - 2)), (0, .ref a0), (1, .ref z0), (2, .int x)] (by decide) rfl dL_act_74 ?_
      exact act_r hl hTb T C hi h (q0 := ((fL_below (x >>> (2 &&& 31)) 5) - 2)) (q1 := ((-1 : Int32) - (fL_below (x >>> (4 &&& 31)) 2))) (q2 := (fL_below (x >>> (3 &&& 31)) 10)) ⟨(ac_b _).1, (ac_b _).2, (al_b _).1, (al_b _).2, (ri_b _).1, (ri_b _).2⟩
  ·
    refine k_iload_n C dL_act_20 3 rfl ?_
    refine k_iconst C 4 (by decide) dL_act_21 ?_
    refine k_ishr C dL_act_22 ?_
    refine k_iconst C 5 (by decide) dL_act_23 ?_
    refine k_callS_i C (mL_below l D cI cJ (x >>> (4 &&& 31)) 5 (by decide)) (va_cwS 2 C.2.2.2.2.1 (kGS q553 q554 q34 q555) rfl rfl rfl hdL_below ⟨Nat.le_of_ble_eq_true rfl, Nat.le_of_ble_eq_true rfl⟩) [] [0, 1, 2, 3, 4, 5, 6, 7, 8, 9, 10, 11] [0, 1, 2, 3, 4, 5, 6, 7, 8, 9, 10, 11] [(a0, cF a1 a2 a3 a4 a5 a6 X.2.2.2.2.2.2), (a1, cS X.1), (a2, cS X.2.1), (a3, cB X.2.2.1), (a4, cB X.2.2.2.1), (a5, cB X.2.2.2.2.1), (a6, cB X.2.2.2.2.2.1), (z0, cZ (.ref z4) z1 Z.2.2), (z1, cQ cJ z2 z3), (z2, cA4 cI Z.1), (z3, cA4 cI Z.2.1), (z4, cL b)] ([(a0, cF a1 a2 a3 a4 a5 a6 X.2.2.2.2.2.2), (a1, cS X.1), (a2, cS X.2.1), (a3, cB X.2.2.1), (a4, cB X.2.2.2.1), (a5, cB X.2.2.2.2.1), (a6, cB X.2.2.2.2.2.1), (z0, cZ (.ref z4) z1 Z.2.2), (z1, cQ cJ z2 z3), (z2, cA4 cI Z.1), (z3, cA4 cI Z.2.1), (z4, cL b)]) rfl rfl rfl rfl (by decide) [] rfl rfl rfl rfl (Nat.le_of_ble_eq_true rfl) ⟨Nat.le_of_ble_eq_true rfl, Nat.le_of_ble_eq_true rfl⟩ rfl dL_act_24 ?_
    refine k_iconst C 2 (by decide) dL_act_27 ?_
    refine k_isub C dL_act_28 ?_
    refine k_goto C 41 (by decide) dL_act_29 ?_
    refine k_istore C [(4, .int ((fL_below (x >>> (4 &&& 31)) 5) - 2)), (3, .int ((fL_below (x >>> (2 &&& 31)) 5) - 2)), (0, .ref a0), (1, .ref z0), (2, .int x)] (by decide) rfl dL_act_41 ?_
    refine k_iload_n C dL_act_43 4 rfl ?_
    refine k_iconst C 5 (by decide) dL_act_44 ?_
    refine k_ishr C dL_act_45 ?_
    refine k_iconst C 4 (by decide) dL_act_46 ?_
    refine k_callS_i C (mL_below l D cI cJ (x >>> (5 &&& 31)) 4 (by decide)) (va_cwS 2 C.2.2.2.2.1 (kGS q553 q554 q34 q555) rfl rfl rfl hdL_below ⟨Nat.le_of_ble_eq_true rfl, Nat.le_of_ble_eq_true rfl⟩) [] [0, 1, 2, 3, 4, 5, 6, 7, 8, 9, 10, 11] [0, 1, 2, 3, 4, 5, 6, 7, 8, 9, 10, 11] [(a0, cF a1 a2 a3 a4 a5 a6 X.2.2.2.2.2.2), (a1, cS X.1), (a2, cS X.2.1), (a3, cB X.2.2.1), (a4, cB X.2.2.2.1), (a5, cB X.2.2.2.2.1), (a6, cB X.2.2.2.2.2.1), (z0, cZ (.ref z4) z1 Z.2.2), (z1, cQ cJ z2 z3), (z2, cA4 cI Z.1), (z3, cA4 cI Z.2.1), (z4, cL b)] ([(a0, cF a1 a2 a3 a4 a5 a6 X.2.2.2.2.2.2), (a1, cS X.1), (a2, cS X.2.1), (a3, cB X.2.2.1), (a4, cB X.2.2.2.1), (a5, cB X.2.2.2.2.1), (a6, cB X.2.2.2.2.2.1), (z0, cZ (.ref z4) z1 Z.2.2), (z1, cQ cJ z2 z3), (z2, cA4 cI Z.1), (z3, cA4 cI Z.2.1), (z4, cL b)]) rfl rfl rfl rfl (by decide) [] rfl rfl rfl rfl (Nat.le_of_ble_eq_true rfl) ⟨Nat.le_of_ble_eq_true rfl, Nat.le_of_ble_eq_true rfl⟩ rfl dL_act_47 ?_
    refine k_if_ne C 64 (by decide) dL_act_50 (fun c3 => ?_) (fun c3 => ?_)
    ·
      refine k_iconst C 4 (by decide) dL_act_64 ?_
      refine k_iload_n C dL_act_65 4 rfl ?_
      refine k_iconst C 3 (by decide) dL_act_66 ?_
      refine k_ishr C dL_act_67 ?_
      refine k_bipush C 6 (by decide) dL_act_68 ?_
      refine k_callS_i C (mL_below l D cI cJ (x >>> (3 &&& 31)) 6 (by decide)) (va_cwS 2 C.2.2.2.2.1 (kGS q553 q554 q34 q555) rfl rfl rfl hdL_below ⟨Nat.le_of_ble_eq_true rfl, Nat.le_of_ble_eq_true rfl⟩) [] [0, 1, 2, 3, 4, 5, 6, 7, 8, 9, 10, 11] [0, 1, 2, 3, 4, 5, 6, 7, 8, 9, 10, 11] [(a0, cF a1 a2 a3 a4 a5 a6 X.2.2.2.2.2.2), (a1, cS X.1), (a2, cS X.2.1), (a3, cB X.2.2.1), (a4, cB X.2.2.2.1), (a5, cB X.2.2.2.2.1), (a6, cB X.2.2.2.2.2.1), (z0, cZ (.ref z4) z1 Z.2.2), (z1, cQ cJ z2 z3), (z2, cA4 cI Z.1), (z3, cA4 cI Z.2.1), (z4, cL b)] ([(a0, cF a1 a2 a3 a4 a5 a6 X.2.2.2.2.2.2), (a1, cS X.1), (a2, cS X.2.1), (a3, cB X.2.2.1), (a4, cB X.2.2.2.1), (a5, cB X.2.2.2.2.1), (a6, cB X.2.2.2.2.2.1), (z0, cZ (.ref z4) z1 Z.2.2), (z1, cQ cJ z2 z3), (z2, cA4 cI Z.1), (z3, cA4 cI Z.2.1), (z4, cL b)]) rfl rfl rfl rfl (by decide) [] rfl rfl rfl rfl (Nat.le_of_ble_eq_true rfl) ⟨Nat.le_of_ble_eq_true rfl, Nat.le_of_ble_eq_true rfl⟩ rfl dL_act_70 ?_
      refine k_iadd C dL_act_73 ?_
      refine k_istore C [(5, .int ((4 : Int32) + (fL_below (x >>> (3 &&& 31)) 6))), (4, .int ((fL_below (x >>> (4 &&& 31)) 5) - 2)), (3, .int ((fL_below (x >>> (2 &&& 31)) 5) - 2)), (0, .ref a0), (1, .ref z0), (2, .int x)] (by decide) rfl dL_act_74 ?_
      exact act_r hl hTb T C hi h (q0 := ((fL_below (x >>> (2 &&& 31)) 5) - 2)) (q1 := ((fL_below (x >>> (4 &&& 31)) 5) - 2)) (q2 := ((4 : Int32) + (fL_below (x >>> (3 &&& 31)) 6))) ⟨(ac_b _).1, (ac_b _).2, (ac_b _).1, (ac_b _).2, (ri_c _).1, (ri_c _).2⟩
    ·
      refine k_iload_n C dL_act_53 4 rfl ?_
      refine k_iconst C 3 (by decide) dL_act_54 ?_
      refine k_ishr C dL_act_55 ?_
      refine k_bipush C 10 (by decide) dL_act_56 ?_
      refine k_callS_i C (mL_below l D cI cJ (x >>> (3 &&& 31)) 10 (by decide)) (va_cwS 2 C.2.2.2.2.1 (kGS q553 q554 q34 q555) rfl rfl rfl hdL_below ⟨Nat.le_of_ble_eq_true rfl, Nat.le_of_ble_eq_true rfl⟩) [] [0, 1, 2, 3, 4, 5, 6, 7, 8, 9, 10, 11] [0, 1, 2, 3, 4, 5, 6, 7, 8, 9, 10, 11] [(a0, cF a1 a2 a3 a4 a5 a6 X.2.2.2.2.2.2), (a1, cS X.1), (a2, cS X.2.1), (a3, cB X.2.2.1), (a4, cB X.2.2.2.1), (a5, cB X.2.2.2.2.1), (a6, cB X.2.2.2.2.2.1), (z0, cZ (.ref z4) z1 Z.2.2), (z1, cQ cJ z2 z3), (z2, cA4 cI Z.1), (z3, cA4 cI Z.2.1), (z4, cL b)] ([(a0, cF a1 a2 a3 a4 a5 a6 X.2.2.2.2.2.2), (a1, cS X.1), (a2, cS X.2.1), (a3, cB X.2.2.1), (a4, cB X.2.2.2.1), (a5, cB X.2.2.2.2.1), (a6, cB X.2.2.2.2.2.1), (z0, cZ (.ref z4) z1 Z.2.2), (z1, cQ cJ z2 z3), (z2, cA4 cI Z.1), (z3, cA4 cI Z.2.1), (z4, cL b)]) rfl rfl rfl rfl (by decide) [] rfl rfl rfl rfl (Nat.le_of_ble_eq_true rfl) ⟨Nat.le_of_ble_eq_true rfl, Nat.le_of_ble_eq_true rfl⟩ rfl dL_act_58 ?_
      refine k_goto C 74 (by decide) dL_act_61 ?_
      refine k_istore C [(5, .int (fL_below (x >>> (3 &&& 31)) 10)), (4, .int ((fL_below (x >>> (4 &&& 31)) 5) - 2)), (3, .int ((fL_below (x >>> (2 &&& 31)) 5) - 2)), (0, .ref a0), (1, .ref z0), (2, .int x)] (by decide) rfl dL_act_74 ?_
      exact act_r hl hTb T C hi h (q0 := ((fL_below (x >>> (2 &&& 31)) 5) - 2)) (q1 := ((fL_below (x >>> (4 &&& 31)) 5) - 2)) (q2 := (fL_below (x >>> (3 &&& 31)) 10)) ⟨(ac_b _).1, (ac_b _).2, (ac_b _).1, (ac_b _).2, (ri_b _).1, (ri_b _).2⟩