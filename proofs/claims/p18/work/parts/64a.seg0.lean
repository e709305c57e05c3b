/-! the law: before an act -/
set_option maxHeartbeats 4000000 in
set_option maxRecDepth 100000 in
theorem S0_n {p : Program} {l : Launch} {e : Env} {s : State} {m : MethodId} {args : Array Value} {below : List Frame} {meth : Method} {c : Code} {D : va_G} {cI cJ : ClassId} {A : Nat → Prop} {Q : State → Prop} {a0 a1 a2 a3 a4 a5 a6 z0 z1 z2 z3 sc : Nat} {X : Co} {Z : Zs} {K N : Nat} (C : kCx p s m args meth c RL cL_law 23 ret D cI cJ A) (hK : K + 3000 ≤ 600104) (hN : N + 30000 ≤ 7301314) {L i : Nat} {xs : Nat → Int32} (hX : va_X sc L xs s s.heap) (hbl : sc < s.heap.size) (hbA : ¬ A sc) (hL : L < 2 ^ 31) (hi : i < 16) {ia : Int32} (kk : ∀ r nw : Int32, kW p l e room_1 s m args below meth c D A 23 K N Q [(a0, cF a1 a2 a3 a4 a5 a6 X.2.2.2.2.2.2), (a1, cS X.1), (a2, cS X.2.1), (a3, cB X.2.2.1), (a4, cB X.2.2.2.1), (a5, cB X.2.2.2.2.1), (a6, cB X.2.2.2.2.2.1), (z0, cZ .null z1 Z.2.2), (z1, cQ cJ z2 z3), (z2, cA4 cI Z.1), (z3, cA4 cI Z.2.1)] 96 [(10, .int nw), (9, .int ((fX2_told_03 X) + (fX2_told_13 X))), (8, .int (fX2_count_1 X)), (7, .int (fX2_count_2 X)), (6, .int (fX2_count_3 X)), (5, .int (r + ((59 : Int32) * (nI i)))), (0, .ref sc), (1, .ref a0), (2, .ref z0), (3, .int ia), (4, .int (nI i))] [.int (r + ((59 : Int32) * (nI i))), .ref z0, .ref a0]) : kW p l e room_1 s m args below meth c D A 23 K N Q [(a0, cF a1 a2 a3 a4 a5 a6 X.2.2.2.2.2.2), (a1, cS X.1), (a2, cS X.2.1), (a3, cB X.2.2.1), (a4, cB X.2.2.2.1), (a5, cB X.2.2.2.2.1), (a6, cB X.2.2.2.2.2.1), (z0, cZ .null z1 Z.2.2), (z1, cQ cJ z2 z3), (z2, cA4 cI Z.1), (z3, cA4 cI Z.2.1)] 21 [(0, .ref sc), (1, .ref a0), (2, .ref z0), (3, .int ia), (4, .int (nI i))] [] := by
  refine k_iload C dL_law_21 4 rfl ?_
  refine k_bipush C 16 (by decide) dL_law_23 ?_
  refine k_icmp_ge C 1023 (by decide) dL_law_25 (fun h => absurd h (show ¬ 16 ≤ nI i from by rw [kleI, nI_toInt (by omega), show ((16 : Int32)).toInt = 16 from by decide]; omega)) (fun _ => ?_)
  refine k_aload_n C dL_law_28 0 rfl ?_
  refine k_iload C dL_law_29 4 rfl ?_
  refine k_cell C hX hbl hbA (fun sz => mL_cell l D cI cJ sc L xs (nI i) (by rw [nI_toInt (by omega)]; omega) hL sz) (va_cwS 2 C.2.2.2.2.1 (kGS q490 q491 q34 q492) rfl rfl rfl hdL_cell ⟨Nat.le_of_ble_eq_true rfl, Nat.le_of_ble_eq_true rfl⟩) (Nat.le_of_ble_eq_true rfl) ⟨by show _ ≤ 600104; omega, by show _ ≤ 7301314; omega⟩ dL_law_31 (fun r => ?_)
  refine k_bipush C 59 (by decide) dL_law_34 ?_
  refine k_iload C dL_law_36 4 rfl ?_
  refine k_imul C dL_law_38 ?_
  refine k_iadd C dL_law_39 ?_
  refine k_istore C [(5, .int (r + ((59 : Int32) * (nI i)))), (0, .ref sc), (1, .ref a0), (2, .ref z0), (3, .int ia), (4, .int (nI i))] (by decide) rfl dL_law_40 ?_
  refine k_aload_n C dL_law_42 2 rfl ?_
  refine k_iconst C 3 (by decide) dL_law_43 ?_
  refine k_callV_i C (mX2_count_3 l D cI cJ a0 a1 a2 a3 a4 a5 a6 X) (cwV 1 C.2.2.2.2.1 (kGV q260 q261 q262 q35 q263) rfl rfl rfl ⟨rfl, hdX2_count⟩ ⟨Nat.le_of_ble_eq_true rfl, Nat.le_of_ble_eq_true rfl⟩) [0, 1, 2, 3, 4, 5, 6] [7, 8, 9, 10] [4, 5, 6, 7, 8, 9, 10, 0, 1, 2, 3] [(z0, cZ .null z1 Z.2.2), (z1, cQ cJ z2 z3), (z2, cA4 cI Z.1), (z3, cA4 cI Z.2.1)] ([(a0, cF a1 a2 a3 a4 a5 a6 X.2.2.2.2.2.2), (a1, cS X.1), (a2, cS X.2.1), (a3, cB X.2.2.1), (a4, cB X.2.2.2.1), (a5, cB X.2.2.2.2.1), (a6, cB X.2.2.2.2.2.1), (z0, cZ .null z1 Z.2.2), (z1, cQ cJ z2 z3), (z2, cA4 cI Z.1), (z3, cA4 cI Z.2.1)]) rfl rfl rfl rfl (by decide) [a0, a1, a2, a3, a4, a5, a6] rfl rfl rfl rfl 0 2 rfl rfl rfl (Nat.le_of_ble_eq_true rfl) ⟨by show _ ≤ 600104; omega, by show _ ≤ 7301314; omega⟩ rfl dL_law_44 ?_
  refine k_istore C [(6, .int (fX2_count_3 X)), (5, .int (r + ((59 : Int32) * (nI i)))), (0, .ref sc), (1, .ref a0), (2, .ref z0), (3, .int ia), (4, .int (nI i))] (by decide) rfl dL_law_47 ?_
  refine k_aload_n C dL_law_49 3 rfl ?_
  refine k_iconst C 2 (by decide) dL_law_50 ?_
  refine k_callV_i C (mX2_count_2 l D cI cJ a0 a1 a2 a3 a4 a5 a6 X) (cwV 1 C.2.2.2.2.1 (kGV q260 q261 q262 q35 q263) rfl rfl rfl ⟨rfl, hdX2_count⟩ ⟨Nat.le_of_ble_eq_true rfl, Nat.le_of_ble_eq_true rfl⟩) [0, 1, 2, 3, 4, 5, 6] [7, 8, 9, 10] [4, 5, 6, 7, 8, 9, 10, 0, 1, 2, 3] [(z0, cZ .null z1 Z.2.2), (z1, cQ cJ z2 z3), (z2, cA4 cI Z.1), (z3, cA4 cI Z.2.1)] ([(a0, cF a1 a2 a3 a4 a5 a6 X.2.2.2.2.2.2), (a1, cS X.1), (a2, cS X.2.1), (a3, cB X.2.2.1), (a4, cB X.2.2.2.1), (a5, cB X.2.2.2.2.1), (a6, cB X.2.2.2.2.2.1), (z0, cZ .null z1 Z.2.2), (z1, cQ cJ z2 z3), (z2, cA4 cI Z.1), (z3, cA4 cI Z.2.1)]) rfl rfl rfl rfl (by decide) [a0, a1, a2, a3, a4, a5, a6] rfl rfl rfl rfl 0 2 rfl rfl rfl (Nat.le_of_ble_eq_true rfl) ⟨by show _ ≤ 600104; omega, by show _ ≤ 7301314; omega⟩ rfl dL_law_51 ?_
  refine k_istore C [(7, .int (fX2_count_2 X)), (6, .int (fX2_count_3 X)), (5, .int (r + ((59 : Int32) * (nI i)))), (0, .ref sc), (1, .ref a0), (2, .ref z0), (3, .int ia), (4, .int (nI i))] (by decide) rfl dL_law_54 ?_
  refine k_aload_n C dL_law_56 4 rfl ?_
  refine k_iconst C 1 (by decide) dL_law_57 ?_
  refine k_callV_i C (mX2_count_1 l D cI cJ a0 a1 a2 a3 a4 a5 a6 X) (cwV 1 C.2.2.2.2.1 (kGV q260 q261 q262 q35 q263) rfl rfl rfl ⟨rfl, hdX2_count⟩ ⟨Nat.le_of_ble_eq_true rfl, Nat.le_of_ble_eq_true rfl⟩) [0, 1, 2, 3, 4, 5, 6] [7, 8, 9, 10] [4, 5, 6, 7, 8, 9, 10, 0, 1, 2, 3] [(z0, cZ .null z1 Z.2.2), (z1, cQ cJ z2 z3), (z2, cA4 cI Z.1), (z3, cA4 cI Z.2.1)] ([(a0, cF a1 a2 a3 a4 a5 a6 X.2.2.2.2.2.2), (a1, cS X.1), (a2, cS X.2.1), (a3, cB X.2.2.1), (a4, cB X.2.2.2.1), (a5, cB X.2.2.2.2.1), (a6, cB X.2.2.2.2.2.1), (z0, cZ .null z1 Z.2.2), (z1, cQ cJ z2 z3), (z2, cA4 cI Z.1), (z3, cA4 cI Z.2.1)]) rfl rfl rfl rfl (by decide) [a0, a1, a2, a3, a4, a5, a6] rfl rfl rfl rfl 0 2 rfl rfl rfl (Nat.le_of_ble_eq_true rfl) ⟨by show _ ≤ 600104; omega, by show _ ≤ 7301314; omega⟩ rfl dL_law_58 ?_
  refine k_istore C [(8, .int (fX2_count_1 X)), (7, .int (fX2_count_2 X)), (6, .int (fX2_count_3 X)), (5, .int (r + ((59 : Int32) * (nI i)))), (0, .ref sc), (1, .ref a0), (2, .ref z0), (3, .int ia), (4, .int (nI i))] (by decide) rfl dL_law_61 ?_
  refine k_aload_n C dL_law_63 5 rfl ?_
  refine k_iconst C 0 (by decide) dL_law_64 ?_
  refine k_iconst C 3 (by decide) dL_law_65 ?_
  refine k_callV_i C (mX2_told_03 l D cI cJ a0 a1 a2 a3 a4 a5 a6 X) (cwV 2 C.2.2.2.2.1 (kGV q244 q245 q246 q35 q247) rfl rfl rfl ⟨rfl, hdX2_told⟩ ⟨Nat.le_of_ble_eq_true rfl, Nat.le_of_ble_eq_true rfl⟩) [0, 1, 2, 3, 4, 5, 6] [7, 8, 9, 10] [4, 5, 6, 7, 8, 9, 10, 0, 1, 2, 3] [(z0, cZ .null z1 Z.2.2), (z1, cQ cJ z2 z3), (z2, cA4 cI Z.1), (z3, cA4 cI Z.2.1)] ([(a0, cF a1 a2 a3 a4 a5 a6 X.2.2.2.2.2.2), (a1, cS X.1), (a2, cS X.2.1), (a3, cB X.2.2.1), (a4, cB X.2.2.2.1), (a5, cB X.2.2.2.2.1), (a6, cB X.2.2.2.2.2.1), (z0, cZ .null z1 Z.2.2), (z1, cQ cJ z2 z3), (z2, cA4 cI Z.1), (z3, cA4 cI Z.2.1)]) rfl rfl rfl rfl (by decide) [a0, a1, a2, a3, a4, a5, a6] rfl rfl rfl rfl 0 2 rfl rfl rfl (Nat.le_of_ble_eq_true rfl) ⟨by show _ ≤ 600104; omega, by show _ ≤ 7301314; omega⟩ rfl dL_law_66 ?_
  refine k_aload_n C dL_law_69 5 rfl ?_
  refine k_iconst C 1 (by decide) dL_law_70 ?_
  refine k_iconst C 3 (by decide) dL_law_71 ?_
  refine k_callV_i C (mX2_told_13 l D cI cJ a0 a1 a2 a3 a4 a5 a6 X) (cwV 2 C.2.2.2.2.1 (kGV q244 q245 q246 q35 q247) rfl rfl rfl ⟨rfl, hdX2_told⟩ ⟨Nat.le_of_ble_eq_true rfl, Nat.le_of_ble_eq_true rfl⟩) [0, 1, 2, 3, 4, 5, 6] [7, 8, 9, 10] [4, 5, 6, 7, 8, 9, 10, 0, 1, 2, 3] [(z0, cZ .null z1 Z.2.2), (z1, cQ cJ z2 z3), (z2, cA4 cI Z.1), (z3, cA4 cI Z.2.1)] ([(a0, cF a1 a2 a3 a4 a5 a6 X.2.2.2.2.2.2), (a1, cS X.1), (a2, cS X.2.1), (a3, cB X.2.2.1), (a4, cB X.2.2.2.1), (a5, cB X.2.2.2.2.1), (a6, cB X.2.2.2.2.2.1), (z0, cZ .null z1 Z.2.2), (z1, cQ cJ z2 z3), (z2, cA4 cI Z.1), (z3, cA4 cI Z.2.1)]) rfl rfl rfl rfl (by decide) [a0, a1, a2, a3, a4, a5, a6] rfl rfl rfl rfl 0 2 rfl rfl rfl (Nat.le_of_ble_eq_true rfl) ⟨by show _ ≤ 600104; omega, by show _ ≤ 7301314; omega⟩ rfl dL_law_72 ?_
  refine k_iadd C dL_law_75 ?_
  refine k_istore C [(9, .int ((fX2_told_03 X) + (fX2_told_13 X))), (8, .int (fX2_count_1 X)), (7, .int (fX2_count_2 X)), (6, .int (fX2_count_3 X)), (5, .int (r + ((59 : Int32) * (nI i)))), (0, .ref sc), (1, .ref a0), (2, .ref z0), (3, .int ia), (4, .int (nI i))] (by decide) rfl dL_law_76 ?_
  refine k_aload_n C dL_law_78 7 rfl ?_
  refine k_callV_i C (mX4_winner l D cI cJ z0 z1 z2 z3 .null Z) (cwV 0 C.2.2.2.2.1 (kGV q462 q463 q464 q38 q465) rfl rfl rfl ⟨rfl, hdX4_winner⟩ ⟨Nat.le_of_ble_eq_true rfl, Nat.le_of_ble_eq_true rfl⟩) [7, 8, 9, 10] [0, 1, 2, 3, 4, 5, 6] [0, 1, 2, 3, 4, 5, 6, 7, 8, 9, 10] [(a0, cF a1 a2 a3 a4 a5 a6 X.2.2.2.2.2.2), (a1, cS X.1), (a2, cS X.2.1), (a3, cB X.2.2.1), (a4, cB X.2.2.2.1), (a5, cB X.2.2.2.2.1), (a6, cB X.2.2.2.2.2.1)] ([(a0, cF a1 a2 a3 a4 a5 a6 X.2.2.2.2.2.2), (a1, cS X.1), (a2, cS X.2.1), (a3, cB X.2.2.1), (a4, cB X.2.2.2.1), (a5, cB X.2.2.2.2.1), (a6, cB X.2.2.2.2.2.1), (z0, cZ .null z1 Z.2.2), (z1, cQ cJ z2 z3), (z2, cA4 cI Z.1), (z3, cA4 cI Z.2.1)]) rfl rfl rfl rfl (by decide) [z0, z1, z2, z3] rfl rfl rfl rfl 7 4 rfl rfl rfl (Nat.le_of_ble_eq_true rfl) ⟨by show _ ≤ 600104; omega, by show _ ≤ 7301314; omega⟩ rfl dL_law_79 ?_
  refine k_if_lt C 89 (by decide) dL_law_82 (fun c1 => ?_) (fun c1 => ?_)
  ·
    refine k_iconst C 0 (by decide) dL_law_89 ?_
    refine k_istore C [(10, .int 0), (9, .int ((fX2_told_03 X) + (fX2_told_13 X))), (8, .int (fX2_count_1 X)), (7, .int (fX2_count_2 X)), (6, .int (fX2_count_3 X)), (5, .int (r + ((59 : Int32) * (nI i)))), (0, .ref sc), (1, .ref a0), (2, .ref z0), (3, .int ia), (4, .int (nI i))] (by decide) rfl dL_law_90 ?_
    refine k_aload_n C dL_law_92 7 rfl ?_
    refine k_aload_n C dL_law_93 8 rfl ?_
    refine k_iload C dL_law_94 5 rfl ?_
    exact kk r 0
  ·
    refine k_iconst C 1 (by decide) dL_law_85 ?_
    refine k_goto C 90 (by decide) dL_law_86 ?_
    refine k_istore C [(10, .int 1), (9, .int ((fX2_told_03 X) + (fX2_told_13 X))), (8, .int (fX2_count_1 X)), (7, .int (fX2_count_2 X)), (6, .int (fX2_count_3 X)), (5, .int (r + ((59 : Int32) * (nI i)))), (0, .ref sc), (1, .ref a0), (2, .ref z0), (3, .int ia), (4, .int (nI i))] (by decide) rfl dL_law_90 ?_
    refine k_aload_n C dL_law_92 7 rfl ?_
    refine k_aload_n C dL_law_93 8 rfl ?_
    refine k_iload C dL_law_94 5 rfl ?_
    exact kk r 1
set_option maxHeartbeats 4000000 in
set_option maxRecDepth 100000 in
theorem S0_r {p : Program} {l : Launch} {e : Env} {s : State} {m : MethodId} {args : Array Value} {below : List Frame} {meth : Method} {c : Code} {D : va_G} {cI cJ : ClassId} {A : Nat → Prop} {Q : State → Prop} {a0 a1 a2 a3 a4 a5 a6 z0 z1 z2 z3 z4 sc : Nat} {b : Lb} {X : Co} {Z : Zs} {K N : Nat} (C : kCx p s m args meth c RL cL_law 23 ret D cI cJ A) (hK : K + 3000 ≤ 600104) (hN : N + 30000 ≤ 7301314) {L i : Nat} {xs : Nat → Int32} (hX : va_X sc L xs s s.heap) (hbl : sc < s.heap.size) (hbA : ¬ A sc) (hL : L < 2 ^ 31) (hi : i < 16) {ia : Int32} (kk : ∀ r nw : Int32, kW p l e room_1 s m args below meth c D A 23 K N Q [(a0, cF a1 a2 a3 a4 a5 a6 X.2.2.2.2.2.2), (a1, cS X.1), (a2, cS X.2.1), (a3, cB X.2.2.1), (a4, cB X.2.2.2.1), (a5, cB X.2.2.2.2.1), (a6, cB X.2.2.2.2.2.1), (z0, cZ (.ref z4) z1 Z.2.2), (z1, cQ cJ z2 z3), (z2, cA4 cI Z.1), (z3, cA4 cI Z.2.1), (z4, cL b)] 96 [(10, .int nw), (9, .int ((fX2_told_03 X) + (fX2_told_13 X))), (8, .int (fX2_count_1 X)), (7, .int (fX2_count_2 X)), (6, .int (fX2_count_3 X)), (5, .int (r + ((59 : Int32) * (nI i)))), (0, .ref sc), (1, .ref a0), (2, .ref z0), (3, .int ia), (4, .int (nI i))] [.int (r + ((59 : Int32) * (nI i))), .ref z0, .ref a0]) : kW p l e room_1 s m args below meth c D A 23 K N Q [(a0, cF a1 a2 a3 a4 a5 a6 X.2.2.2.2.2.2), (a1, cS X.1), (a2, cS X.2.1), (a3, cB X.2.2.1), (a4, cB X.2.2.2.1), (a5, cB X.2.2.2.2.1), (a6, cB X.2.2.2.2.2.1), (z0, cZ (.ref z4) z1 Z.2.2), (z1, cQ cJ z2 z3), (z2, cA4 cI Z.1), (z3, cA4 cI Z.2.1), (z4, cL b)] 21 [(0, .ref sc), (1, .ref a0), (2, .ref z0), (3, .int ia), (4, .int (nI i))] [] := by
  refine k_iload C dL_law_21 4 rfl ?_
  refine k_bipush C 16 (by decide) dL_law_23 ?_
  refine k_icmp_ge C 1023 (by decide) dL_law_25 (fun h => absurd h (show ¬ 16 ≤ nI i from by rw [kleI, nI_toInt (by omega), show ((16 : Int32)).toInt = 16 from by decide]; omega)) (fun _ => ?_)
  refine k_aload_n C dL_law_28 0 rfl ?_
  refine k_iload C dL_law_29 4 rfl ?_
  refine k_cell C hX hbl hbA (fun sz => mL_cell l D cI cJ sc L xs (nI i) (by rw [nI_toInt (by omega)]; omega) hL sz) (va_cwS 2 C.2.2.2.2.1 (kGS q490 q491 q34 q492) rfl rfl rfl hdL_cell ⟨Nat.le_of_ble_eq_true rfl, Nat.le_of_ble_eq_true rfl⟩) (Nat.le_of_ble_eq_true rfl) ⟨by show _ ≤ 600104; omega, by show _ ≤ 7301314; omega⟩ dL_law_31 (fun r => ?_)
  refine k_bipush C 59 (by decide) dL_law_34 ?_
  refine k_iload C dL_law_36 4 rfl ?_
  refine k_imul C dL_law_38 ?_
  refine k_iadd C dL_law_39 ?_
  refine k_istore C [(5, .int (r + ((59 : Int32) * (nI i)))), (0, .ref sc), (1, .ref a0), (2, .ref z0), (3, .int ia), (4, .int (nI i))] (by decide) rfl dL_law_40 ?_
  refine k_aload_n C dL_law_42 2 rfl ?_
  refine k_iconst C 3 (by decide) dL_law_43 ?_
  refine k_callV_i C (mX2_count_3 l D cI cJ a0 a1 a2 a3 a4 a5 a6 X) (cwV 1 C.2.2.2.2.1 (kGV q260 q261 q262 q35 q263) rfl rfl rfl ⟨rfl, hdX2_count⟩ ⟨Nat.le_of_ble_eq_true rfl, Nat.le_of_ble_eq_true rfl⟩) [0, 1, 2, 3, 4, 5, 6] [7, 8, 9, 10, 11] [5, 6, 7, 8, 9, 10, 11, 0, 1, 2, 3, 4] [(z0, cZ (.ref z4) z1 Z.2.2), (z1, cQ cJ z2 z3), (z2, cA4 cI Z.1), (z3, cA4 cI Z.2.1), (z4, cL b)] ([(a0, cF a1 a2 a3 a4 a5 a6 X.2.2.2.2.2.2), (a1, cS X.1), (a2, cS X.2.1), (a3, cB X.2.2.1), (a4, cB X.2.2.2.1), (a5, cB X.2.2.2.2.1), (a6, cB X.2.2.2.2.2.1), (z0, cZ (.ref z4) z1 Z.2.2), (z1, cQ cJ z2 z3), (z2, cA4 cI Z.1), (z3, cA4 cI Z.2.1), (z4, cL b)]) rfl rfl rfl rfl (by decide) [a0, a1, a2, a3, a4, a5, a6] rfl rfl rfl rfl 0 2 rfl rfl rfl (Nat.le_of_ble_eq_true rfl) ⟨by show _ ≤ 600104; omega, by show _ ≤ 7301314; omega⟩ rfl dL_law_44 ?_
  refine k_istore C [(6, .int (fX2_count_3 X)), (5, .int (r + ((59 : Int32) * (nI i)))), (0, .ref sc), (1, .ref a0), (2, .ref z0), (3, .int ia), (4, .int (nI i))] (by decide) rfl dL_law_47 ?_
  refine k_aload_n C dL_law_49 3 rfl ?_
  refine k_iconst C 2 (by decide) dL_law_50 ?_
  refine k_callV_i C (mX2_count_2 l D cI cJ a0 a1 a2 a3 a4 a5 a6 X) (cwV 1 C.2.2.2.2.1 (kGV q260 q261 q262 q35 q263) rfl rfl rfl ⟨rfl, hdX2_count⟩ ⟨Nat.le_of_ble_eq_true rfl, Nat.le_of_ble_eq_true rfl⟩) [0, 1, 2, 3, 4, 5, 6] [7, 8, 9, 10, 11] [5, 6, 7, 8, 9, 10, 11, 0, 1, 2, 3, 4] [(z0, cZ (.ref z4) z1 Z.2.2), (z1, cQ cJ z2 z3), (z2, cA4 cI Z.1), (z3, cA4 cI Z.2.1), (z4, cL b)] ([(a0, cF a1 a2 a3 a4 a5 a6 X.2.2.2.2.2.2), (a1, cS X.1), (a2, cS X.2.1), (a3, cB X.2.2.1), (a4, cB X.2.2.2.1), (a5, cB X.2.2.2.2.1), (a6, cB X.2.2.2.2.2.1), (z0, cZ (.ref z4) z1 Z.2.2), (z1, cQ cJ z2 z3), (z2, cA4 cI Z.1), (z3, cA4 cI Z.2.1), (z4, cL b)]) rfl rfl rfl rfl (by decide) [a0, a1, a2, a3, a4, a5, a6] rfl rfl rfl rfl 0 2 rfl rfl rfl (Nat.le_of_ble_eq_true rfl) ⟨by show _ ≤ 600104; omega, by show _ ≤ 7301314; omega⟩ rfl dL_law_51 ?_
  refine k_istore C [(7, .int (fX2_count_2 X)), (6, .int (fX2_count_3 X)), (5, .int (r + ((59 : Int32) * (nI i)))), (0, .ref sc), (1, .ref a0), (2, .ref z0), (3, .int ia), (4, .int (nI i))] (by decide) rfl dL_law_54 ?_
  refine k_aload_n C dL_law_56 4 rfl ?_
  refine k_iconst C 1 (by decide) dL_law_57 ?_
  refine k_callV_i C (mX2_count_1 l D cI cJ a0 a1 a2 a3 a4 a5 a6 X) (cwV 1 C.2.2.2.2.1 (kGV q260 q261 q262 q35 q263) rfl rfl rfl ⟨rfl, hdX2_count⟩ ⟨Nat.le_of_ble_eq_true rfl, Nat.le_of_ble_eq_true rfl⟩) [0, 1, 2, 3, 4, 5, 6] [7, 8, 9, 10, 11] [5, 6, 7, 8, 9, 10, 11, 0, 1, 2, 3, 4] [(z0, cZ (.ref z4) z1 Z.2.2), (z1, cQ cJ z2 z3), (z2, cA4 cI Z.1), (z3, cA4 cI Z.2.1), (z4, cL b)] ([(a0, cF a1 a2 a3 a4 a5 a6 X.2.2.2.2.2.2), (a1, cS X.1), (a2, cS X.2.1), (a3, cB X.2.2.1), (a4, cB X.2.2.2.1), (a5, cB X.2.2.2.2.1), (a6, cB X.2.2.2.2.2.1), (z0, cZ (.ref z4) z1 Z.2.2), (z1, cQ cJ z2 z3), (z2, cA4 cI Z.1), (z3, cA4 cI Z.2.1), (z4, cL b)]) rfl rfl rfl rfl (by decide) [a0, a1, a2, a3, a4, a5, a6] rfl rfl rfl rfl 0 2 rfl rfl rfl (Nat.le_of_ble_eq_true rfl) ⟨by show _ ≤ 600104; omega, by show _ ≤ 7301314; omega⟩ rfl dL_law_58 ?_
  refine k_istore C [(8, .int (fX2_count_1 X)), (7, .int (fX2_count_2 X)), (6, .int (fX2_count_3 X)), (5, .int (r + ((59 : Int32) * (nI i)))), (0, .ref sc), (1, .ref a0), (2, .ref z0), (3, .int ia), (4, .int (nI i))] (by decide) rfl dL_law_61 ?_
  refine k_aload_n C dL_law_63 5 rfl ?_
  refine k_iconst C 0 (by decide) dL_law_64 ?_
  refine k_iconst C 3 (by decide) dL_law_65 ?_
  refine k_callV_i C (mX2_told_03 l D cI cJ a0 a1 a2 a3 a4 a5 a6 X) (cwV 2 C.2.2.2.2.1 (kGV q244 q245 q246 q35 q247) rfl rfl rfl ⟨rfl, hdX2_told⟩ ⟨Nat.le_of_ble_eq_true rfl, Nat.le_of_ble_eq_true rfl⟩) [0, 1, 2, 3, 4, 5, 6] [7, 8, 9, 10, 11] [5, 6, 7, 8, 9, 10, 11, 0, 1, 2, 3, 4] [(z0, cZ (.ref z4) z1 Z.2.2), (z1, cQ cJ z2 z3), (z2, cA4 cI Z.1), (z3, cA4 cI Z.2.1), (z4, cL b)] ([(a0, cF a1 a2 a3 a4 a5 a6 X.2.2.2.2.2.2), (a1, cS X.1), (a2, cS X.2.1), (a3, cB X.2.2.1), (a4, cB X.2.2.2.1), (a5, cB X.2.2.2.2.1), (a6, cB X.2.2.2.2.2.1), (z0, cZ (.ref z4) z1 Z.2.2), (z1, cQ cJ z2 z3), (z2, cA4 cI Z.1), (z3, cA4 cI Z.2.1), (z4, cL b)]) rfl rfl rfl rfl (by decide) [a0, a1, a2, a3, a4, a5, a6] rfl rfl rfl rfl 0 2 rfl rfl rfl (Nat.le_of_ble_eq_true rfl) ⟨by show _ ≤ 600104; omega, by show _ ≤ 7301314; omega⟩ rfl dL_law_66 ?_
  refine k_aload_n C dL_law_69 5 rfl ?_
  refine k_iconst C 1 (by decide) dL_law_70 ?_
  refine k_iconst C 3 (by decide) dL_law_71 ?_
  refine k_callV_i C (mX2_told_13 l D cI cJ a0 a1 a2 a3 a4 a5 a6 X) (cwV 2 C.2.2.2.2.1 (kGV q244 q245 q246 q35 q247) rfl rfl rfl ⟨rfl, hdX2_told⟩ ⟨Nat.le_of_ble_eq_true rfl, Nat.le_of_ble_eq_true rfl⟩) [0, 1, 2, 3, 4, 5, 6] [7, 8, 9, 10, 11] [5, 6, 7, 8, 9, 10, 11, 0, 1, 2, 3, 4] [(z0, cZ (.ref z4) z1 Z.2.2), (z1, cQ cJ z2 z3), (z2, cA4 cI Z.1), (z3, cA4 cI Z.2.1), (z4, cL b)] ([(a0, cF a1 a2 a3 a4 a5 a6 X.2.2.2.2.2.2), (a1, cS X.1), (a2, cS X.2.1), (a3, cB X.2.2.1), (a4, cB X.2.2.2.1), (a5, cB X.2.2.2.2.1), (a6, cB X.2.2.2.2.2.1), (z0, cZ (.ref z4) z1 Z.2.2), (z1, cQ cJ z2 z3), (z2, cA4 cI Z.1), (z3, cA4 cI Z.2.1), (z4, cL b)]) rfl rfl rfl rfl (by decide) [a0, a1, a2, a3, a4, a5, a6] rfl rfl rfl rfl 0 2 rfl rfl rfl (Nat.le_of_ble_eq_true rfl) ⟨by show _ ≤ 600104; omega, by show _ ≤ 7301314; omega⟩ rfl dL_law_72 ?_
  refine k_iadd C dL_law_75 ?_
  refine k_istore C [(9, .int ((fX2_told_03 X) + (fX2_told_13 X))), (8, .int (fX2_count_1 X)), (7, .int (fX2_count_2 X)), (6, .int (fX2_count_3 X)), (5, .int (r + ((59 : Int32) * (nI i)))), (0, .ref sc), (1, .ref a0), (2, .ref z0), (3, .int ia), (4, .int (nI i))] (by decide) rfl dL_law_76 ?_
  refine k_aload_n C dL_law_78 7 rfl ?_
  refine k_callV_i C (mX4_winner l D cI cJ z0 z1 z2 z3 (.ref z4) Z) (cwV 0 C.2.2.2.2.1 (kGV q462 q463 q464 q38 q465) rfl rfl rfl ⟨rfl, hdX4_winner⟩ ⟨Nat.le_of_ble_eq_true rfl, Nat.le_of_ble_eq_true rfl⟩) [7, 8, 9, 10] [0, 1, 2, 3, 4, 5, 6, 11] [0, 1, 2, 3, 4, 5, 6, 8, 9, 10, 11, 7] [(a0, cF a1 a2 a3 a4 a5 a6 X.2.2.2.2.2.2), (a1, cS X.1), (a2, cS X.2.1), (a3, cB X.2.2.1), (a4, cB X.2.2.2.1), (a5, cB X.2.2.2.2.1), (a6, cB X.2.2.2.2.2.1), (z4, cL b)] ([(a0, cF a1 a2 a3 a4 a5 a6 X.2.2.2.2.2.2), (a1, cS X.1), (a2, cS X.2.1), (a3, cB X.2.2.1), (a4, cB X.2.2.2.1), (a5, cB X.2.2.2.2.1), (a6, cB X.2.2.2.2.2.1), (z0, cZ (.ref z4) z1 Z.2.2), (z1, cQ cJ z2 z3), (z2, cA4 cI Z.1), (z3, cA4 cI Z.2.1), (z4, cL b)]) rfl rfl rfl rfl (by decide) [z0, z1, z2, z3] rfl rfl rfl rfl 7 4 rfl rfl rfl (Nat.le_of_ble_eq_true rfl) ⟨by show _ ≤ 600104; omega, by show _ ≤ 7301314; omega⟩ rfl dL_law_79 ?_
  refine k_if_lt C 89 (by decide) dL_law_82 (fun c1 => ?_) (fun c1 => ?_)
  ·
    refine k_iconst C 0 (by decide) dL_law_89 ?_
    refine k_istore C [(10, .int 0), (9, .int ((fX2_told_03 X) + (fX2_told_13 X))), (8, .int (fX2_count_1 X)), (7, .int (fX2_count_2 X)), (6, .int (fX2_count_3 X)), (5, .int (r + ((59 : Int32) * (nI i)))), (0, .ref sc), (1, .ref a0), (2, .ref z0), (3, .int ia), (4, .int (nI i))] (by decide) rfl dL_law_90 ?_
    refine k_aload_n C dL_law_92 7 rfl ?_
    refine k_aload_n C dL_law_93 8 rfl ?_
    refine k_iload C dL_law_94 5 rfl ?_
    exact kk r 0
  ·
    refine k_iconst C 1 (by decide) dL_law_85 ?_
    refine k_goto C 90 (by decide) dL_law_86 ?_
    refine k_istore C [(10, .int 1), (9, .int ((fX2_told_03 X) + (fX2_told_13 X))), (8, .int (fX2_count_1 X)), (7, .int (fX2_count_2 X)), (6, .int (fX2_count_3 X)), (5, .int (r + ((59 : Int32) * (nI i)))), (0, .ref sc), (1, .ref a0), (2, .ref z0), (3, .int ia), (4, .int (nI i))] (by decide) rfl dL_law_90 ?_
    refine k_aload_n C dL_law_92 7 rfl ?_
    refine k_aload_n C dL_law_93 8 rfl ?_
    refine k_iload C dL_law_94 5 rfl ?_
    exact kk r 1