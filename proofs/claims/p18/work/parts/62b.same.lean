/-! the same, court and hand -/
theorem hdX4_isSame : yX4_isSame.cls ≠ "java/lang/invoke/MethodHandle" ∧ yX4_isSame.cls ≠ "java/lang/invoke/VarHandle" ∧ (parseMethodDescriptor yX4_isSame.desc).map (fun d => d.parameters.length) = some 1 := by decide +kernel
set_option maxHeartbeats 4000000 in
set_option maxRecDepth 100000 in
theorem mX4_isSame_n (l : Launch) (D : va_G) (cI cJ : ClassId) (a0 a1 a2 a3 a4 a5 a6 z0 z1 z2 z3 : Nat) (X : Co) (Z : Zs) (h18 : ((fX2_count_0 X) = (fX4_counted_n0 Z))) (h18' : ((fX2_count_1 X) = (fX4_counted_n1 Z))) (h18'' : ((fX2_count_2 X) = (fX4_counted_n2 Z))) (h18''' : ((fX2_count_3 X) = (fX4_counted_n3 Z))) (h18'''' : ((fX2_count_4 X) = (fX4_counted_n4 Z))) (h18''''' : ((fX2_count_5 X) = (fX4_counted_n5 Z))) (h18'''''' : ((fX2_count_6 X) = (fX4_counted_n6 Z))) (h18''''''' : ((fX2_count_7 X) = (fX4_counted_n7 Z))) (h18'''''''' : ((fX2_count_8 X) = (fX4_counted_n8 Z))) (h57 : ((fX2_told_00 X) = Z.1.1)) (h57' : ((fX2_told_01 X) = Z.1.2.1)) (h57'' : ((fX2_told_02 X) = Z.1.2.2.1)) (h57''' : ((fX2_told_03 X) = Z.1.2.2.2)) (h57'''' : ((fX2_told_10 X) = Z.2.1.1)) (h57''''' : ((fX2_told_11 X) = Z.2.1.2.1)) (h57'''''' : ((fX2_told_12 X) = Z.2.1.2.2.1)) (h57''''''' : ((fX2_told_13 X) = Z.2.1.2.2.2)) (h106 : ((fX2_ball_0 X) = 0)) (h106' : ((fX2_ball_1 X) = 0)) (h106'' : ((fX2_ball_2 X) = 0)) (h106''' : ((fX2_ball_3 X) = 0)) (h106'''' : ((fX2_ball_4 X) = 0)) (h106''''' : ((fX2_ball_5 X) = 0)) (hr : Z.2.2.2.2.2.1 = X.2.2.2.2.2.2.2.2.2.2.2.1) (hs : Z.2.2.2.2.2.2.2.2.2.2 = X.2.2.2.2.2.2.2.2.2.2.2.2.1) (hne : ¬ Z.2.2.2.2.2.1 = 0 → vf_n64 (FP.ddiv (FP.i2d Z.2.2.2.2.2.2.2.2.2.2) (FP.i2d Z.2.2.2.2.2.1)) ∧ Op.cmpValue (FP.dcmp (FP.ddiv (FP.i2d Z.2.2.2.2.2.2.2.2.2.2) (FP.i2d Z.2.2.2.2.2.1)) (FP.ddiv (FP.i2d Z.2.2.2.2.2.2.2.2.2.2) (FP.i2d Z.2.2.2.2.2.1))) .l = 0) : kGi l D cI cJ yX4_isSame (.code yX4_isSame cX4_isSame 4 (some .boolean)) { frames := 7, cells := 9, slots := 81, locals := 120 } [.ref z0, .ref a0] [(a0, cF a1 a2 a3 a4 a5 a6 X.2.2.2.2.2.2), (a1, cS X.1), (a2, cS X.2.1), (a3, cB X.2.2.1), (a4, cB X.2.2.2.1), (a5, cB X.2.2.2.2.1), (a6, cB X.2.2.2.2.2.1), (z0, cZ .null z1 Z.2.2), (z1, cQ cJ z2 z3), (z2, cA4 cI Z.1), (z3, cA4 cI Z.2.1)] 9 81 (fun r U => r = 1 ∧ U = [(a0, cF a1 a2 a3 a4 a5 a6 X.2.2.2.2.2.2), (a1, cS X.1), (a2, cS X.2.1), (a3, cB X.2.2.1), (a4, cB X.2.2.2.1), (a5, cB X.2.2.2.2.1), (a6, cB X.2.2.2.2.2.1), (z0, cZ .null z1 Z.2.2), (z1, cQ cJ z2 z3), (z2, cA4 cI Z.1), (z3, cA4 cI Z.2.1)]) := by
  refine fun sz => k_ofN (lv := [(0, .ref z0), (1, .ref a0)]) (by decide) sz (Nat.le_of_ble_eq_true rfl) rfl ?_
  intro p e s m args below meth c hsz hnm C
  refine k_iconst C 0 (by decide) dX4_isSame_0 ?_
  refine k_istore_n C [(2, .int 0), (0, .ref z0), (1, .ref a0)] (by decide) rfl dX4_isSame_1 ?_
  refine k_iload_n C dX4_isSame_2 0 rfl ?_
  refine k_bipush C 9 (by decide) dX4_isSame_3 ?_
  refine k_icmp_ge C 29 (by decide) dX4_isSame_5 (fun h => absurd h (by decide)) (fun _ => ?_)
  refine k_aload_n C dX4_isSame_8 2 rfl ?_
  refine k_iload_n C dX4_isSame_9 0 rfl ?_
  refine k_callV_i C (mX2_count_0 l D cI cJ a0 a1 a2 a3 a4 a5 a6 X) (cwV 1 C.2.2.2.2.1 (kGV q470 q261 q262 q35 q263) rfl rfl rfl ⟨rfl, hdX2_count⟩ ⟨Nat.le_of_ble_eq_true rfl, Nat.le_of_ble_eq_true rfl⟩) [0, 1, 2, 3, 4, 5, 6] [7, 8, 9, 10] [4, 5, 6, 7, 8, 9, 10, 0, 1, 2, 3] [(z0, cZ .null z1 Z.2.2), (z1, cQ cJ z2 z3), (z2, cA4 cI Z.1), (z3, cA4 cI Z.2.1)] ([(a0, cF a1 a2 a3 a4 a5 a6 X.2.2.2.2.2.2), (a1, cS X.1), (a2, cS X.2.1), (a3, cB X.2.2.1), (a4, cB X.2.2.2.1), (a5, cB X.2.2.2.2.1), (a6, cB X.2.2.2.2.2.1), (z0, cZ .null z1 Z.2.2), (z1, cQ cJ z2 z3), (z2, cA4 cI Z.1), (z3, cA4 cI Z.2.1)]) rfl rfl rfl rfl (by decide) [a0, a1, a2, a3, a4, a5, a6] rfl rfl rfl rfl 0 2 rfl rfl rfl (Nat.le_of_ble_eq_true rfl) ⟨Nat.le_of_ble_eq_true rfl, Nat.le_of_ble_eq_true rfl⟩ rfl dX4_isSame_10 ?_
  refine k_aload_n C dX4_isSame_13 1 rfl ?_
  refine k_iload_n C dX4_isSame_14 0 rfl ?_
  refine k_callGV_i C (mX4_counted_n0 l D cI cJ z0 z1 z2 z3 Z) (cwV 1 C.2.2.2.2.1 (kGV q471 q472 q473 q38 q474) rfl rfl rfl ⟨rfl, hdX4_counted⟩ ⟨Nat.le_of_ble_eq_true rfl, Nat.le_of_ble_eq_true rfl⟩) [7, 8, 9, 10] [0, 1, 2, 3, 4, 5, 6] [(a0, cF a1 a2 a3 a4 a5 a6 X.2.2.2.2.2.2), (a1, cS X.1), (a2, cS X.2.1), (a3, cB X.2.2.1), (a4, cB X.2.2.2.1), (a5, cB X.2.2.2.2.1), (a6, cB X.2.2.2.2.2.1)] rfl rfl rfl rfl (by decide) 7 4 rfl rfl rfl (Nat.le_of_ble_eq_true rfl) ⟨Nat.le_of_ble_eq_true rfl, Nat.le_of_ble_eq_true rfl⟩ rfl dX4_isSame_15 (fun r1 U2 h3 => ?_)
  obtain ⟨rfl, rfl⟩ := h3
  refine k_wsub (w' := [(a0, cF a1 a2 a3 a4 a5 a6 X.2.2.2.2.2.2), (a1, cS X.1), (a2, cS X.2.1), (a3, cB X.2.2.1), (a4, cB X.2.2.2.1), (a5, cB X.2.2.2.2.1), (a6, cB X.2.2.2.2.2.1), (z0, cZ .null z1 Z.2.2), (z1, cQ cJ z2 z3), (z2, cA4 cI Z.1), (z3, cA4 cI Z.2.1)]) [0, 1, 2, 3, 4, 5, 6, 7, 8, 9, 10] rfl rfl ?_
  refine k_icmp_eq C 23 (by decide) dX4_isSame_18 (fun _ => ?_) (fun h => absurd h18 h)
  refine k_iinc C 1 [(2, .int 1), (0, .ref z0), (1, .ref a0)] 0 rfl (by decide) (by decide) rfl dX4_isSame_23 ?_
  refine k_goto C 2 (by decide) dX4_isSame_26 ?_
  refine k_iload_n C dX4_isSame_2 0 rfl ?_
  refine k_bipush C 9 (by decide) dX4_isSame_3 ?_
  refine k_icmp_ge C 29 (by decide) dX4_isSame_5 (fun h => absurd h (by decide)) (fun _ => ?_)
  refine k_aload_n C dX4_isSame_8 2 rfl ?_
  refine k_iload_n C dX4_isSame_9 0 rfl ?_
  refine k_callV_i C (mX2_count_1 l D cI cJ a0 a1 a2 a3 a4 a5 a6 X) (cwV 1 C.2.2.2.2.1 (kGV q470 q261 q262 q35 q263) rfl rfl rfl ⟨rfl, hdX2_count⟩ ⟨Nat.le_of_ble_eq_true rfl, Nat.le_of_ble_eq_true rfl⟩) [0, 1, 2, 3, 4, 5, 6] [7, 8, 9, 10] [4, 5, 6, 7, 8, 9, 10, 0, 1, 2, 3] [(z0, cZ .null z1 Z.2.2), (z1, cQ cJ z2 z3), (z2, cA4 cI Z.1), (z3, cA4 cI Z.2.1)] ([(a0, cF a1 a2 a3 a4 a5 a6 X.2.2.2.2.2.2), (a1, cS X.1), (a2, cS X.2.1), (a3, cB X.2.2.1), (a4, cB X.2.2.2.1), (a5, cB X.2.2.2.2.1), (a6, cB X.2.2.2.2.2.1), (z0, cZ .null z1 Z.2.2), (z1, cQ cJ z2 z3), (z2, cA4 cI Z.1), (z3, cA4 cI Z.2.1)]) rfl rfl rfl rfl (by decide) [a0, a1, a2, a3, a4, a5, a6] rfl rfl rfl rfl 0 2 rfl rfl rfl (Nat.le_of_ble_eq_true rfl) ⟨Nat.le_of_ble_eq_true rfl, Nat.le_of_ble_eq_true rfl⟩ rfl dX4_isSame_10 ?_
  refine k_aload_n C dX4_isSame_13 1 rfl ?_
  refine k_iload_n C dX4_isSame_14 0 rfl ?_
  refine k_callGV_i C (mX4_counted_n1 l D cI cJ z0 z1 z2 z3 Z) (cwV 1 C.2.2.2.2.1 (kGV q471 q472 q473 q38 q474) rfl rfl rfl ⟨rfl, hdX4_counted⟩ ⟨Nat.le_of_ble_eq_true rfl, Nat.le_of_ble_eq_true rfl⟩) [7, 8, 9, 10] [0, 1, 2, 3, 4, 5, 6] [(a0, cF a1 a2 a3 a4 a5 a6 X.2.2.2.2.2.2), (a1, cS X.1), (a2, cS X.2.1), (a3, cB X.2.2.1), (a4, cB X.2.2.2.1), (a5, cB X.2.2.2.2.1), (a6, cB X.2.2.2.2.2.1)] rfl rfl rfl rfl (by decide) 7 4 rfl rfl rfl (Nat.le_of_ble_eq_true rfl) ⟨Nat.le_of_ble_eq_true rfl, Nat.le_of_ble_eq_true rfl⟩ rfl dX4_isSame_15 (fun r4 U5 h6 => ?_)
  obtain ⟨rfl, rfl⟩ := h6
  refine k_wsub (w' := [(a0, cF a1 a2 a3 a4 a5 a6 X.2.2.2.2.2.2), (a1, cS X.1), (a2, cS X.2.1), (a3, cB X.2.2.1), (a4, cB X.2.2.2.1), (a5, cB X.2.2.2.2.1), (a6, cB X.2.2.2.2.2.1), (z0, cZ .null z1 Z.2.2), (z1, cQ cJ z2 z3), (z2, cA4 cI Z.1), (z3, cA4 cI Z.2.1)]) [0, 1, 2, 3, 4, 5, 6, 7, 8, 9, 10] rfl rfl ?_
  refine k_icmp_eq C 23 (by decide) dX4_isSame_18 (fun _ => ?_) (fun h => absurd h18' h)
  refine k_iinc C 2 [(2, .int 2), (0, .ref z0), (1, .ref a0)] 0 rfl (by decide) (by decide) rfl dX4_isSame_23 ?_
  refine k_goto C 2 (by decide) dX4_isSame_26 ?_
  refine k_iload_n C dX4_isSame_2 0 rfl ?_
  refine k_bipush C 9 (by decide) dX4_isSame_3 ?_
  refine k_icmp_ge C 29 (by decide) dX4_isSame_5 (fun h => absurd h (by decide)) (fun _ => ?_)
  refine k_aload_n C dX4_isSame_8 2 rfl ?_
  refine k_iload_n C dX4_isSame_9 0 rfl ?_
  refine k_callV_i C (mX2_count_2 l D cI cJ a0 a1 a2 a3 a4 a5 a6 X) (cwV 1 C.2.2.2.2.1 (kGV q470 q261 q262 q35 q263) rfl rfl rfl ⟨rfl, hdX2_count⟩ ⟨Nat.le_of_ble_eq_true rfl, Nat.le_of_ble_eq_true rfl⟩) [0, 1, 2, 3, 4, 5, 6] [7, 8, 9, 10] [4, 5, 6, 7, 8, 9, 10, 0, 1, 2, 3] [(z0, cZ .null z1 Z.2.2), (z1, cQ cJ z2 z3), (z2, cA4 cI Z.1), (z3, cA4 cI Z.2.1)] ([(a0, cF a1 a2 a3 a4 a5 a6 X.2.2.2.2.2.2), (a1, cS X.1), (a2, cS X.2.1), (a3, cB X.2.2.1), (a4, cB X.2.2.2.1), (a5, cB X.2.2.2.2.1), (a6, cB X.2.2.2.2.2.1), (z0, cZ .null z1 Z.2.2), (z1, cQ cJ z2 z3), (z2, cA4 cI Z.1), (z3, cA4 cI Z.2.1)]) rfl rfl rfl rfl (by decide) [a0, a1, a2, a3, a4, a5, a6] rfl rfl rfl rfl 0 2 rfl rfl rfl (Nat.le_of_ble_eq_true rfl) ⟨Nat.le_of_ble_eq_true rfl, Nat.le_of_ble_eq_true rfl⟩ rfl dX4_isSame_10 ?_
  refine k_aload_n C dX4_isSame_13 1 rfl ?_
  refine k_iload_n C dX4_isSame_14 0 rfl ?_
  refine k_callGV_i C (mX4_counted_n2 l D cI cJ z0 z1 z2 z3 Z) (cwV 1 C.2.2.2.2.1 (kGV q471 q472 q473 q38 q474) rfl rfl rfl ⟨rfl, hdX4_counted⟩ ⟨Nat.le_of_ble_eq_true rfl, Nat.le_of_ble_eq_true rfl⟩) [7, 8, 9, 10] [0, 1, 2, 3, 4, 5, 6] [(a0, cF a1 a2 a3 a4 a5 a6 X.2.2.2.2.2.2), (a1, cS X.1), (a2, cS X.2.1), (a3, cB X.2.2.1), (a4, cB X.2.2.2.1), (a5, cB X.2.2.2.2.1), (a6, cB X.2.2.2.2.2.1)] rfl rfl rfl rfl (by decide) 7 4 rfl rfl rfl (Nat.le_of_ble_eq_true rfl) ⟨Nat.le_of_ble_eq_true rfl, Nat.le_of_ble_eq_true rfl⟩ rfl dX4_isSame_15 (fun r7 U8 h9 => ?_)
  obtain ⟨rfl, rfl⟩ := h9
  refine k_wsub (w' := [(a0, cF a1 a2 a3 a4 a5 a6 X.2.2.2.2.2.2), (a1, cS X.1), (a2, cS X.2.1), (a3, cB X.2.2.1), (a4, cB X.2.2.2.1), (a5, cB X.2.2.2.2.1), (a6, cB X.2.2.2.2.2.1), (z0, cZ .null z1 Z.2.2), (z1, cQ cJ z2 z3), (z2, cA4 cI Z.1), (z3, cA4 cI Z.2.1)]) [0, 1, 2, 3, 4, 5, 6, 7, 8, 9, 10] rfl rfl ?_
  refine k_icmp_eq C 23 (by decide) dX4_isSame_18 (fun _ => ?_) (fun h => absurd h18'' h)
  refine k_iinc C 3 [(2, .int 3), (0, .ref z0), (1, .ref a0)] 0 rfl (by decide) (by decide) rfl dX4_isSame_23 ?_
  refine k_goto C 2 (by decide) dX4_isSame_26 ?_
  refine k_iload_n C dX4_isSame_2 0 rfl ?_
  refine k_bipush C 9 (by decide) dX4_isSame_3 ?_
  refine k_icmp_ge C 29 (by decide) dX4_isSame_5 (fun h => absurd h (by decide)) (fun _ => ?_)
  refine k_aload_n C dX4_isSame_8 2 rfl ?_
  refine k_iload_n C dX4_isSame_9 0 rfl ?_
  refine k_callV_i C (mX2_count_3 l D cI cJ a0 a1 a2 a3 a4 a5 a6 X) (cwV 1 C.2.2.2.2.1 (kGV q470 q261 q262 q35 q263) rfl rfl rfl ⟨rfl, hdX2_count⟩ ⟨Nat.le_of_ble_eq_true rfl, Nat.le_of_ble_eq_true rfl⟩) [0, 1, 2, 3, 4, 5, 6] [7, 8, 9, 10] [4, 5, 6, 7, 8, 9, 10, 0, 1, 2, 3] [(z0, cZ .null z1 Z.2.2), (z1, cQ cJ z2 z3), (z2, cA4 cI Z.1), (z3, cA4 cI Z.2.1)] ([(a0, cF a1 a2 a3 a4 a5 a6 X.2.2.2.2.2.2), (a1, cS X.1), (a2, cS X.2.1), (a3, cB X.2.2.1), (a4, cB X.2.2.2.1), (a5, cB X.2.2.2.2.1), (a6, cB X.2.2.2.2.2.1), (z0, cZ .null z1 Z.2.2), (z1, cQ cJ z2 z3), (z2, cA4 cI Z.1), (z3, cA4 cI Z.2.1)]) rfl rfl rfl rfl (by decide) [a0, a1, a2, a3, a4, a5, a6] rfl rfl rfl rfl 0 2 rfl rfl rfl (Nat.le_of_ble_eq_true rfl) ⟨Nat.le_of_ble_eq_true rfl, Nat.le_of_ble_eq_true rfl⟩ rfl dX4_isSame_10 ?_
  refine k_aload_n C dX4_isSame_13 1 rfl ?_
  refine k_iload_n C dX4_isSame_14 0 rfl ?_
  refine k_callGV_i C (mX4_counted_n3 l D cI cJ z0 z1 z2 z3 Z) (cwV 1 C.2.2.2.2.1 (kGV q471 q472 q473 q38 q474) rfl rfl rfl ⟨rfl, hdX4_counted⟩ ⟨Nat.le_of_ble_eq_true rfl, Nat.le_of_ble_eq_true rfl⟩) [7, 8, 9, 10] [0, 1, 2, 3, 4, 5, 6] [(a0, cF a1 a2 a3 a4 a5 a6 X.2.2.2.2.2.2), (a1, cS X.1), (a2, cS X.2.1), (a3, cB X.2.2.1), (a4, cB X.2.2.2.1), (a5, cB X.2.2.2.2.1), (a6, cB X.2.2.2.2.2.1)] rfl rfl rfl rfl (by decide) 7 4 rfl rfl rfl (Nat.le_of_ble_eq_true rfl) ⟨Nat.le_of_ble_eq_true rfl, Nat.le_of_ble_eq_true rfl⟩ rfl dX4_isSame_15 (fun r10 U11 h12 => ?_)
  obtain ⟨rfl, rfl⟩ := h12
  refine k_wsub (w' := [(a0, cF a1 a2 a3 a4 a5 a6 X.2.2.2.2.2.2), (a1, cS X.1), (a2, cS X.2.1), (a3, cB X.2.2.1), (a4, cB X.2.2.2.1), (a5, cB X.2.2.2.2.1), (a6, cB X.2.2.2.2.2.1), (z0, cZ .null z1 Z.2.2), (z1, cQ cJ z2 z3), (z2, cA4 cI Z.1), (z3, cA4 cI Z.2.1)]) [0, 1, 2, 3, 4, 5, 6, 7, 8, 9, 10] rfl rfl ?_
  refine k_icmp_eq C 23 (by decide) dX4_isSame_18 (fun _ => ?_) (fun h => absurd h18''' h)
  refine k_iinc C 4 [(2, .int 4), (0, .ref z0), (1, .ref a0)] 0 rfl (by decide) (by decide) rfl dX4_isSame_23 ?_
  refine k_goto C 2 (by decide) dX4_isSame_26 ?_
  refine k_iload_n C dX4_isSame_2 0 rfl ?_
  refine k_bipush C 9 (by decide) dX4_isSame_3 ?_
  refine k_icmp_ge C 29 (by decide) dX4_isSame_5 (fun h => absurd h (by decide)) (fun _ => ?_)
  refine k_aload_n C dX4_isSame_8 2 rfl ?_
  refine k_iload_n C dX4_isSame_9 0 rfl ?_
  refine k_callV_i C (mX2_count_4 l D cI cJ a0 a1 a2 a3 a4 a5 a6 X) (cwV 1 C.2.2.2.2.1 (kGV q470 q261 q262 q35 q263) rfl rfl rfl ⟨rfl, hdX2_count⟩ ⟨Nat.le_of_ble_eq_true rfl, Nat.le_of_ble_eq_true rfl⟩) [0, 1, 2, 3, 4, 5, 6] [7, 8, 9, 10] [4, 5, 6, 7, 8, 9, 10, 0, 1, 2, 3] [(z0, cZ .null z1 Z.2.2), (z1, cQ cJ z2 z3), (z2, cA4 cI Z.1), (z3, cA4 cI Z.2.1)] ([(a0, cF a1 a2 a3 a4 a5 a6 X.2.2.2.2.2.2), (a1, cS X.1), (a2, cS X.2.1), (a3, cB X.2.2.1), (a4, cB X.2.2.2.1), (a5, cB X.2.2.2.2.1), (a6, cB X.2.2.2.2.2.1), (z0, cZ .null z1 Z.2.2), (z1, cQ cJ z2 z3), (z2, cA4 cI Z.1), (z3, cA4 cI Z.2.1)]) rfl rfl rfl rfl (by decide) [a0, a1, a2, a3, a4, a5, a6] rfl rfl rfl rfl 0 2 rfl rfl rfl (Nat.le_of_ble_eq_true rfl) ⟨Nat.le_of_ble_eq_true rfl, Nat.le_of_ble_eq_true rfl⟩ rfl dX4_isSame_10 ?_
  refine k_aload_n C dX4_isSame_13 1 rfl ?_
  refine k_iload_n C dX4_isSame_14 0 rfl ?_
  refine k_callGV_i C (mX4_counted_n4 l D cI cJ z0 z1 z2 z3 Z) (cwV 1 C.2.2.2.2.1 (kGV q471 q472 q473 q38 q474) rfl rfl rfl ⟨rfl, hdX4_counted⟩ ⟨Nat.le_of_ble_eq_true rfl, Nat.le_of_ble_eq_true rfl⟩) [7, 8, 9, 10] [0, 1, 2, 3, 4, 5, 6] [(a0, cF a1 a2 a3 a4 a5 a6 X.2.2.2.2.2.2), (a1, cS X.1), (a2, cS X.2.1), (a3, cB X.2.2.1), (a4, cB X.2.2.2.1), (a5, cB X.2.2.2.2.1), (a6, cB X.2.2.2.2.2.1)] rfl rfl rfl rfl (by decide) 7 4 rfl rfl rfl (Nat.le_of_ble_eq_true rfl) ⟨Nat.le_of_ble_eq_true rfl, Nat.le_of_ble_eq_true rfl⟩ rfl dX4_isSame_15 (fun r13 U14 h15 => ?_)
  obtain ⟨rfl, rfl⟩ := h15
  refine k_wsub (w' := [(a0, cF a1 a2 a3 a4 a5 a6 X.2.2.2.2.2.2), (a1, cS X.1), (a2, cS X.2.1), (a3, cB X.2.2.1), (a4, cB X.2.2.2.1), (a5, cB X.2.2.2.2.1), (a6, cB X.2.2.2.2.2.1), (z0, cZ .null z1 Z.2.2), (z1, cQ cJ z2 z3), (z2, cA4 cI Z.1), (z3, cA4 cI Z.2.1)]) [0, 1, 2, 3, 4, 5, 6, 7, 8, 9, 10] rfl rfl ?_
  refine k_icmp_eq C 23 (by decide) dX4_isSame_18 (fun _ => ?_) (fun h => absurd h18'''' h)
  refine k_iinc C 5 [(2, .int 5), (0, .ref z0), (1, .ref a0)] 0 rfl (by decide) (by decide) rfl dX4_isSame_23 ?_
  refine k_goto C 2 (by decide) dX4_isSame_26 ?_
  refine k_iload_n C dX4_isSame_2 0 rfl ?_
  refine k_bipush C 9 (by decide) dX4_isSame_3 ?_
  refine k_icmp_ge C 29 (by decide) dX4_isSame_5 (fun h => absurd h (by decide)) (fun _ => ?_)
  refine k_aload_n C dX4_isSame_8 2 rfl ?_
  refine k_iload_n C dX4_isSame_9 0 rfl ?_
  refine k_callV_i C (mX2_count_5 l D cI cJ a0 a1 a2 a3 a4 a5 a6 X) (cwV 1 C.2.2.2.2.1 (kGV q470 q261 q262 q35 q263) rfl rfl rfl ⟨rfl, hdX2_count⟩ ⟨Nat.le_of_ble_eq_true rfl, Nat.le_of_ble_eq_true rfl⟩) [0, 1, 2, 3, 4, 5, 6] [7, 8, 9, 10] [4, 5, 6, 7, 8, 9, 10, 0, 1, 2, 3] [(z0, cZ .null z1 Z.2.2), (z1, cQ cJ z2 z3), (z2, cA4 cI Z.1), (z3, cA4 cI Z.2.1)] ([(a0, cF a1 a2 a3 a4 a5 a6 X.2.2.2.2.2.2), (a1, cS X.1), (a2, cS X.2.1), (a3, cB X.2.2.1), (a4, cB X.2.2.2.1), (a5, cB X.2.2.2.2.1), (a6, cB X.2.2.2.2.2.1), (z0, cZ .null z1 Z.2.2), (z1, cQ cJ z2 z3), (z2, cA4 cI Z.1), (z3, cA4 cI Z.2.1)]) rfl rfl rfl rfl (by decide) [a0, a1, a2, a3, a4, a5, a6] rfl rfl rfl rfl 0 2 rfl rfl rfl (Nat.le_of_ble_eq_true rfl) ⟨Nat.le_of_ble_eq_true rfl, Nat.le_of_ble_eq_true rfl⟩ rfl dX4_isSame_10 ?_
  refine k_aload_n C dX4_isSame_13 1 rfl ?_
  refine k_iload_n C dX4_isSame_14 0 rfl ?_
  refine k_callGV_i C (mX4_counted_n5 l D cI cJ z0 z1 z2 z3 Z) (cwV 1 C.2.2.2.2.1 (kGV q471 q472 q473 q38 q474) rfl rfl rfl ⟨rfl, hdX4_counted⟩ ⟨Nat.le_of_ble_eq_true rfl, Nat.le_of_ble_eq_true rfl⟩) [7, 8, 9, 10] [0, 1, 2, 3, 4, 5, 6] [(a0, cF a1 a2 a3 a4 a5 a6 X.2.2.2.2.2.2), (a1, cS X.1), (a2, cS X.2.1), (a3, cB X.2.2.1), (a4, cB X.2.2.2.1), (a5, cB X.2.2.2.2.1), (a6, cB X.2.2.2.2.2.1)] rfl rfl rfl rfl (by decide) 7 4 rfl rfl rfl (Nat.le_of_ble_eq_true rfl) ⟨Nat.le_of_ble_eq_true rfl, Nat.le_of_ble_eq_true rfl⟩ rfl dX4_isSame_15 (fun r16 U17 h18 => ?_)
  obtain ⟨rfl, rfl⟩ := h18
  refine k_wsub (w' := [(a0, cF a1 a2 a3 a4 a5 a6 X.2.2.2.2.2.2), (a1, cS X.1), (a2, cS X.2.1), (a3, cB X.2.2.1), (a4, cB X.2.2.2.1), (a5, cB X.2.2.2.2.1), (a6, cB X.2.2.2.2.2.1), (z0, cZ .null z1 Z.2.2), (z1, cQ cJ z2 z3), (z2, cA4 cI Z.1), (z3, cA4 cI Z.2.1)]) [0, 1, 2, 3, 4, 5, 6, 7, 8, 9, 10] rfl rfl ?_
  refine k_icmp_eq C 23 (by decide) dX4_isSame_18 (fun _ => ?_) (fun h => absurd h18''''' h)
  refine k_iinc C 6 [(2, .int 6), (0, .ref z0), (1, .ref a0)] 0 rfl (by decide) (by decide) rfl dX4_isSame_23 ?_
  refine k_goto C 2 (by decide) dX4_isSame_26 ?_
  refine k_iload_n C dX4_isSame_2 0 rfl ?_
  refine k_bipush C 9 (by decide) dX4_isSame_3 ?_
  refine k_icmp_ge C 29 (by decide) dX4_isSame_5 (fun h => absurd h (by decide)) (fun _ => ?_)
  refine k_aload_n C dX4_isSame_8 2 rfl ?_
  refine k_iload_n C dX4_isSame_9 0 rfl ?_
  refine k_callV_i C (mX2_count_6 l D cI cJ a0 a1 a2 a3 a4 a5 a6 X) (cwV 1 C.2.2.2.2.1 (kGV q470 q261 q262 q35 q263) rfl rfl rfl ⟨rfl, hdX2_count⟩ ⟨Nat.le_of_ble_eq_true rfl, Nat.le_of_ble_eq_true rfl⟩) [0, 1, 2, 3, 4, 5, 6] [7, 8, 9, 10] [4, 5, 6, 7, 8, 9, 10, 0, 1, 2, 3] [(z0, cZ .null z1 Z.2.2), (z1, cQ cJ z2 z3), (z2, cA4 cI Z.1), (z3, cA4 cI Z.2.1)] ([(a0, cF a1 a2 a3 a4 a5 a6 X.2.2.2.2.2.2), (a1, cS X.1), (a2, cS X.2.1), (a3, cB X.2.2.1), (a4, cB X.2.2.2.1), (a5, cB X.2.2.2.2.1), (a6, cB X.2.2.2.2.2.1), (z0, cZ .null z1 Z.2.2), (z1, cQ cJ z2 z3), (z2, cA4 cI Z.1), (z3, cA4 cI Z.2.1)]) rfl rfl rfl rfl (by decide) [a0, a1, a2, a3, a4, a5, a6] rfl rfl rfl rfl 0 2 rfl rfl rfl (Nat.le_of_ble_eq_true rfl) ⟨Nat.le_of_ble_eq_true rfl, Nat.le_of_ble_eq_true rfl⟩ rfl dX4_isSame_10 ?_
  refine k_aload_n C dX4_isSame_13 1 rfl ?_
  refine k_iload_n C dX4_isSame_14 0 rfl ?_
  refine k_callGV_i C (mX4_counted_n6 l D cI cJ z0 z1 z2 z3 Z) (cwV 1 C.2.2.2.2.1 (kGV q471 q472 q473 q38 q474) rfl rfl rfl ⟨rfl, hdX4_counted⟩ ⟨Nat.le_of_ble_eq_true rfl, Nat.le_of_ble_eq_true rfl⟩) [7, 8, 9, 10] [0, 1, 2, 3, 4, 5, 6] [(a0, cF a1 a2 a3 a4 a5 a6 X.2.2.2.2.2.2), (a1, cS X.1), (a2, cS X.2.1), (a3, cB X.2.2.1), (a4, cB X.2.2.2.1), (a5, cB X.2.2.2.2.1), (a6, cB X.2.2.2.2.2.1)] rfl rfl rfl rfl (by decide) 7 4 rfl rfl rfl (Nat.le_of_ble_eq_true rfl) ⟨Nat.le_of_ble_eq_true rfl, Nat.le_of_ble_eq_true rfl⟩ rfl dX4_isSame_15 (fun r19 U20 h21 => ?_)
  obtain ⟨rfl, rfl⟩ := h21
  refine k_wsub (w' := [(a0, cF a1 a2 a3 a4 a5 a6 X.2.2.2.2.2.2), (a1, cS X.1), (a2, cS X.2.1), (a3, cB X.2.2.1), (a4, cB X.2.2.2.1), (a5, cB X.2.2.2.2.1), (a6, cB X.2.2.2.2.2.1), (z0, cZ .null z1 Z.2.2), (z1, cQ cJ z2 z3), (z2, cA4 cI Z.1), (z3, cA4 cI Z.2.1)]) [0, 1, 2, 3, 4, 5, 6, 7, 8, 9, 10] rfl rfl ?_
  refine k_icmp_eq C 23 (by decide) dX4_isSame_18 (fun _ => ?_) (fun h => absurd h18'''''' h)
  refine k_iinc C 7 [(2, .int 7), (0, .ref z0), (1, .ref a0)] 0 rfl (by decide) (by decide) rfl dX4_isSame_23 ?_
  refine k_goto C 2 (by decide) dX4_isSame_26 ?_
  refine k_iload_n C dX4_isSame_2 0 rfl ?_
  refine k_bipush C 9 (by decide) dX4_isSame_3 ?_
  refine k_icmp_ge C 29 (by decide) dX4_isSame_5 (fun h => absurd h (by decide)) (fun _ => ?_)
  refine k_aload_n C dX4_isSame_8 2 rfl ?_
  refine k_iload_n C dX4_isSame_9 0 rfl ?_
  refine k_callV_i C (mX2_count_7 l D cI cJ a0 a1 a2 a3 a4 a5 a6 X) (cwV 1 C.2.2.2.2.1 (kGV q470 q261 q262 q35 q263) rfl rfl rfl ⟨rfl, hdX2_count⟩ ⟨Nat.le_of_ble_eq_true rfl, Nat.le_of_ble_eq_true rfl⟩) [0, 1, 2, 3, 4, 5, 6] [7, 8, 9, 10] [4, 5, 6, 7, 8, 9, 10, 0, 1, 2, 3] [(z0, cZ .null z1 Z.2.2), (z1, cQ cJ z2 z3), (z2, cA4 cI Z.1), (z3, cA4 cI Z.2.1)] ([(a0, cF a1 a2 a3 a4 a5 a6 X.2.2.2.2.2.2), (a1, cS X.1), (a2, cS X.2.1), (a3, cB X.2.2.1), (a4, cB X.2.2.2.1), (a5, cB X.2.2.2.2.1), (a6, cB X.2.2.2.2.2.1), (z0, cZ .null z1 Z.2.2), (z1, cQ cJ z2 z3), (z2, cA4 cI Z.1), (z3, cA4 cI Z.2.1)]) rfl rfl rfl rfl (by decide) [a0, a1, a2, a3, a4, a5, a6] rfl rfl rfl rfl 0 2 rfl rfl rfl (Nat.le_of_ble_eq_true rfl) ⟨Nat.le_of_ble_eq_true rfl, Nat.le_of_ble_eq_true rfl⟩ rfl dX4_isSame_10 ?_
  refine k_aload_n C dX4_isSame_13 1 rfl ?_
  refine k_iload_n C dX4_isSame_14 0 rfl ?_
  refine k_callGV_i C (mX4_counted_n7 l D cI cJ z0 z1 z2 z3 Z) (cwV 1 C.2.2.2.2.1 (kGV q471 q472 q473 q38 q474) rfl rfl rfl ⟨rfl, hdX4_counted⟩ ⟨Nat.le_of_ble_eq_true rfl, Nat.le_of_ble_eq_true rfl⟩) [7, 8, 9, 10] [0, 1, 2, 3, 4, 5, 6] [(a0, cF a1 a2 a3 a4 a5 a6 X.2.2.2.2.2.2), (a1, cS X.1), (a2, cS X.2.1), (a3, cB X.2.2.1), (a4, cB X.2.2.2.1), (a5, cB X.2.2.2.2.1), (a6, cB X.2.2.2.2.2.1)] rfl rfl rfl rfl (by decide) 7 4 rfl rfl rfl (Nat.le_of_ble_eq_true rfl) ⟨Nat.le_of_ble_eq_true rfl, Nat.le_of_ble_eq_true rfl⟩ rfl dX4_isSame_15 (fun r22 U23 h24 => ?_)
  obtain ⟨rfl, rfl⟩ := h24
  refine k_wsub (w' := [(a0, cF a1 a2 a3 a4 a5 a6 X.2.2.2.2.2.2), (a1, cS X.1), (a2, cS X.2.1), (a3, cB X.2.2.1), (a4, cB X.2.2.2.1), (a5, cB X.2.2.2.2.1), (a6, cB X.2.2.2.2.2.1), (z0, cZ .null z1 Z.2.2), (z1, cQ cJ z2 z3), (z2, cA4 cI Z.1), (z3, cA4 cI Z.2.1)]) [0, 1, 2, 3, 4, 5, 6, 7, 8, 9, 10] rfl rfl ?_
  refine k_icmp_eq C 23 (by decide) dX4_isSame_18 (fun _ => ?_) (fun h => absurd h18''''''' h)
  refine k_iinc C 8 [(2, .int 8), (0, .ref z0), (1, .ref a0)] 0 rfl (by decide) (by decide) rfl dX4_isSame_23 ?_
  refine k_goto C 2 (by decide) dX4_isSame_26 ?_
  refine k_iload_n C dX4_isSame_2 0 rfl ?_
  refine k_bipush C 9 (by decide) dX4_isSame_3 ?_
  refine k_icmp_ge C 29 (by decide) dX4_isSame_5 (fun h => absurd h (by decide)) (fun _ => ?_)
  refine k_aload_n C dX4_isSame_8 2 rfl ?_
  refine k_iload_n C dX4_isSame_9 0 rfl ?_
  refine k_callV_i C (mX2_count_8 l D cI cJ a0 a1 a2 a3 a4 a5 a6 X) (cwV 1 C.2.2.2.2.1 (kGV q470 q261 q262 q35 q263) rfl rfl rfl ⟨rfl, hdX2_count⟩ ⟨Nat.le_of_ble_eq_true rfl, Nat.le_of_ble_eq_true rfl⟩) [0, 1, 2, 3, 4, 5, 6] [7, 8, 9, 10] [4, 5, 6, 7, 8, 9, 10, 0, 1, 2, 3] [(z0, cZ .null z1 Z.2.2), (z1, cQ cJ z2 z3), (z2, cA4 cI Z.1), (z3, cA4 cI Z.2.1)] ([(a0, cF a1 a2 a3 a4 a5 a6 X.2.2.2.2.2.2), (a1, cS X.1), (a2, cS X.2.1), (a3, cB X.2.2.1), (a4, cB X.2.2.2.1), (a5, cB X.2.2.2.2.1), (a6, cB X.2.2.2.2.2.1), (z0, cZ .null z1 Z.2.2), (z1, cQ cJ z2 z3), (z2, cA4 cI Z.1), (z3, cA4 cI Z.2.1)]) rfl rfl rfl rfl (by decide) [a0, a1, a2, a3, a4, a5, a6] rfl rfl rfl rfl 0 2 rfl rfl rfl (Nat.le_of_ble_eq_true rfl) ⟨Nat.le_of_ble_eq_true rfl, Nat.le_of_ble_eq_true rfl⟩ rfl dX4_isSame_10 ?_
  refine k_aload_n C dX4_isSame_13 1 rfl ?_
  refine k_iload_n C dX4_isSame_14 0 rfl ?_
  refine k_callGV_i C (mX4_counted_n8 l D cI cJ z0 z1 z2 z3 Z) (cwV 1 C.2.2.2.2.1 (kGV q471 q472 q473 q38 q474) rfl rfl rfl ⟨rfl, hdX4_counted⟩ ⟨Nat.le_of_ble_eq_true rfl, Nat.le_of_ble_eq_true rfl⟩) [7, 8, 9, 10] [0, 1, 2, 3, 4, 5, 6] [(a0, cF a1 a2 a3 a4 a5 a6 X.2.2.2.2.2.2), (a1, cS X.1), (a2, cS X.2.1), (a3, cB X.2.2.1), (a4, cB X.2.2.2.1), (a5, cB X.2.2.2.2.1), (a6, cB X.2.2.2.2.2.1)] rfl rfl rfl rfl (by decide) 7 4 rfl rfl rfl (Nat.le_of_ble_eq_true rfl) ⟨Nat.le_of_ble_eq_true rfl, Nat.le_of_ble_eq_true rfl⟩ rfl dX4_isSame_15 (fun r25 U26 h27 => ?_)
  obtain ⟨rfl, rfl⟩ := h27
  refine k_wsub (w' := [(a0, cF a1 a2 a3 a4 a5 a6 X.2.2.2.2.2.2), (a1, cS X.1), (a2, cS X.2.1), (a3, cB X.2.2.1), (a4, cB X.2.2.2.1), (a5, cB X.2.2.2.2.1), (a6, cB X.2.2.2.2.2.1), (z0, cZ .null z1 Z.2.2), (z1, cQ cJ z2 z3), (z2, cA4 cI Z.1), (z3, cA4 cI Z.2.1)]) [0, 1, 2, 3, 4, 5, 6, 7, 8, 9, 10] rfl rfl ?_
  refine k_icmp_eq C 23 (by decide) dX4_isSame_18 (fun _ => ?_) (fun h => absurd h18'''''''' h)
  refine k_iinc C 9 [(2, .int 9), (0, .ref z0), (1, .ref a0)] 0 rfl (by decide) (by decide) rfl dX4_isSame_23 ?_
  refine k_goto C 2 (by decide) dX4_isSame_26 ?_
  refine k_iload_n C dX4_isSame_2 0 rfl ?_
  refine k_bipush C 9 (by decide) dX4_isSame_3 ?_
  refine k_icmp_ge C 29 (by decide) dX4_isSame_5 (fun _ => ?_) (fun h => absurd (by decide) h)
  refine k_iconst C 0 (by decide) dX4_isSame_29 ?_
  refine k_istore_n C [(2, .int 0), (0, .ref z0), (1, .ref a0)] (by decide) rfl dX4_isSame_30 ?_
  refine k_iload_n C dX4_isSame_31 0 rfl ?_
  refine k_iconst C 2 (by decide) dX4_isSame_32 ?_
  refine k_icmp_ge C 74 (by decide) dX4_isSame_33 (fun h => absurd h (by decide)) (fun _ => ?_)
  refine k_iconst C 0 (by decide) dX4_isSame_36 ?_
  refine k_istore_n C [(3, .int 0), (2, .int 0), (0, .ref z0), (1, .ref a0)] (by decide) rfl dX4_isSame_37 ?_
  refine k_iload_n C dX4_isSame_38 0 rfl ?_
  refine k_iconst C 4 (by decide) dX4_isSame_39 ?_
  refine k_icmp_ge C 68 (by decide) dX4_isSame_40 (fun h => absurd h (by decide)) (fun _ => ?_)
  refine k_aload_n C dX4_isSame_43 3 rfl ?_
  refine k_iload_n C dX4_isSame_44 1 rfl ?_
  refine k_iload_n C dX4_isSame_45 0 rfl ?_
  refine k_callV_i C (mX2_told_00 l D cI cJ a0 a1 a2 a3 a4 a5 a6 X) (cwV 2 C.2.2.2.2.1 (kGV q480 q245 q246 q35 q247) rfl rfl rfl ⟨rfl, hdX2_told⟩ ⟨Nat.le_of_ble_eq_true rfl, Nat.le_of_ble_eq_true rfl⟩) [0, 1, 2, 3, 4, 5, 6] [7, 8, 9, 10] [4, 5, 6, 7, 8, 9, 10, 0, 1, 2, 3] [(z0, cZ .null z1 Z.2.2), (z1, cQ cJ z2 z3), (z2, cA4 cI Z.1), (z3, cA4 cI Z.2.1)] ([(a0, cF a1 a2 a3 a4 a5 a6 X.2.2.2.2.2.2), (a1, cS X.1), (a2, cS X.2.1), (a3, cB X.2.2.1), (a4, cB X.2.2.2.1), (a5, cB X.2.2.2.2.1), (a6, cB X.2.2.2.2.2.1), (z0, cZ .null z1 Z.2.2), (z1, cQ cJ z2 z3), (z2, cA4 cI Z.1), (z3, cA4 cI Z.2.1)]) rfl rfl rfl rfl (by decide) [a0, a1, a2, a3, a4, a5, a6] rfl rfl rfl rfl 0 2 rfl rfl rfl (Nat.le_of_ble_eq_true rfl) ⟨Nat.le_of_ble_eq_true rfl, Nat.le_of_ble_eq_true rfl⟩ rfl dX4_isSame_46 ?_
  refine k_aload_n C dX4_isSame_49 2 rfl ?_
  refine k_getX4 C 7 4 rfl (by decide) rfl q428 rfl dX4_isSame_50 ?_
  refine k_iload_n C dX4_isSame_53 1 rfl ?_
  refine k_aald C 8 rfl vi2_0 (fq_l0 _ _) dX4_isSame_54 ?_
  refine k_iload_n C dX4_isSame_55 0 rfl ?_
  refine k_iald C 9 rfl vi4_0 (ar4_l0 _) dX4_isSame_56 ?_
  refine k_icmp_eq C 62 (by decide) dX4_isSame_57 (fun _ => ?_) (fun h => absurd h57 h)
  refine k_iinc C 1 [(3, .int 1), (2, .int 0), (0, .ref z0), (1, .ref a0)] 0 rfl (by decide) (by decide) rfl dX4_isSame_62 ?_
  refine k_goto C 38 (by decide) dX4_isSame_65 ?_
  refine k_iload_n C dX4_isSame_38 0 rfl ?_
  refine k_iconst C 4 (by decide) dX4_isSame_39 ?_
  refine k_icmp_ge C 68 (by decide) dX4_isSame_40 (fun h => absurd h (by decide)) (fun _ => ?_)
  refine k_aload_n C dX4_isSame_43 3 rfl ?_
  refine k_iload_n C dX4_isSame_44 1 rfl ?_
  refine k_iload_n C dX4_isSame_45 0 rfl ?_
  refine k_callV_i C (mX2_told_01 l D cI cJ a0 a1 a2 a3 a4 a5 a6 X) (cwV 2 C.2.2.2.2.1 (kGV q480 q245 q246 q35 q247) rfl rfl rfl ⟨rfl, hdX2_told⟩ ⟨Nat.le_of_ble_eq_true rfl, Nat.le_of_ble_eq_true rfl⟩) [0, 1, 2, 3, 4, 5, 6] [7, 8, 9, 10] [4, 5, 6, 7, 8, 9, 10, 0, 1, 2, 3] [(z0, cZ .null z1 Z.2.2), (z1, cQ cJ z2 z3), (z2, cA4 cI Z.1), (z3, cA4 cI Z.2.1)] ([(a0, cF a1 a2 a3 a4 a5 a6 X.2.2.2.2.2.2), (a1, cS X.1), (a2, cS X.2.1), (a3, cB X.2.2.1), (a4, cB X.2.2.2.1), (a5, cB X.2.2.2.2.1), (a6, cB X.2.2.2.2.2.1), (z0, cZ .null z1 Z.2.2), (z1, cQ cJ z2 z3), (z2, cA4 cI Z.1), (z3, cA4 cI Z.2.1)]) rfl rfl rfl rfl (by decide) [a0, a1, a2, a3, a4, a5, a6] rfl rfl rfl rfl 0 2 rfl rfl rfl (Nat.le_of_ble_eq_true rfl) ⟨Nat.le_of_ble_eq_true rfl, Nat.le_of_ble_eq_true rfl⟩ rfl dX4_isSame_46 ?_
  refine k_aload_n C dX4_isSame_49 2 rfl ?_
  refine k_getX4 C 7 4 rfl (by decide) rfl q428 rfl dX4_isSame_50 ?_
  refine k_iload_n C dX4_isSame_53 1 rfl ?_
  refine k_aald C 8 rfl vi2_0 (fq_l0 _ _) dX4_isSame_54 ?_
  refine k_iload_n C dX4_isSame_55 0 rfl ?_
  refine k_iald C 9 rfl vi4_1 (ar4_l1 _) dX4_isSame_56 ?_
  refine k_icmp_eq C 62 (by decide) dX4_isSame_57 (fun _ => ?_) (fun h => absurd h57' h)
  refine k_iinc C 2 [(3, .int 2), (2, .int 0), (0, .ref z0), (1, .ref a0)] 0 rfl (by decide) (by decide) rfl dX4_isSame_62 ?_
  refine k_goto C 38 (by decide) dX4_isSame_65 ?_
  refine k_iload_n C dX4_isSame_38 0 rfl ?_
  refine k_iconst C 4 (by decide) dX4_isSame_39 ?_
  refine k_icmp_ge C 68 (by decide) dX4_isSame_40 (fun h => absurd h (by decide)) (fun _ => ?_)
  refine k_aload_n C dX4_isSame_43 3 rfl ?_
  refine k_iload_n C dX4_isSame_44 1 rfl ?_
  refine k_iload_n C dX4_isSame_45 0 rfl ?_
  refine k_callV_i C (mX2_told_02 l D cI cJ a0 a1 a2 a3 a4 a5 a6 X) (cwV 2 C.2.2.2.2.1 (kGV q480 q245 q246 q35 q247) rfl rfl rfl ⟨rfl, hdX2_told⟩ ⟨Nat.le_of_ble_eq_true rfl, Nat.le_of_ble_eq_true rfl⟩) [0, 1, 2, 3, 4, 5, 6] [7, 8, 9, 10] [4, 5, 6, 7, 8, 9, 10, 0, 1, 2, 3] [(z0, cZ .null z1 Z.2.2), (z1, cQ cJ z2 z3), (z2, cA4 cI Z.1), (z3, cA4 cI Z.2.1)] ([(a0, cF a1 a2 a3 a4 a5 a6 X.2.2.2.2.2.2), (a1, cS X.1), (a2, cS X.2.1), (a3, cB X.2.2.1), (a4, cB X.2.2.2.1), (a5, cB X.2.2.2.2.1), (a6, cB X.2.2.2.2.2.1), (z0, cZ .null z1 Z.2.2), (z1, cQ cJ z2 z3), (z2, cA4 cI Z.1), (z3, cA4 cI Z.2.1)]) rfl rfl rfl rfl (by decide) [a0, a1, a2, a3, a4, a5, a6] rfl rfl rfl rfl 0 2 rfl rfl rfl (Nat.le_of_ble_eq_true rfl) ⟨Nat.le_of_ble_eq_true rfl, Nat.le_of_ble_eq_true rfl⟩ rfl dX4_isSame_46 ?_
  refine k_aload_n C dX4_isSame_49 2 rfl ?_
  refine k_getX4 C 7 4 rfl (by decide) rfl q428 rfl dX4_isSame_50 ?_
  refine k_iload_n C dX4_isSame_53 1 rfl ?_
  refine k_aald C 8 rfl vi2_0 (fq_l0 _ _) dX4_isSame_54 ?_
  refine k_iload_n C dX4_isSame_55 0 rfl ?_
  refine k_iald C 9 rfl vi4_2 (ar4_l2 _) dX4_isSame_56 ?_
  refine k_icmp_eq C 62 (by decide) dX4_isSame_57 (fun _ => ?_) (fun h => absurd h57'' h)
  refine k_iinc C 3 [(3, .int 3), (2, .int 0), (0, .ref z0), (1, .ref a0)] 0 rfl (by decide) (by decide) rfl dX4_isSame_62 ?_
  refine k_goto C 38 (by decide) dX4_isSame_65 ?_
  refine k_iload_n C dX4_isSame_38 0 rfl ?_
  refine k_iconst C 4 (by decide) dX4_isSame_39 ?_
  refine k_icmp_ge C 68 (by decide) dX4_isSame_40 (fun h => absurd h (by decide)) (fun _ => ?_)
  refine k_aload_n C dX4_isSame_43 3 rfl ?_
  refine k_iload_n C dX4_isSame_44 1 rfl ?_
  refine k_iload_n C dX4_isSame_45 0 rfl ?_
  refine k_callV_i C (mX2_told_03 l D cI cJ a0 a1 a2 a3 a4 a5 a6 X) (cwV 2 C.2.2.2.2.1 (kGV q480 q245 q246 q35 q247) rfl rfl rfl ⟨rfl, hdX2_told⟩ ⟨Nat.le_of_ble_eq_true rfl, Nat.le_of_ble_eq_true rfl⟩) [0, 1, 2, 3, 4, 5, 6] [7, 8, 9, 10] [4, 5, 6, 7, 8, 9, 10, 0, 1, 2, 3] [(z0, cZ .null z1 Z.2.2), (z1, cQ cJ z2 z3), (z2, cA4 cI Z.1), (z3, cA4 cI Z.2.1)] ([(a0, cF a1 a2 a3 a4 a5 a6 X.2.2.2.2.2.2), (a1, cS X.1), (a2, cS X.2.1), (a3, cB X.2.2.1), (a4, cB X.2.2.2.1), (a5, cB X.2.2.2.2.1), (a6, cB X.2.2.2.2.2.1), (z0, cZ .null z1 Z.2.2), (z1, cQ cJ z2 z3), (z2, cA4 cI Z.1), (z3, cA4 cI Z.2.1)]) rfl rfl rfl rfl (by decide) [a0, a1, a2, a3, a4, a5, a6] rfl rfl rfl rfl 0 2 rfl rfl rfl (Nat.le_of_ble_eq_true rfl) ⟨Nat.le_of_ble_eq_true rfl, Nat.le_of_ble_eq_true rfl⟩ rfl dX4_isSame_46 ?_
  refine k_aload_n C dX4_isSame_49 2 rfl ?_
  refine k_getX4 C 7 4 rfl (by decide) rfl q428 rfl dX4_isSame_50 ?_
  refine k_iload_n C dX4_isSame_53 1 rfl ?_
  refine k_aald C 8 rfl vi2_0 (fq_l0 _ _) dX4_isSame_54 ?_
  refine k_iload_n C dX4_isSame_55 0 rfl ?_
  refine k_iald C 9 rfl vi4_3 (ar4_l3 _) dX4_isSame_56 ?_
  refine k_icmp_eq C 62 (by decide) dX4_isSame_57 (fun _ => ?_) (fun h => absurd h57''' h)
  refine k_iinc C 4 [(3, .int 4), (2, .int 0), (0, .ref z0), (1, .ref a0)] 0 rfl (by decide) (by decide) rfl dX4_isSame_62 ?_
  refine k_goto C 38 (by decide) dX4_isSame_65 ?_
  refine k_iload_n C dX4_isSame_38 0 rfl ?_
  refine k_iconst C 4 (by decide) dX4_isSame_39 ?_
  refine k_icmp_ge C 68 (by decide) dX4_isSame_40 (fun _ => ?_) (fun h => absurd (by decide) h)
  refine k_iinc C 1 [(2, .int 1), (3, .int 4), (0, .ref z0), (1, .ref a0)] 1 rfl (by decide) (by decide) rfl dX4_isSame_68 ?_
  refine k_goto C 31 (by decide) dX4_isSame_71 ?_
  refine k_iload_n C dX4_isSame_31 0 rfl ?_
  refine k_iconst C 2 (by decide) dX4_isSame_32 ?_
  refine k_icmp_ge C 74 (by decide) dX4_isSame_33 (fun h => absurd h (by decide)) (fun _ => ?_)
  refine k_iconst C 0 (by decide) dX4_isSame_36 ?_
  refine k_istore_n C [(3, .int 0), (2, .int 1), (0, .ref z0), (1, .ref a0)] (by decide) rfl dX4_isSame_37 ?_
  refine k_iload_n C dX4_isSame_38 0 rfl ?_
  refine k_iconst C 4 (by decide) dX4_isSame_39 ?_
  refine k_icmp_ge C 68 (by decide) dX4_isSame_40 (fun h => absurd h (by decide)) (fun _ => ?_)
  refine k_aload_n C dX4_isSame_43 3 rfl ?_
  refine k_iload_n C dX4_isSame_44 1 rfl ?_
  refine k_iload_n C dX4_isSame_45 0 rfl ?_
  refine k_callV_i C (mX2_told_10 l D cI cJ a0 a1 a2 a3 a4 a5 a6 X) (cwV 2 C.2.2.2.2.1 (kGV q480 q245 q246 q35 q247) rfl rfl rfl ⟨rfl, hdX2_told⟩ ⟨Nat.le_of_ble_eq_true rfl, Nat.le_of_ble_eq_true rfl⟩) [0, 1, 2, 3, 4, 5, 6] [7, 8, 9, 10] [4, 5, 6, 7, 8, 9, 10, 0, 1, 2, 3] [(z0, cZ .null z1 Z.2.2), (z1, cQ cJ z2 z3), (z2, cA4 cI Z.1), (z3, cA4 cI Z.2.1)] ([(a0, cF a1 a2 a3 a4 a5 a6 X.2.2.2.2.2.2), (a1, cS X.1), (a2, cS X.2.1), (a3, cB X.2.2.1), (a4, cB X.2.2.2.1), (a5, cB X.2.2.2.2.1), (a6, cB X.2.2.2.2.2.1), (z0, cZ .null z1 Z.2.2), (z1, cQ cJ z2 z3), (z2, cA4 cI Z.1), (z3, cA4 cI Z.2.1)]) rfl rfl rfl rfl (by decide) [a0, a1, a2, a3, a4, a5, a6] rfl rfl rfl rfl 0 2 rfl rfl rfl (Nat.le_of_ble_eq_true rfl) ⟨Nat.le_of_ble_eq_true rfl, Nat.le_of_ble_eq_true rfl⟩ rfl dX4_isSame_46 ?_
  refine k_aload_n C dX4_isSame_49 2 rfl ?_
  refine k_getX4 C 7 4 rfl (by decide) rfl q428 rfl dX4_isSame_50 ?_
  refine k_iload_n C dX4_isSame_53 1 rfl ?_
  refine k_aald C 8 rfl vi2_1 (fq_l1 _ _) dX4_isSame_54 ?_
  refine k_iload_n C dX4_isSame_55 0 rfl ?_
  refine k_iald C 10 rfl vi4_0 (ar4_l0 _) dX4_isSame_56 ?_
  refine k_icmp_eq C 62 (by decide) dX4_isSame_57 (fun _ => ?_) (fun h => absurd h57'''' h)
  refine k_iinc C 1 [(3, .int 1), (2, .int 1), (0, .ref z0), (1, .ref a0)] 0 rfl (by decide) (by decide) rfl dX4_isSame_62 ?_
  refine k_goto C 38 (by decide) dX4_isSame_65 ?_
  refine k_iload_n C dX4_isSame_38 0 rfl ?_
  refine k_iconst C 4 (by decide) dX4_isSame_39 ?_
  refine k_icmp_ge C 68 (by decide) dX4_isSame_40 (fun h => absurd h (by decide)) (fun _ => ?_)
  refine k_aload_n C dX4_isSame_43 3 rfl ?_
  refine k_iload_n C dX4_isSame_44 1 rfl ?_
  refine k_iload_n C dX4_isSame_45 0 rfl ?_
  refine k_callV_i C (mX2_told_11 l D cI cJ a0 a1 a2 a3 a4 a5 a6 X) (cwV 2 C.2.2.2.2.1 (kGV q480 q245 q246 q35 q247) rfl rfl rfl ⟨rfl, hdX2_told⟩ ⟨Nat.le_of_ble_eq_true rfl, Nat.le_of_ble_eq_true rfl⟩) [0, 1, 2, 3, 4, 5, 6] [7, 8, 9, 10] [4, 5, 6, 7, 8, 9, 10, 0, 1, 2, 3] [(z0, cZ .null z1 Z.2.2), (z1, cQ cJ z2 z3), (z2, cA4 cI Z.1), (z3, cA4 cI Z.2.1)] ([(a0, cF a1 a2 a3 a4 a5 a6 X.2.2.2.2.2.2), (a1, cS X.1), (a2, cS X.2.1), (a3, cB X.2.2.1), (a4, cB X.2.2.2.1), (a5, cB X.2.2.2.2.1), (a6, cB X.2.2.2.2.2.1), (z0, cZ .null z1 Z.2.2), (z1, cQ cJ z2 z3), (z2, cA4 cI Z.1), (z3, cA4 cI Z.2.1)]) rfl rfl rfl rfl (by decide) [a0, a1, a2, a3, a4, a5, a6] rfl rfl rfl rfl 0 2 rfl rfl rfl (Nat.le_of_ble_eq_true rfl) ⟨Nat.le_of_ble_eq_true rfl, Nat.le_of_ble_eq_true rfl⟩ rfl dX4_isSame_46 ?_
  refine k_aload_n C dX4_isSame_49 2 rfl ?_
  refine k_getX4 C 7 4 rfl (by decide) rfl q428 rfl dX4_isSame_50 ?_
  refine k_iload_n C dX4_isSame_53 1 rfl ?_
  refine k_aald C 8 rfl vi2_1 (fq_l1 _ _) dX4_isSame_54 ?_
  refine k_iload_n C dX4_isSame_55 0 rfl ?_
  refine k_iald C 10 rfl vi4_1 (ar4_l1 _) dX4_isSame_56 ?_
  refine k_icmp_eq C 62 (by decide) dX4_isSame_57 (fun _ => ?_) (fun h => absurd h57''''' h)
  refine k_iinc C 2 [(3, .int 2), (2, .int 1), (0, .ref z0), (1, .ref a0)] 0 rfl (by decide) (by decide) rfl dX4_isSame_62 ?_
  refine k_goto C 38 (by decide) dX4_isSame_65 ?_
  refine k_iload_n C dX4_isSame_38 0 rfl ?_
  refine k_iconst C 4 (by decide) dX4_isSame_39 ?_
  refine k_icmp_ge C 68 (by decide) dX4_isSame_40 (fun h => absurd h (by decide)) (fun _ => ?_)
  refine k_aload_n C dX4_isSame_43 3 rfl ?_
  refine k_iload_n C dX4_isSame_44 1 rfl ?_
  refine k_iload_n C dX4_isSame_45 0 rfl ?_
  refine k_callV_i C (mX2_told_12 l D cI cJ a0 a1 a2 a3 a4 a5 a6 X) (cwV 2 C.2.2.2.2.1 (kGV q480 q245 q246 q35 q247) rfl rfl rfl ⟨rfl, hdX2_told⟩ ⟨Nat.le_of_ble_eq_true rfl, Nat.le_of_ble_eq_true rfl⟩) [0, 1, 2, 3, 4, 5, 6] [7, 8, 9, 10] [4, 5, 6, 7, 8, 9, 10, 0, 1, 2, 3] [(z0, cZ .null z1 Z.2.2), (z1, cQ cJ z2 z3), (z2, cA4 cI Z.1), (z3, cA4 cI Z.2.1)] ([(a0, cF a1 a2 a3 a4 a5 a6 X.2.2.2.2.2.2), (a1, cS X.1), (a2, cS X.2.1), (a3, cB X.2.2.1), (a4, cB X.2.2.2.1), (a5, cB X.2.2.2.2.1), (a6, cB X.2.2.2.2.2.1), (z0, cZ .null z1 Z.2.2), (z1, cQ cJ z2 z3), (z2, cA4 cI Z.1), (z3, cA4 cI Z.2.1)]) rfl rfl rfl rfl (by decide) [a0, a1, a2, a3, a4, a5, a6] rfl rfl rfl rfl 0 2 rfl rfl rfl (Nat.le_of_ble_eq_true rfl) ⟨Nat.le_of_ble_eq_true rfl, Nat.le_of_ble_eq_true rfl⟩ rfl dX4_isSame_46 ?_
  refine k_aload_n C dX4_isSame_49 2 rfl ?_
  refine k_getX4 C 7 4 rfl (by decide) rfl q428 rfl dX4_isSame_50 ?_
  refine k_iload_n C dX4_isSame_53 1 rfl ?_
  refine k_aald C 8 rfl vi2_1 (fq_l1 _ _) dX4_isSame_54 ?_
  refine k_iload_n C dX4_isSame_55 0 rfl ?_
  refine k_iald C 10 rfl vi4_2 (ar4_l2 _) dX4_isSame_56 ?_
  refine k_icmp_eq C 62 (by decide) dX4_isSame_57 (fun _ => ?_) (fun h => absurd h57'''''' h)
  refine k_iinc C 3 [(3, .int 3), (2, .int 1), (0, .ref z0), (1, .ref a0)] 0 rfl (by decide) (by decide) rfl dX4_isSame_62 ?_
  refine k_goto C 38 (by decide) dX4_isSame_65 ?_
  refine k_iload_n C dX4_isSame_38 0 rfl ?_
  refine k_iconst C 4 (by decide) dX4_isSame_39 ?_
  refine k_icmp_ge C 68 (by decide) dX4_isSame_40 (fun h => absurd h (by decide)) (fun _ => ?_)
  refine k_aload_n C dX4_isSame_43 3 rfl ?_
  refine k_iload_n C dX4_isSame_44 1 rfl ?_
  refine k_iload_n C dX4_isSame_45 0 rfl ?_
  refine k_callV_i C (mX2_told_13 l D cI cJ a0 a1 a2 a3 a4 a5 a6 X) (cwV 2 C.2.2.2.2.1 (kGV q480 q245 q246 q35 q247) rfl rfl rfl ⟨rfl, hdX2_told⟩ ⟨Nat.le_of_ble_eq_true rfl, Nat.le_of_ble_eq_true rfl⟩) [0, 1, 2, 3, 4, 5, 6] [7, 8, 9, 10] [4, 5, 6, 7, 8, 9, 10, 0, 1, 2, 3] [(z0, cZ .null z1 Z.2.2), (z1, cQ cJ z2 z3), (z2, cA4 cI Z.1), (z3, cA4 cI Z.2.1)] ([(a0, cF a1 a2 a3 a4 a5 a6 X.2.2.2.2.2.2), (a1, cS X.1), (a2, cS X.2.1), (a3, cB X.2.2.1), (a4, cB X.2.2.2.1), (a5, cB X.2.2.2.2.1), (a6, cB X.2.2.2.2.2.1), (z0, cZ .null z1 Z.2.2), (z1, cQ cJ z2 z3), (z2, cA4 cI Z.1), (z3, cA4 cI Z.2.1)]) rfl rfl rfl rfl (by decide) [a0, a1, a2, a3, a4, a5, a6] rfl rfl rfl rfl 0 2 rfl rfl rfl (Nat.le_of_ble_eq_true rfl) ⟨Nat.le_of_ble_eq_true rfl, Nat.le_of_ble_eq_true rfl⟩ rfl dX4_isSame_46 ?_
  refine k_aload_n C dX4_isSame_49 2 rfl ?_
  refine k_getX4 C 7 4 rfl (by decide) rfl q428 rfl dX4_isSame_50 ?_
  refine k_iload_n C dX4_isSame_53 1 rfl ?_
  refine k_aald C 8 rfl vi2_1 (fq_l1 _ _) dX4_isSame_54 ?_
  refine k_iload_n C dX4_isSame_55 0 rfl ?_
  refine k_iald C 10 rfl vi4_3 (ar4_l3 _) dX4_isSame_56 ?_
  refine k_icmp_eq C 62 (by decide) dX4_isSame_57 (fun _ => ?_) (fun h => absurd h57''''''' h)
  refine k_iinc C 4 [(3, .int 4), (2, .int 1), (0, .ref z0), (1, .ref a0)] 0 rfl (by decide) (by decide) rfl dX4_isSame_62 ?_
  refine k_goto C 38 (by decide) dX4_isSame_65 ?_
  refine k_iload_n C dX4_isSame_38 0 rfl ?_
  refine k_iconst C 4 (by decide) dX4_isSame_39 ?_
  refine k_icmp_ge C 68 (by decide) dX4_isSame_40 (fun _ => ?_) (fun h => absurd (by decide) h)
  refine k_iinc C 2 [(2, .int 2), (3, .int 4), (0, .ref z0), (1, .ref a0)] 1 rfl (by decide) (by decide) rfl dX4_isSame_68 ?_
  refine k_goto C 31 (by decide) dX4_isSame_71 ?_
  refine k_iload_n C dX4_isSame_31 0 rfl ?_
  refine k_iconst C 2 (by decide) dX4_isSame_32 ?_
  refine k_icmp_ge C 74 (by decide) dX4_isSame_33 (fun _ => ?_) (fun h => absurd (by decide) h)
  refine k_iconst C 0 (by decide) dX4_isSame_74 ?_
  refine k_istore_n C [(2, .int 0), (3, .int 4), (0, .ref z0), (1, .ref a0)] (by decide) rfl dX4_isSame_75 ?_
  refine k_iload_n C dX4_isSame_76 0 rfl ?_
  refine k_bipush C 6 (by decide) dX4_isSame_77 ?_
  refine k_icmp_ge C 117 (by decide) dX4_isSame_79 (fun h => absurd h (by decide)) (fun _ => ?_)
  refine k_aload_n C dX4_isSame_82 3 rfl ?_
  refine k_iload_n C dX4_isSame_83 0 rfl ?_
  refine k_callV_i C (mX2_ball_0 l D cI cJ a0 a1 a2 a3 a4 a5 a6 X) (cwV 1 C.2.2.2.2.1 (kGV q481 q169 q170 q35 q171) rfl rfl rfl ⟨rfl, hdX2_ball⟩ ⟨Nat.le_of_ble_eq_true rfl, Nat.le_of_ble_eq_true rfl⟩) [0, 1, 2, 3, 4, 5, 6] [7, 8, 9, 10] [4, 5, 6, 7, 8, 9, 10, 0, 1, 2, 3] [(z0, cZ .null z1 Z.2.2), (z1, cQ cJ z2 z3), (z2, cA4 cI Z.1), (z3, cA4 cI Z.2.1)] ([(a0, cF a1 a2 a3 a4 a5 a6 X.2.2.2.2.2.2), (a1, cS X.1), (a2, cS X.2.1), (a3, cB X.2.2.1), (a4, cB X.2.2.2.1), (a5, cB X.2.2.2.2.1), (a6, cB X.2.2.2.2.2.1), (z0, cZ .null z1 Z.2.2), (z1, cQ cJ z2 z3), (z2, cA4 cI Z.1), (z3, cA4 cI Z.2.1)]) rfl rfl rfl rfl (by decide) [a0, a1, a2, a3, a4, a5, a6] rfl rfl rfl rfl 0 2 rfl rfl rfl (Nat.le_of_ble_eq_true rfl) ⟨Nat.le_of_ble_eq_true rfl, Nat.le_of_ble_eq_true rfl⟩ rfl dX4_isSame_84 ?_
  refine k_aload_n C dX4_isSame_87 2 rfl ?_
  refine k_getX4 C 7 3 rfl (by decide) rfl q426 rfl dX4_isSame_88 ?_
  refine k_ifnonnullN C dX4_isSame_91 ?_
  refine k_iconst C 0 (by decide) dX4_isSame_94 ?_
  refine k_goto C 106 (by decide) dX4_isSame_95 ?_
  refine k_icmp_eq C 111 (by decide) dX4_isSame_106 (fun _ => ?_) (fun h => absurd h106 h)
  refine k_iinc C 1 [(2, .int 1), (3, .int 4), (0, .ref z0), (1, .ref a0)] 0 rfl (by decide) (by decide) rfl dX4_isSame_111 ?_
  refine k_goto C 76 (by decide) dX4_isSame_114 ?_
  refine k_iload_n C dX4_isSame_76 0 rfl ?_
  refine k_bipush C 6 (by decide) dX4_isSame_77 ?_
  refine k_icmp_ge C 117 (by decide) dX4_isSame_79 (fun h => absurd h (by decide)) (fun _ => ?_)
  refine k_aload_n C dX4_isSame_82 3 rfl ?_
  refine k_iload_n C dX4_isSame_83 0 rfl ?_
  refine k_callV_i C (mX2_ball_1 l D cI cJ a0 a1 a2 a3 a4 a5 a6 X) (cwV 1 C.2.2.2.2.1 (kGV q481 q169 q170 q35 q171) rfl rfl rfl ⟨rfl, hdX2_ball⟩ ⟨Nat.le_of_ble_eq_true rfl, Nat.le_of_ble_eq_true rfl⟩) [0, 1, 2, 3, 4, 5, 6] [7, 8, 9, 10] [4, 5, 6, 7, 8, 9, 10, 0, 1, 2, 3] [(z0, cZ .null z1 Z.2.2), (z1, cQ cJ z2 z3), (z2, cA4 cI Z.1), (z3, cA4 cI Z.2.1)] ([(a0, cF a1 a2 a3 a4 a5 a6 X.2.2.2.2.2.2), (a1, cS X.1), (a2, cS X.2.1), (a3, cB X.2.2.1), (a4, cB X.2.2.2.1), (a5, cB X.2.2.2.2.1), (a6, cB X.2.2.2.2.2.1), (z0, cZ .null z1 Z.2.2), (z1, cQ cJ z2 z3), (z2, cA4 cI Z.1), (z3, cA4 cI Z.2.1)]) rfl rfl rfl rfl (by decide) [a0, a1, a2, a3, a4, a5, a6] rfl rfl rfl rfl 0 2 rfl rfl rfl (Nat.le_of_ble_eq_true rfl) ⟨Nat.le_of_ble_eq_true rfl, Nat.le_of_ble_eq_true rfl⟩ rfl dX4_isSame_84 ?_
  refine k_aload_n C dX4_isSame_87 2 rfl ?_
  refine k_getX4 C 7 3 rfl (by decide) rfl q426 rfl dX4_isSame_88 ?_
  refine k_ifnonnullN C dX4_isSame_91 ?_
  refine k_iconst C 0 (by decide) dX4_isSame_94 ?_
  refine k_goto C 106 (by decide) dX4_isSame_95 ?_
  refine k_icmp_eq C 111 (by decide) dX4_isSame_106 (fun _ => ?_) (fun h => absurd h106' h)
  refine k_iinc C 2 [(2, .int 2), (3, .int 4), (0, .ref z0), (1, .ref a0)] 0 rfl (by decide) (by decide) rfl dX4_isSame_111 ?_
  refine k_goto C 76 (by decide) dX4_isSame_114 ?_
  refine k_iload_n C dX4_isSame_76 0 rfl ?_
  refine k_bipush C 6 (by decide) dX4_isSame_77 ?_
  refine k_icmp_ge C 117 (by decide) dX4_isSame_79 (fun h => absurd h (by decide)) (fun _ => ?_)
  refine k_aload_n C dX4_isSame_82 3 rfl ?_
  refine k_iload_n C dX4_isSame_83 0 rfl ?_
  refine k_callV_i C (mX2_ball_2 l D cI cJ a0 a1 a2 a3 a4 a5 a6 X) (cwV 1 C.2.2.2.2.1 (kGV q481 q169 q170 q35 q171) rfl rfl rfl ⟨rfl, hdX2_ball⟩ ⟨Nat.le_of_ble_eq_true rfl, Nat.le_of_ble_eq_true rfl⟩) [0, 1, 2, 3, 4, 5, 6] [7, 8, 9, 10] [4, 5, 6, 7, 8, 9, 10, 0, 1, 2, 3] [(z0, cZ .null z1 Z.2.2), (z1, cQ cJ z2 z3), (z2, cA4 cI Z.1), (z3, cA4 cI Z.2.1)] ([(a0, cF a1 a2 a3 a4 a5 a6 X.2.2.2.2.2.2), (a1, cS X.1), (a2, cS X.2.1), (a3, cB X.2.2.1), (a4, cB X.2.2.2.1), (a5, cB X.2.2.2.2.1), (a6, cB X.2.2.2.2.2.1), (z0, cZ .null z1 Z.2.2), (z1, cQ cJ z2 z3), (z2, cA4 cI Z.1), (z3, cA4 cI Z.2.1)]) rfl rfl rfl rfl (by decide) [a0, a1, a2, a3, a4, a5, a6] rfl rfl rfl rfl 0 2 rfl rfl rfl (Nat.le_of_ble_eq_true rfl) ⟨Nat.le_of_ble_eq_true rfl, Nat.le_of_ble_eq_true rfl⟩ rfl dX4_isSame_84 ?_
  refine k_aload_n C dX4_isSame_87 2 rfl ?_
  refine k_getX4 C 7 3 rfl (by decide) rfl q426 rfl dX4_isSame_88 ?_
  refine k_ifnonnullN C dX4_isSame_91 ?_
  refine k_iconst C 0 (by decide) dX4_isSame_94 ?_
  refine k_goto C 106 (by decide) dX4_isSame_95 ?_
  refine k_icmp_eq C 111 (by decide) dX4_isSame_106 (fun _ => ?_) (fun h => absurd h106'' h)
  refine k_iinc C 3 [(2, .int 3), (3, .int 4), (0, .ref z0), (1, .ref a0)] 0 rfl (by decide) (by decide) rfl dX4_isSame_111 ?_
  refine k_goto C 76 (by decide) dX4_isSame_114 ?_
  refine k_iload_n C dX4_isSame_76 0 rfl ?_
  refine k_bipush C 6 (by decide) dX4_isSame_77 ?_
  refine k_icmp_ge C 117 (by decide) dX4_isSame_79 (fun h => absurd h (by decide)) (fun _ => ?_)
  refine k_aload_n C dX4_isSame_82 3 rfl ?_
  refine k_iload_n C dX4_isSame_83 0 rfl ?_
  refine k_callV_i C (mX2_ball_3 l D cI cJ a0 a1 a2 a3 a4 a5 a6 X) (cwV 1 C.2.2.2.2.1 (kGV q481 q169 q170 q35 q171) rfl rfl rfl ⟨rfl, hdX2_ball⟩ ⟨Nat.le_of_ble_eq_true rfl, Nat.le_of_ble_eq_true rfl⟩) [0, 1, 2, 3, 4, 5, 6] [7, 8, 9, 10] [4, 5, 6, 7, 8, 9, 10, 0, 1, 2, 3] [(z0, cZ .null z1 Z.2.2), (z1, cQ cJ z2 z3), (z2, cA4 cI Z.1), (z3, cA4 cI Z.2.1)] ([(a0, cF a1 a2 a3 a4 a5 a6 X.2.2.2.2.2.2), (a1, cS X.1), (a2, cS X.2.1), (a3, cB X.2.2.1), (a4, cB X.2.2.2.1), (a5, cB X.2.2.2.2.1), (a6, cB X.2.2.2.2.2.1), (z0, cZ .null z1 Z.2.2), (z1, cQ cJ z2 z3), (z2, cA4 cI Z.1), (z3, cA4 cI Z.2.1)]) rfl rfl rfl rfl (by decide) [a0, a1, a2, a3, a4, a5, a6] rfl rfl rfl rfl 0 2 rfl rfl rfl (Nat.le_of_ble_eq_true rfl) ⟨Nat.le_of_ble_eq_true rfl, Nat.le_of_ble_eq_true rfl⟩ rfl dX4_isSame_84 ?_
  refine k_aload_n C dX4_isSame_87 2 rfl ?_
  refine k_getX4 C 7 3 rfl (by decide) rfl q426 rfl dX4_isSame_88 ?_
  refine k_ifnonnullN C dX4_isSame_91 ?_
  refine k_iconst C 0 (by decide) dX4_isSame_94 ?_
  refine k_goto C 106 (by decide) dX4_isSame_95 ?_
  refine k_icmp_eq C 111 (by decide) dX4_isSame_106 (fun _ => ?_) (fun h => absurd h106''' h)
  refine k_iinc C 4 [(2, .int 4), (3, .int 4), (0, .ref z0), (1, .ref a0)] 0 rfl (by decide) (by decide) rfl dX4_isSame_111 ?_
  refine k_goto C 76 (by decide) dX4_isSame_114 ?_
  refine k_iload_n C dX4_isSame_76 0 rfl ?_
  refine k_bipush C 6 (by decide) dX4_isSame_77 ?_
  refine k_icmp_ge C 117 (by decide) dX4_isSame_79 (fun h => absurd h (by decide)) (fun _ => ?_)
  refine k_aload_n C dX4_isSame_82 3 rfl ?_
  refine k_iload_n C dX4_isSame_83 0 rfl ?_
  refine k_callV_i C (mX2_ball_4 l D cI cJ a0 a1 a2 a3 a4 a5 a6 X) (cwV 1 C.2.2.2.2.1 (kGV q481 q169 q170 q35 q171) rfl rfl rfl ⟨rfl, hdX2_ball⟩ ⟨Nat.le_of_ble_eq_true rfl, Nat.le_of_ble_eq_true rfl⟩) [0, 1, 2, 3, 4, 5, 6] [7, 8, 9, 10] [4, 5, 6, 7, 8, 9, 10, 0, 1, 2, 3] [(z0, cZ .null z1 Z.2.2), (z1, cQ cJ z2 z3), (z2, cA4 cI Z.1), (z3, cA4 cI Z.2.1)] ([(a0, cF a1 a2 a3 a4 a5 a6 X.2.2.2.2.2.2), (a1, cS X.1), (a2, cS X.2.1), (a3, cB X.2.2.1), (a4, cB X.2.2.2.1), (a5, cB X.2.2.2.2.1), (a6, cB X.2.2.2.2.2.1), (z0, cZ .null z1 Z.2.2), (z1, cQ cJ z2 z3), (z2, cA4 cI Z.1), (z3, cA4 cI Z.2.1)]) rfl rfl rfl rfl (by decide) [a0, a1, a2, a3, a4, a5, a6] rfl rfl rfl rfl 0 2 rfl rfl rfl (Nat.le_of_ble_eq_true rfl) ⟨Nat.le_of_ble_eq_true rfl, Nat.le_of_ble_eq_true rfl⟩ rfl dX4_isSame_84 ?_
  refine k_aload_n C dX4_isSame_87 2 rfl ?_
  refine k_getX4 C 7 3 rfl (by decide) rfl q426 rfl dX4_isSame_88 ?_
  refine k_ifnonnullN C dX4_isSame_91 ?_
  refine k_iconst C 0 (by decide) dX4_isSame_94 ?_
  refine k_goto C 106 (by decide) dX4_isSame_95 ?_
  refine k_icmp_eq C 111 (by decide) dX4_isSame_106 (fun _ => ?_) (fun h => absurd h106'''' h)
  refine k_iinc C 5 [(2, .int 5), (3, .int 4), (0, .ref z0), (1, .ref a0)] 0 rfl (by decide) (by decide) rfl dX4_isSame_111 ?_
  refine k_goto C 76 (by decide) dX4_isSame_114 ?_
  refine k_iload_n C dX4_isSame_76 0 rfl ?_
  refine k_bipush C 6 (by decide) dX4_isSame_77 ?_
  refine k_icmp_ge C 117 (by decide) dX4_isSame_79 (fun h => absurd h (by decide)) (fun _ => ?_)
  refine k_aload_n C dX4_isSame_82 3 rfl ?_
  refine k_iload_n C dX4_isSame_83 0 rfl ?_
  refine k_callV_i C (mX2_ball_5 l D cI cJ a0 a1 a2 a3 a4 a5 a6 X) (cwV 1 C.2.2.2.2.1 (kGV q481 q169 q170 q35 q171) rfl rfl rfl ⟨rfl, hdX2_ball⟩ ⟨Nat.le_of_ble_eq_true rfl, Nat.le_of_ble_eq_true rfl⟩) [0, 1, 2, 3, 4, 5, 6] [7, 8, 9, 10] [4, 5, 6, 7, 8, 9, 10, 0, 1, 2, 3] [(z0, cZ .null z1 Z.2.2), (z1, cQ cJ z2 z3), (z2, cA4 cI Z.1), (z3, cA4 cI Z.2.1)] ([(a0, cF a1 a2 a3 a4 a5 a6 X.2.2.2.2.2.2), (a1, cS X.1), (a2, cS X.2.1), (a3, cB X.2.2.1), (a4, cB X.2.2.2.1), (a5, cB X.2.2.2.2.1), (a6, cB X.2.2.2.2.2.1), (z0, cZ .null z1 Z.2.2), (z1, cQ cJ z2 z3), (z2, cA4 cI Z.1), (z3, cA4 cI Z.2.1)]) rfl rfl rfl rfl (by decide) [a0, a1, a2, a3, a4, a5, a6] rfl rfl rfl rfl 0 2 rfl rfl rfl (Nat.le_of_ble_eq_true rfl) ⟨Nat.le_of_ble_eq_true rfl, Nat.le_of_ble_eq_true rfl⟩ rfl dX4_isSame_84 ?_
  refine k_aload_n C dX4_isSame_87 2 rfl ?_
  refine k_getX4 C 7 3 rfl (by decide) rfl q426 rfl dX4_isSame_88 ?_
  refine k_ifnonnullN C dX4_isSame_91 ?_
  refine k_iconst C 0 (by decide) dX4_isSame_94 ?_
  refine k_goto C 106 (by decide) dX4_isSame_95 ?_
  refine k_icmp_eq C 111 (by decide) dX4_isSame_106 (fun _ => ?_) (fun h => absurd h106''''' h)
  refine k_iinc C 6 [(2, .int 6), (3, .int 4), (0, .ref z0), (1, .ref a0)] 0 rfl (by decide) (by decide) rfl dX4_isSame_111 ?_
  refine k_goto C 76 (by decide) dX4_isSame_114 ?_
  refine k_iload_n C dX4_isSame_76 0 rfl ?_
  refine k_bipush C 6 (by decide) dX4_isSame_77 ?_
  refine k_icmp_ge C 117 (by decide) dX4_isSame_79 (fun _ => ?_) (fun h => absurd (by decide) h)
  refine k_aload_n C dX4_isSame_117 3 rfl ?_
  refine k_callV_d C (mX2_meanN l D cI cJ a0 a1 a2 a3 a4 a5 a6 X (fun h => by rw [← hr, ← hs]; exact (hne (by rw [hr]; exact h)).1)) (cwV 0 C.2.2.2.2.1 (kGV q486 q487 q488 q35 q489) rfl rfl rfl ⟨rfl, hdX2_mean⟩ ⟨Nat.le_of_ble_eq_true rfl, Nat.le_of_ble_eq_true rfl⟩) [0, 1, 2, 3, 4, 5, 6] [7, 8, 9, 10] [4, 5, 6, 7, 8, 9, 10, 0, 1, 2, 3] [(z0, cZ .null z1 Z.2.2), (z1, cQ cJ z2 z3), (z2, cA4 cI Z.1), (z3, cA4 cI Z.2.1)] [(a0, cF a1 a2 a3 a4 a5 a6 X.2.2.2.2.2.2), (a1, cS X.1), (a2, cS X.2.1), (a3, cB X.2.2.1), (a4, cB X.2.2.2.1), (a5, cB X.2.2.2.2.1), (a6, cB X.2.2.2.2.2.1), (z0, cZ .null z1 Z.2.2), (z1, cQ cJ z2 z3), (z2, cA4 cI Z.1), (z3, cA4 cI Z.2.1)] rfl rfl rfl rfl (by decide) [a0, a1, a2, a3, a4, a5, a6] rfl rfl rfl rfl 0 2 rfl rfl rfl (Nat.le_of_ble_eq_true rfl) ⟨Nat.le_of_ble_eq_true rfl, Nat.le_of_ble_eq_true rfl⟩ rfl dX4_isSame_118 ?_
  refine k_aload_n C dX4_isSame_121 2 rfl ?_
  refine k_getX4 C 7 5 rfl (by decide) rfl q430 rfl dX4_isSame_122 ?_
  refine k_if_ne C 132 (by decide) dX4_isSame_125 (fun c1 => ?_) (fun c1 => ?_)
  ·
    refine k_aload_n C dX4_isSame_132 2 rfl ?_
    refine k_getX4 C 7 10 rfl (by decide) rfl q437 rfl dX4_isSame_133 ?_
    refine k_i2d C dX4_isSame_136 ?_
    refine k_aload_n C dX4_isSame_137 2 rfl ?_
    refine k_getX4 C 7 5 rfl (by decide) rfl q430 rfl dX4_isSame_138 ?_
    refine k_i2d C dX4_isSame_141 ?_
    refine k_ddivN C (hne c1).1 dX4_isSame_142 ?_
    refine k_dcmp C dX4_isSame_143 ?_
    refine k_if_ne C 151 (by decide) dX4_isSame_144 (fun h => absurd (by rw [show fMean X.2.2.2.2.2.2.2.2.2.2.2.1 X.2.2.2.2.2.2.2.2.2.2.2.2.1 = FP.ddiv (FP.i2d Z.2.2.2.2.2.2.2.2.2.2) (FP.i2d Z.2.2.2.2.2.1) from by unfold fMean; rw [← hr, ← hs, if_neg c1]]; exact (hne c1).2) h) (fun _ => ?_)
    refine k_iconst C 1 (by decide) dX4_isSame_147 ?_
    refine k_goto C 152 (by decide) dX4_isSame_148 ?_
    exact k_zretG C rfl rfl ⟨rfl, rfl⟩ dX4_isSame_152
  ·
    refine k_dconst0 C dX4_isSame_128 ?_
    refine k_goto C 143 (by decide) dX4_isSame_129 ?_
    refine k_dcmp C dX4_isSame_143 ?_
    refine k_if_ne C 151 (by decide) dX4_isSame_144 (fun h => absurd (by rw [show fMean X.2.2.2.2.2.2.2.2.2.2.2.1 X.2.2.2.2.2.2.2.2.2.2.2.2.1 = 0 from by unfold fMean; rw [← hr, if_pos c1]]; decide +kernel) h) (fun _ => ?_)
    refine k_iconst C 1 (by decide) dX4_isSame_147 ?_
    refine k_goto C 152 (by decide) dX4_isSame_148 ?_
    exact k_zretG C rfl rfl ⟨rfl, rfl⟩ dX4_isSame_152
set_option maxHeartbeats 4000000 in
set_option maxRecDepth 100000 in
theorem mX4_isSame_r (l : Launch) (D : va_G) (cI cJ : ClassId) (a0 a1 a2 a3 a4 a5 a6 z0 z1 z2 z3 z4 : Nat) (X : Co) (Z : Zs) (b : Lb) (h18 : ((fX2_count_0 X) = (fX4_counted_r0 Z b))) (h18' : ((fX2_count_1 X) = (fX4_counted_r1 Z b))) (h18'' : ((fX2_count_2 X) = (fX4_counted_r2 Z b))) (h18''' : ((fX2_count_3 X) = (fX4_counted_r3 Z b))) (h18'''' : ((fX2_count_4 X) = (fX4_counted_r4 Z b))) (h18''''' : ((fX2_count_5 X) = (fX4_counted_r5 Z b))) (h18'''''' : ((fX2_count_6 X) = (fX4_counted_r6 Z b))) (h18''''''' : ((fX2_count_7 X) = (fX4_counted_r7 Z b))) (h18'''''''' : ((fX2_count_8 X) = (fX4_counted_r8 Z b))) (h57 : ((fX2_told_00 X) = Z.1.1)) (h57' : ((fX2_told_01 X) = Z.1.2.1)) (h57'' : ((fX2_told_02 X) = Z.1.2.2.1)) (h57''' : ((fX2_told_03 X) = Z.1.2.2.2)) (h57'''' : ((fX2_told_10 X) = Z.2.1.1)) (h57''''' : ((fX2_told_11 X) = Z.2.1.2.1)) (h57'''''' : ((fX2_told_12 X) = Z.2.1.2.2.1)) (h57''''''' : ((fX2_told_13 X) = Z.2.1.2.2.2)) (h106 : ((fX2_ball_0 X) = (fX3_told_0 b))) (h106' : ((fX2_ball_1 X) = (fX3_told_1 b))) (h106'' : ((fX2_ball_2 X) = (fX3_told_2 b))) (h106''' : ((fX2_ball_3 X) = (fX3_told_3 b))) (h106'''' : ((fX2_ball_4 X) = (fX3_told_4 b))) (h106''''' : ((fX2_ball_5 X) = (fX3_told_5 b))) (hr : Z.2.2.2.2.2.1 = X.2.2.2.2.2.2.2.2.2.2.2.1) (hs : Z.2.2.2.2.2.2.2.2.2.2 = X.2.2.2.2.2.2.2.2.2.2.2.2.1) (hne : ¬ Z.2.2.2.2.2.1 = 0 → vf_n64 (FP.ddiv (FP.i2d Z.2.2.2.2.2.2.2.2.2.2) (FP.i2d Z.2.2.2.2.2.1)) ∧ Op.cmpValue (FP.dcmp (FP.ddiv (FP.i2d Z.2.2.2.2.2.2.2.2.2.2) (FP.i2d Z.2.2.2.2.2.1)) (FP.ddiv (FP.i2d Z.2.2.2.2.2.2.2.2.2.2) (FP.i2d Z.2.2.2.2.2.1))) .l = 0) : kGi l D cI cJ yX4_isSame (.code yX4_isSame cX4_isSame 4 (some .boolean)) { frames := 7, cells := 15, slots := 135, locals := 120 } [.ref z0, .ref a0] [(a0, cF a1 a2 a3 a4 a5 a6 X.2.2.2.2.2.2), (a1, cS X.1), (a2, cS X.2.1), (a3, cB X.2.2.1), (a4, cB X.2.2.2.1), (a5, cB X.2.2.2.2.1), (a6, cB X.2.2.2.2.2.1), (z0, cZ (.ref z4) z1 Z.2.2), (z1, cQ cJ z2 z3), (z2, cA4 cI Z.1), (z3, cA4 cI Z.2.1), (z4, cL b)] 15 135 (fun r U => r = 1 ∧ U = [(a0, cF a1 a2 a3 a4 a5 a6 X.2.2.2.2.2.2), (a1, cS X.1), (a2, cS X.2.1), (a3, cB X.2.2.1), (a4, cB X.2.2.2.1), (a5, cB X.2.2.2.2.1), (a6, cB X.2.2.2.2.2.1), (z0, cZ (.ref z4) z1 Z.2.2), (z1, cQ cJ z2 z3), (z2, cA4 cI Z.1), (z3, cA4 cI Z.2.1), (z4, cL b)]) := by
  refine fun sz => k_ofN (lv := [(0, .ref z0), (1, .ref a0)]) (by decide) sz (Nat.le_of_ble_eq_true rfl) rfl ?_
  intro p e s m args below meth c hsz hnm C
  refine k_iconst C 0 (by decide) dX4_isSame_0 ?_
  refine k_istore_n C [(2, .int 0), (0, .ref z0), (1, .ref a0)] (by decide) rfl dX4_isSame_1 ?_
  refine k_iload_n C dX4_isSame_2 0 rfl ?_
  refine k_bipush C 9 (by decide) dX4_isSame_3 ?_
  refine k_icmp_ge C 29 (by decide) dX4_isSame_5 (fun h => absurd h (by decide)) (fun _ => ?_)
  refine k_aload_n C dX4_isSame_8 2 rfl ?_
  refine k_iload_n C dX4_isSame_9 0 rfl ?_
  refine k_callV_i C (mX2_count_0 l D cI cJ a0 a1 a2 a3 a4 a5 a6 X) (cwV 1 C.2.2.2.2.1 (kGV q470 q261 q262 q35 q263) rfl rfl rfl ⟨rfl, hdX2_count⟩ ⟨Nat.le_of_ble_eq_true rfl, Nat.le_of_ble_eq_true rfl⟩) [0, 1, 2, 3, 4, 5, 6] [7, 8, 9, 10, 11] [5, 6, 7, 8, 9, 10, 11, 0, 1, 2, 3, 4] [(z0, cZ (.ref z4) z1 Z.2.2), (z1, cQ cJ z2 z3), (z2, cA4 cI Z.1), (z3, cA4 cI Z.2.1), (z4, cL b)] ([(a0, cF a1 a2 a3 a4 a5 a6 X.2.2.2.2.2.2), (a1, cS X.1), (a2, cS X.2.1), (a3, cB X.2.2.1), (a4, cB X.2.2.2.1), (a5, cB X.2.2.2.2.1), (a6, cB X.2.2.2.2.2.1), (z0, cZ (.ref z4) z1 Z.2.2), (z1, cQ cJ z2 z3), (z2, cA4 cI Z.1), (z3, cA4 cI Z.2.1), (z4, cL b)]) rfl rfl rfl rfl (by decide) [a0, a1, a2, a3, a4, a5, a6] rfl rfl rfl rfl 0 2 rfl rfl rfl (Nat.le_of_ble_eq_true rfl) ⟨Nat.le_of_ble_eq_true rfl, Nat.le_of_ble_eq_true rfl⟩ rfl dX4_isSame_10 ?_
  refine k_aload_n C dX4_isSame_13 1 rfl ?_
  refine k_iload_n C dX4_isSame_14 0 rfl ?_
  refine k_callGV_i C (mX4_counted_r0 l D cI cJ z0 z1 z2 z3 z4 Z b) (cwV 1 C.2.2.2.2.1 (kGV q471 q472 q473 q38 q474) rfl rfl rfl ⟨rfl, hdX4_counted⟩ ⟨Nat.le_of_ble_eq_true rfl, Nat.le_of_ble_eq_true rfl⟩) [7, 8, 9, 10, 11] [0, 1, 2, 3, 4, 5, 6] [(a0, cF a1 a2 a3 a4 a5 a6 X.2.2.2.2.2.2), (a1, cS X.1), (a2, cS X.2.1), (a3, cB X.2.2.1), (a4, cB X.2.2.2.1), (a5, cB X.2.2.2.2.1), (a6, cB X.2.2.2.2.2.1)] rfl rfl rfl rfl (by decide) 7 4 rfl rfl rfl (Nat.le_of_ble_eq_true rfl) ⟨Nat.le_of_ble_eq_true rfl, Nat.le_of_ble_eq_true rfl⟩ rfl dX4_isSame_15 (fun r1 U2 h3 => ?_)
  obtain ⟨rfl, rfl⟩ := h3
  refine k_wsub (w' := [(a0, cF a1 a2 a3 a4 a5 a6 X.2.2.2.2.2.2), (a1, cS X.1), (a2, cS X.2.1), (a3, cB X.2.2.1), (a4, cB X.2.2.2.1), (a5, cB X.2.2.2.2.1), (a6, cB X.2.2.2.2.2.1), (z0, cZ (.ref z4) z1 Z.2.2), (z1, cQ cJ z2 z3), (z2, cA4 cI Z.1), (z3, cA4 cI Z.2.1), (z4, cL b)]) [0, 1, 2, 3, 4, 5, 6, 7, 8, 9, 10, 11] rfl rfl ?_
  refine k_icmp_eq C 23 (by decide) dX4_isSame_18 (fun _ => ?_) (fun h => absurd h18 h)
  refine k_iinc C 1 [(2, .int 1), (0, .ref z0), (1, .ref a0)] 0 rfl (by decide) (by decide) rfl dX4_isSame_23 ?_
  refine k_goto C 2 (by decide) dX4_isSame_26 ?_
  refine k_iload_n C dX4_isSame_2 0 rfl ?_
  refine k_bipush C 9 (by decide) dX4_isSame_3 ?_
  refine k_icmp_ge C 29 (by decide) dX4_isSame_5 (fun h => absurd h (by decide)) (fun _ => ?_)
  refine k_aload_n C dX4_isSame_8 2 rfl ?_
  refine k_iload_n C dX4_isSame_9 0 rfl ?_
  refine k_callV_i C (mX2_count_1 l D cI cJ a0 a1 a2 a3 a4 a5 a6 X) (cwV 1 C.2.2.2.2.1 (kGV q470 q261 q262 q35 q263) rfl rfl rfl ⟨rfl, hdX2_count⟩ ⟨Nat.le_of_ble_eq_true rfl, Nat.le_of_ble_eq_true rfl⟩) [0, 1, 2, 3, 4, 5, 6] [7, 8, 9, 10, 11] [5, 6, 7, 8, 9, 10, 11, 0, 1, 2, 3, 4] [(z0, cZ (.ref z4) z1 Z.2.2), (z1, cQ cJ z2 z3), (z2, cA4 cI Z.1), (z3, cA4 cI Z.2.1), (z4, cL b)] ([(a0, cF a1 a2 a3 a4 a5 a6 X.2.2.2.2.2.2), (a1, cS X.1), (a2, cS X.2.1), (a3, cB X.2.2.1), (a4, cB X.2.2.2.1), (a5, cB X.2.2.2.2.1), (a6, cB X.2.2.2.2.2.1), (z0, cZ (.ref z4) z1 Z.2.2), (z1, cQ cJ z2 z3), (z2, cA4 cI Z.1), (z3, cA4 cI Z.2.1), (z4, cL b)]) rfl rfl rfl rfl (by decide) [a0, a1, a2, a3, a4, a5, a6] rfl rfl rfl rfl 0 2 rfl rfl rfl (Nat.le_of_ble_eq_true rfl) ⟨Nat.le_of_ble_eq_true rfl, Nat.le_of_ble_eq_true rfl⟩ rfl dX4_isSame_10 ?_
  refine k_aload_n C dX4_isSame_13 1 rfl ?_
  refine k_iload_n C dX4_isSame_14 0 rfl ?_
  refine k_callGV_i C (mX4_counted_r1 l D cI cJ z0 z1 z2 z3 z4 Z b) (cwV 1 C.2.2.2.2.1 (kGV q471 q472 q473 q38 q474) rfl rfl rfl ⟨rfl, hdX4_counted⟩ ⟨Nat.le_of_ble_eq_true rfl, Nat.le_of_ble_eq_true rfl⟩) [7, 8, 9, 10, 11] [0, 1, 2, 3, 4, 5, 6] [(a0, cF a1 a2 a3 a4 a5 a6 X.2.2.2.2.2.2), (a1, cS X.1), (a2, cS X.2.1), (a3, cB X.2.2.1), (a4, cB X.2.2.2.1), (a5, cB X.2.2.2.2.1), (a6, cB X.2.2.2.2.2.1)] rfl rfl rfl rfl (by decide) 7 4 rfl rfl rfl (Nat.le_of_ble_eq_true rfl) ⟨Nat.le_of_ble_eq_true rfl, Nat.le_of_ble_eq_true rfl⟩ rfl dX4_isSame_15 (fun r4 U5 h6 => ?_)
  obtain ⟨rfl, rfl⟩ := h6
  refine k_wsub (w' := [(a0, cF a1 a2 a3 a4 a5 a6 X.2.2.2.2.2.2), (a1, cS X.1), (a2, cS X.2.1), (a3, cB X.2.2.1), (a4, cB X.2.2.2.1), (a5, cB X.2.2.2.2.1), (a6, cB X.2.2.2.2.2.1), (z0, cZ (.ref z4) z1 Z.2.2), (z1, cQ cJ z2 z3), (z2, cA4 cI Z.1), (z3, cA4 cI Z.2.1), (z4, cL b)]) [0, 1, 2, 3, 4, 5, 6, 7, 8, 9, 10, 11] rfl rfl ?_
  refine k_icmp_eq C 23 (by decide) dX4_isSame_18 (fun _ => ?_) (fun h => absurd h18' h)
  refine k_iinc C 2 [(2, .int 2), (0, .ref z0), (1, .ref a0)] 0 rfl (by decide) (by decide) rfl dX4_isSame_23 ?_
  refine k_goto C 2 (by decide) dX4_isSame_26 ?_
  refine k_iload_n C dX4_isSame_2 0 rfl ?_
  refine k_bipush C 9 (by decide) dX4_isSame_3 ?_
  refine k_icmp_ge C 29 (by decide) dX4_isSame_5 (fun h => absurd h (by decide)) (fun _ => ?_)
  refine k_aload_n C dX4_isSame_8 2 rfl ?_
  refine k_iload_n C dX4_isSame_9 0 rfl ?_
  refine k_callV_i C (mX2_count_2 l D cI cJ a0 a1 a2 a3 a4 a5 a6 X) (cwV 1 C.2.2.2.2.1 (kGV q470 q261 q262 q35 q263) rfl rfl rfl ⟨rfl, hdX2_count⟩ ⟨Nat.le_of_ble_eq_true rfl, Nat.le_of_ble_eq_true rfl⟩) [0, 1, 2, 3, 4, 5, 6] [7, 8, 9, 10, 11] [5, 6, 7, 8, 9, 10, 11, 0, 1, 2, 3, 4] [(z0, cZ (.ref z4) z1 Z.2.2), (z1, cQ cJ z2 z3), (z2, cA4 cI Z.1), (z3, cA4 cI Z.2.1), (z4, cL b)] ([(a0, cF a1 a2 a3 a4 a5 a6 X.2.2.2.2.2.2), (a1, cS X.1), (a2, cS X.2.1), (a3, cB X.2.2.1), (a4, cB X.2.2.2.1), (a5, cB X.2.2.2.2.1), (a6, cB X.2.2.2.2.2.1), (z0, cZ (.ref z4) z1 Z.2.2), (z1, cQ cJ z2 z3), (z2, cA4 cI Z.1), (z3, cA4 cI Z.2.1), (z4, cL b)]) rfl rfl rfl rfl (by decide) [a0, a1, a2, a3, a4, a5, a6] rfl rfl rfl rfl 0 2 rfl rfl rfl (Nat.le_of_ble_eq_true rfl) ⟨Nat.le_of_ble_eq_true rfl, Nat.le_of_ble_eq_true rfl⟩ rfl dX4_isSame_10 ?_
  refine k_aload_n C dX4_isSame_13 1 rfl ?_
  refine k_iload_n C dX4_isSame_14 0 rfl ?_
  refine k_callGV_i C (mX4_counted_r2 l D cI cJ z0 z1 z2 z3 z4 Z b) (cwV 1 C.2.2.2.2.1 (kGV q471 q472 q473 q38 q474) rfl rfl rfl ⟨rfl, hdX4_counted⟩ ⟨Nat.le_of_ble_eq_true rfl, Nat.le_of_ble_eq_true rfl⟩) [7, 8, 9, 10, 11] [0, 1, 2, 3, 4, 5, 6] [(a0, cF a1 a2 a3 a4 a5 a6 X.2.2.2.2.2.2), (a1, cS X.1), (a2, cS X.2.1), (a3, cB X.2.2.1), (a4, cB X.2.2.2.1), (a5, cB X.2.2.2.2.1), (a6, cB X.2.2.2.2.2.1)] rfl rfl rfl rfl (by decide) 7 4 rfl rfl rfl (Nat.le_of_ble_eq_true rfl) ⟨Nat.le_of_ble_eq_true rfl, Nat.le_of_ble_eq_true rfl⟩ rfl dX4_isSame_15 (fun r7 U8 h9 => ?_)
  obtain ⟨rfl, rfl⟩ := h9
  refine k_wsub (w' := [(a0, cF a1 a2 a3 a4 a5 a6 X.2.2.2.2.2.2), (a1, cS X.1), (a2, cS X.2.1), (a3, cB X.2.2.1), (a4, cB X.2.2.2.1), (a5, cB X.2.2.2.2.1), (a6, cB X.2.2.2.2.2.1), (z0, cZ (.ref z4) z1 Z.2.2), (z1, cQ cJ z2 z3), (z2, cA4 cI Z.1), (z3, cA4 cI Z.2.1), (z4, cL b)]) [0, 1, 2, 3, 4, 5, 6, 7, 8, 9, 10, 11] rfl rfl ?_
  refine k_icmp_eq C 23 (by decide) dX4_isSame_18 (fun _ => ?_) (fun h => absurd h18'' h)
  refine k_iinc C 3 [(2, .int 3), (0, .ref z0), (1, .ref a0)] 0 rfl (by decide) (by decide) rfl dX4_isSame_23 ?_
  refine k_goto C 2 (by decide) dX4_isSame_26 ?_
  refine k_iload_n C dX4_isSame_2 0 rfl ?_
  refine k_bipush C 9 (by decide) dX4_isSame_3 ?_
  refine k_icmp_ge C 29 (by decide) dX4_isSame_5 (fun h => absurd h (by decide)) (fun _ => ?_)
  refine k_aload_n C dX4_isSame_8 2 rfl ?_
  refine k_iload_n C dX4_isSame_9 0 rfl ?_
  refine k_callV_i C (mX2_count_3 l D cI cJ a0 a1 a2 a3 a4 a5 a6 X) (cwV 1 C.2.2.2.2.1 (kGV q470 q261 q262 q35 q263) rfl rfl rfl ⟨rfl, hdX2_count⟩ ⟨Nat.le_of_ble_eq_true rfl, Nat.le_of_ble_eq_true rfl⟩) [0, 1, 2, 3, 4, 5, 6] [7, 8, 9, 10, 11] [5, 6, 7, 8, 9, 10, 11, 0, 1, 2, 3, 4] [(z0, cZ (.ref z4) z1 Z.2.2), (z1, cQ cJ z2 z3), (z2, cA4 cI Z.1), (z3, cA4 cI Z.2.1), (z4, cL b)] ([(a0, cF a1 a2 a3 a4 a5 a6 X.2.2.2.2.2.2), (a1, cS X.1), (a2, cS X.2.1), (a3, cB X.2.2.1), (a4, cB X.2.2.2.1), (a5, cB X.2.2.2.2.1), (a6, cB X.2.2.2.2.2.1), (z0, cZ (.ref z4) z1 Z.2.2), (z1, cQ cJ z2 z3), (z2, cA4 cI Z.1), (z3, cA4 cI Z.2.1), (z4, cL b)]) rfl rfl rfl rfl (by decide) [a0, a1, a2, a3, a4, a5, a6] rfl rfl rfl rfl 0 2 rfl rfl rfl (Nat.le_of_ble_eq_true rfl) ⟨Nat.le_of_ble_eq_true rfl, Nat.le_of_ble_eq_true rfl⟩ rfl dX4_isSame_10 ?_
  refine k_aload_n C dX4_isSame_13 1 rfl ?_
  refine k_iload_n C dX4_isSame_14 0 rfl ?_
  refine k_callGV_i C (mX4_counted_r3 l D cI cJ z0 z1 z2 z3 z4 Z b) (cwV 1 C.2.2.2.2.1 (kGV q471 q472 q473 q38 q474) rfl rfl rfl ⟨rfl, hdX4_counted⟩ ⟨Nat.le_of_ble_eq_true rfl, Nat.le_of_ble_eq_true rfl⟩) [7, 8, 9, 10, 11] [0, 1, 2, 3, 4, 5, 6] [(a0, cF a1 a2 a3 a4 a5 a6 X.2.2.2.2.2.2), (a1, cS X.1), (a2, cS X.2.1), (a3, cB X.2.2.1), (a4, cB X.2.2.2.1), (a5, cB X.2.2.2.2.1), (a6, cB X.2.2.2.2.2.1)] rfl rfl rfl rfl (by decide) 7 4 rfl rfl rfl (Nat.le_of_ble_eq_true rfl) ⟨Nat.le_of_ble_eq_true rfl, Nat.le_of_ble_eq_true rfl⟩ rfl dX4_isSame_15 (fun r10 U11 h12 => ?_)
  obtain ⟨rfl, rfl⟩ := h12
  refine k_wsub (w' := [(a0, cF a1 a2 a3 a4 a5 a6 X.2.2.2.2.2.2), (a1, cS X.1), (a2, cS X.2.1), (a3, cB X.2.2.1), (a4, cB X.2.2.2.1), (a5, cB X.2.2.2.2.1), (a6, cB X.2.2.2.2.2.1), (z0, cZ (.ref z4) z1 Z.2.2), (z1, cQ cJ z2 z3), (z2, cA4 cI Z.1), (z3, cA4 cI Z.2.1), (z4, cL b)]) [0, 1, 2, 3, 4, 5, 6, 7, 8, 9, 10, 11] rfl rfl ?_
  refine k_icmp_eq C 23 (by decide) dX4_isSame_18 (fun _ => ?_) (fun h => absurd h18''' h)
  refine k_iinc C 4 [(2, .int 4), (0, .ref z0), (1, .ref a0)] 0 rfl (by decide) (by decide) rfl dX4_isSame_23 ?_
  refine k_goto C 2 (by decide) dX4_isSame_26 ?_
  refine k_iload_n C dX4_isSame_2 0 rfl ?_
  refine k_bipush C 9 (by decide) dX4_isSame_3 ?_
  refine k_icmp_ge C 29 (by decide) dX4_isSame_5 (fun h => absurd h (by decide)) (fun _ => ?_)
  refine k_aload_n C dX4_isSame_8 2 rfl ?_
  refine k_iload_n C dX4_isSame_9 0 rfl ?_
  refine k_callV_i C (mX2_count_4 l D cI cJ a0 a1 a2 a3 a4 a5 a6 X) (cwV 1 C.2.2.2.2.1 (kGV q470 q261 q262 q35 q263) rfl rfl rfl ⟨rfl, hdX2_count⟩ ⟨Nat.le_of_ble_eq_true rfl, Nat.le_of_ble_eq_true rfl⟩) [0, 1, 2, 3, 4, 5, 6] [7, 8, 9, 10, 11] [5, 6, 7, 8, 9, 10, 11, 0, 1, 2, 3, 4] [(z0, cZ (.ref z4) z1 Z.2.2), (z1, cQ cJ z2 z3), (z2, cA4 cI Z.1), (z3, cA4 cI Z.2.1), (z4, cL b)] ([(a0, cF a1 a2 a3 a4 a5 a6 X.2.2.2.2.2.2), (a1, cS X.1), (a2, cS X.2.1), (a3, cB X.2.2.1), (a4, cB X.2.2.2.1), (a5, cB X.2.2.2.2.1), (a6, cB X.2.2.2.2.2.1), (z0, cZ (.ref z4) z1 Z.2.2), (z1, cQ cJ z2 z3), (z2, cA4 cI Z.1), (z3, cA4 cI Z.2.1), (z4, cL b)]) rfl rfl rfl rfl (by decide) [a0, a1, a2, a3, a4, a5, a6] rfl rfl rfl rfl 0 2 rfl rfl rfl (Nat.le_of_ble_eq_true rfl) ⟨Nat.le_of_ble_eq_true rfl, Nat.le_of_ble_eq_true rfl⟩ rfl dX4_isSame_10 ?_
  refine k_aload_n C dX4_isSame_13 1 rfl ?_
  refine k_iload_n C dX4_isSame_14 0 rfl ?_
  refine k_callGV_i C (mX4_counted_r4 l D cI cJ z0 z1 z2 z3 z4 Z b) (cwV 1 C.2.2.2.2.1 (kGV q471 q472 q473 q38 q474) rfl rfl rfl ⟨rfl, hdX4_counted⟩ ⟨Nat.le_of_ble_eq_true rfl, Nat.le_of_ble_eq_true rfl⟩) [7, 8, 9, 10, 11] [0, 1, 2, 3, 4, 5, 6] [(a0, cF a1 a2 a3 a4 a5 a6 X.2.2.2.2.2.2), (a1, cS X.1), (a2, cS X.2.1), (a3, cB X.2.2.1), (a4, cB X.2.2.2.1), (a5, cB X.2.2.2.2.1), (a6, cB X.2.2.2.2.2.1)] rfl rfl rfl rfl (by decide) 7 4 rfl rfl rfl (Nat.le_of_ble_eq_true rfl) ⟨Nat.le_of_ble_eq_true rfl, Nat.le_of_ble_eq_true rfl⟩ rfl dX4_isSame_15 (fun r13 U14 h15 => ?_)
  obtain ⟨rfl, rfl⟩ := h15
  refine k_wsub (w' := [(a0, cF a1 a2 a3 a4 a5 a6 X.2.2.2.2.2.2), (a1, cS X.1), (a2, cS X.2.1), (a3, cB X.2.2.1), (a4, cB X.2.2.2.1), (a5, cB X.2.2.2.2.1), (a6, cB X.2.2.2.2.2.1), (z0, cZ (.ref z4) z1 Z.2.2), (z1, cQ cJ z2 z3), (z2, cA4 cI Z.1), (z3, cA4 cI Z.2.1), (z4, cL b)]) [0, 1, 2, 3, 4, 5, 6, 7, 8, 9, 10, 11] rfl rfl ?_
  refine k_icmp_eq C 23 (by decide) dX4_isSame_18 (fun _ => ?_) (fun h => absurd h18'''' h)
  refine k_iinc C 5 [(2, .int 5), (0, .ref z0), (1, .ref a0)] 0 rfl (by decide) (by decide) rfl dX4_isSame_23 ?_
  refine k_goto C 2 (by decide) dX4_isSame_26 ?_
  refine k_iload_n C dX4_isSame_2 0 rfl ?_
  refine k_bipush C 9 (by decide) dX4_isSame_3 ?_
  refine k_icmp_ge C 29 (by decide) dX4_isSame_5 (fun h => absurd h (by decide)) (fun _ => ?_)
  refine k_aload_n C dX4_isSame_8 2 rfl ?_
  refine k_iload_n C dX4_isSame_9 0 rfl ?_
  refine k_callV_i C (mX2_count_5 l D cI cJ a0 a1 a2 a3 a4 a5 a6 X) (cwV 1 C.2.2.2.2.1 (kGV q470 q261 q262 q35 q263) rfl rfl rfl ⟨rfl, hdX2_count⟩ ⟨Nat.le_of_ble_eq_true rfl, Nat.le_of_ble_eq_true rfl⟩) [0, 1, 2, 3, 4, 5, 6] [7, 8, 9, 10, 11] [5, 6, 7, 8, 9, 10, 11, 0, 1, 2, 3, 4] [(z0, cZ (.ref z4) z1 Z.2.2), (z1, cQ cJ z2 z3), (z2, cA4 cI Z.1), (z3, cA4 cI Z.2.1), (z4, cL b)] ([(a0, cF a1 a2 a3 a4 a5 a6 X.2.2.2.2.2.2), (a1, cS X.1), (a2, cS X.2.1), (a3, cB X.2.2.1), (a4, cB X.2.2.2.1), (a5, cB X.2.2.2.2.1), (a6, cB X.2.2.2.2.2.1), (z0, cZ (.ref z4) z1 Z.2.2), (z1, cQ cJ z2 z3), (z2, cA4 cI Z.1), (z3, cA4 cI Z.2.1), (z4, cL b)]) rfl rfl rfl rfl (by decide) [a0, a1, a2, a3, a4, a5, a6] rfl rfl rfl rfl 0 2 rfl rfl rfl (Nat.le_of_ble_eq_true rfl) ⟨Nat.le_of_ble_eq_true rfl, Nat.le_of_ble_eq_true rfl⟩ rfl dX4_isSame_10 ?_
  refine k_aload_n C dX4_isSame_13 1 rfl ?_
  refine k_iload_n C dX4_isSame_14 0 rfl ?_
  refine k_callGV_i C (mX4_counted_r5 l D cI cJ z0 z1 z2 z3 z4 Z b) (cwV 1 C.2.2.2.2.1 (kGV q471 q472 q473 q38 q474) rfl rfl rfl ⟨rfl, hdX4_counted⟩ ⟨Nat.le_of_ble_eq_true rfl, Nat.le_of_ble_eq_true rfl⟩) [7, 8, 9, 10, 11] [0, 1, 2, 3, 4, 5, 6] [(a0, cF a1 a2 a3 a4 a5 a6 X.2.2.2.2.2.2), (a1, cS X.1), (a2, cS X.2.1), (a3, cB X.2.2.1), (a4, cB X.2.2.2.1), (a5, cB X.2.2.2.2.1), (a6, cB X.2.2.2.2.2.1)] rfl rfl rfl rfl (by decide) 7 4 rfl rfl rfl (Nat.le_of_ble_eq_true rfl) ⟨Nat.le_of_ble_eq_true rfl, Nat.le_of_ble_eq_true rfl⟩ rfl dX4_isSame_15 (fun r16 U17 h18 => ?_)
  obtain ⟨rfl, rfl⟩ := h18
  refine k_wsub (w' := [(a0, cF a1 a2 a3 a4 a5 a6 X.2.2.2.2.2.2), (a1, cS X.1), (a2, cS X.2.1), (a3, cB X.2.2.1), (a4, cB X.2.2.2.1), (a5, cB X.2.2.2.2.1), (a6, cB X.2.2.2.2.2.1), (z0, cZ (.ref z4) z1 Z.2.2), (z1, cQ cJ z2 z3), (z2, cA4 cI Z.1), (z3, cA4 cI Z.2.1), (z4, cL b)]) [0, 1, 2, 3, 4, 5, 6, 7, 8, 9, 10, 11] rfl rfl ?_
  refine k_icmp_eq C 23 (by decide) dX4_isSame_18 (fun _ => ?_) (fun h => absurd h18''''' h)
  refine k_iinc C 6 [(2, .int 6), (0, .ref z0), (1, .ref a0)] 0 rfl (by decide) (by decide) rfl dX4_isSame_23 ?_
  refine k_goto C 2 (by decide) dX4_isSame_26 ?_
  refine k_iload_n C dX4_isSame_2 0 rfl ?_
  refine k_bipush C 9 (by decide) dX4_isSame_3 ?_
  refine k_icmp_ge C 29 (by decide) dX4_isSame_5 (fun h => absurd h (by decide)) (fun _ => ?_)
  refine k_aload_n C dX4_isSame_8 2 rfl ?_
  refine k_iload_n C dX4_isSame_9 0 rfl ?_
  refine k_callV_i C (mX2_count_6 l D cI cJ a0 a1 a2 a3 a4 a5 a6 X) (cwV 1 C.2.2.2.2.1 (kGV q470 q261 q262 q35 q263) rfl rfl rfl ⟨rfl, hdX2_count⟩ ⟨Nat.le_of_ble_eq_true rfl, Nat.le_of_ble_eq_true rfl⟩) [0, 1, 2, 3, 4, 5, 6] [7, 8, 9, 10, 11] [5, 6, 7, 8, 9, 10, 11, 0, 1, 2, 3, 4] [(z0, cZ (.ref z4) z1 Z.2.2), (z1, cQ cJ z2 z3), (z2, cA4 cI Z.1), (z3, cA4 cI Z.2.1), (z4, cL b)] ([(a0, cF a1 a2 a3 a4 a5 a6 X.2.2.2.2.2.2), (a1, cS X.1), (a2, cS X.2.1), (a3, cB X.2.2.1), (a4, cB X.2.2.2.1), (a5, cB X.2.2.2.2.1), (a6, cB X.2.2.2.2.2.1), (z0, cZ (.ref z4) z1 Z.2.2), (z1, cQ cJ z2 z3), (z2, cA4 cI Z.1), (z3, cA4 cI Z.2.1), (z4, cL b)]) rfl rfl rfl rfl (by decide) [a0, a1, a2, a3, a4, a5, a6] rfl rfl rfl rfl 0 2 rfl rfl rfl (Nat.le_of_ble_eq_true rfl) ⟨Nat.le_of_ble_eq_true rfl, Nat.le_of_ble_eq_true rfl⟩ rfl dX4_isSame_10 ?_
  refine k_aload_n C dX4_isSame_13 1 rfl ?_
  refine k_iload_n C dX4_isSame_14 0 rfl ?_
  refine k_callGV_i C (mX4_counted_r6 l D cI cJ z0 z1 z2 z3 z4 Z b) (cwV 1 C.2.2.2.2.1 (kGV q471 q472 q473 q38 q474) rfl rfl rfl ⟨rfl, hdX4_counted⟩ ⟨Nat.le_of_ble_eq_true rfl, Nat.le_of_ble_eq_true rfl⟩) [7, 8, 9, 10, 11] [0, 1, 2, 3, 4, 5, 6] [(a0, cF a1 a2 a3 a4 a5 a6 X.2.2.2.2.2.2), (a1, cS X.1), (a2, cS X.2.1), (a3, cB X.2.2.1), (a4, cB X.2.2.2.1), (a5, cB X.2.2.2.2.1), (a6, cB X.2.2.2.2.2.1)] rfl rfl rfl rfl (by decide) 7 4 rfl rfl rfl (Nat.le_of_ble_eq_true rfl) ⟨Nat.le_of_ble_eq_true rfl, Nat.le_of_ble_eq_true rfl⟩ rfl dX4_isSame_15 (fun r19 U20 h21 => ?_)
  obtain ⟨rfl, rfl⟩ := h21
  refine k_wsub (w' := [(a0, cF a1 a2 a3 a4 a5 a6 X.2.2.2.2.2.2), (a1, cS X.1), (a2, cS X.2.1), (a3, cB X.2.2.1), (a4, cB X.2.2.2.1), (a5, cB X.2.2.2.2.1), (a6, cB X.2.2.2.2.2.1), (z0, cZ (.ref z4) z1 Z.2.2), (z1, cQ cJ z2 z3), (z2, cA4 cI Z.1), (z3, cA4 cI Z.2.1), (z4, cL b)]) [0, 1, 2, 3, 4, 5, 6, 7, 8, 9, 10, 11] rfl rfl ?_
  refine k_icmp_eq C 23 (by decide) dX4_isSame_18 (fun _ => ?_) (fun h => absurd h18'''''' h)
  refine k_iinc C 7 [(2, .int 7), (0, .ref z0), (1, .ref a0)] 0 rfl (by decide) (by decide) rfl dX4_isSame_23 ?_
  refine k_goto C 2 (by decide) dX4_isSame_26 ?_
  refine k_iload_n C dX4_isSame_2 0 rfl ?_
  refine k_bipush C 9 (by decide) dX4_isSame_3 ?_
  refine k_icmp_ge C 29 (by decide) dX4_isSame_5 (fun h => absurd h (by decide)) (fun _ => ?_)
  refine k_aload_n C dX4_isSame_8 2 rfl ?_
  refine k_iload_n C dX4_isSame_9 0 rfl ?_
  refine k_callV_i C (mX2_count_7 l D cI cJ a0 a1 a2 a3 a4 a5 a6 X) (cwV 1 C.2.2.2.2.1 (kGV q470 q261 q262 q35 q263) rfl rfl rfl ⟨rfl, hdX2_count⟩ ⟨Nat.le_of_ble_eq_true rfl, Nat.le_of_ble_eq_true rfl⟩) [0, 1, 2, 3, 4, 5, 6] [7, 8, 9, 10, 11] [5, 6, 7, 8, 9, 10, 11, 0, 1, 2, 3, 4] [(z0, cZ (.ref z4) z1 Z.2.2), (z1, cQ cJ z2 z3), (z2, cA4 cI Z.1), (z3, cA4 cI Z.2.1), (z4, cL b)] ([(a0, cF a1 a2 a3 a4 a5 a6 X.2.2.2.2.2.2), (a1, cS X.1), (a2, cS X.2.1), (a3, cB X.2.2.1), (a4, cB X.2.2.2.1), (a5, cB X.2.2.2.2.1), (a6, cB X.2.2.2.2.2.1), (z0, cZ (.ref z4) z1 Z.2.2), (z1, cQ cJ z2 z3), (z2, cA4 cI Z.1), (z3, cA4 cI Z.2.1), (z4, cL b)]) rfl rfl rfl rfl (by decide) [a0, a1, a2, a3, a4, a5, a6] rfl rfl rfl rfl 0 2 rfl rfl rfl (Nat.le_of_ble_eq_true rfl) ⟨Nat.le_of_ble_eq_true rfl, Nat.le_of_ble_eq_true rfl⟩ rfl dX4_isSame_10 ?_
  refine k_aload_n C dX4_isSame_13 1 rfl ?_
  refine k_iload_n C dX4_isSame_14 0 rfl ?_
  refine k_callGV_i C (mX4_counted_r7 l D cI cJ z0 z1 z2 z3 z4 Z b) (cwV 1 C.2.2.2.2.1 (kGV q471 q472 q473 q38 q474) rfl rfl rfl ⟨rfl, hdX4_counted⟩ ⟨Nat.le_of_ble_eq_true rfl, Nat.le_of_ble_eq_true rfl⟩) [7, 8, 9, 10, 11] [0, 1, 2, 3, 4, 5, 6] [(a0, cF a1 a2 a3 a4 a5 a6 X.2.2.2.2.2.2), (a1, cS X.1), (a2, cS X.2.1), (a3, cB X.2.2.1), (a4, cB X.2.2.2.1), (a5, cB X.2.2.2.2.1), (a6, cB X.2.2.2.2.2.1)] rfl rfl rfl rfl (by decide) 7 4 rfl rfl rfl (Nat.le_of_ble_eq_true rfl) ⟨Nat.le_of_ble_eq_true rfl, Nat.le_of_ble_eq_true rfl⟩ rfl dX4_isSame_15 (fun r22 U23 h24 => ?_)
  obtain ⟨rfl, rfl⟩ := h24
  refine k_wsub (w' := [(a0, cF a1 a2 a3 a4 a5 a6 X.2.2.2.2.2.2), (a1, cS X.1), (a2, cS X.2.1), (a3, cB X.2.2.1), (a4, cB X.2.2.2.1), (a5, cB X.2.2.2.2.1), (a6, cB X.2.2.2.2.2.1), (z0, cZ (.ref z4) z1 Z.2.2), (z1, cQ cJ z2 z3), (z2, cA4 cI Z.1), (z3, cA4 cI Z.2.1), (z4, cL b)]) [0, 1, 2, 3, 4, 5, 6, 7, 8, 9, 10, 11] rfl rfl ?_
  refine k_icmp_eq C 23 (by decide) dX4_isSame_18 (fun _ => ?_) (fun h => absurd h18''''''' h)
  refine k_iinc C 8 [(2, .int 8), (0, .ref z0), (1, .ref a0)] 0 rfl (by decide) (by decide) rfl dX4_isSame_23 ?_
  refine k_goto C 2 (by decide) dX4_isSame_26 ?_
  refine k_iload_n C dX4_isSame_2 0 rfl ?_
  refine k_bipush C 9 (by decide) dX4_isSame_3 ?_
  refine k_icmp_ge C 29 (by decide) dX4_isSame_5 (fun h => absurd h (by decide)) (fun _ => ?_)
  refine k_aload_n C dX4_isSame_8 2 rfl ?_
  refine k_iload_n C dX4_isSame_9 0 rfl ?_
  refine k_callV_i C (mX2_count_8 l D cI cJ a0 a1 a2 a3 a4 a5 a6 X) (cwV 1 C.2.2.2.2.1 (kGV q470 q261 q262 q35 q263) rfl rfl rfl ⟨rfl, hdX2_count⟩ ⟨Nat.le_of_ble_eq_true rfl, Nat.le_of_ble_eq_true rfl⟩) [0, 1, 2, 3, 4, 5, 6] [7, 8, 9, 10, 11] [5, 6, 7, 8, 9, 10, 11, 0, 1, 2, 3, 4] [(z0, cZ (.ref z4) z1 Z.2.2), (z1, cQ cJ z2 z3), (z2, cA4 cI Z.1), (z3, cA4 cI Z.2.1), (z4, cL b)] ([(a0, cF a1 a2 a3 a4 a5 a6 X.2.2.2.2.2.2), (a1, cS X.1), (a2, cS X.2.1), (a3, cB X.2.2.1), (a4, cB X.2.2.2.1), (a5, cB X.2.2.2.2.1), (a6, cB X.2.2.2.2.2.1), (z0, cZ (.ref z4) z1 Z.2.2), (z1, cQ cJ z2 z3), (z2, cA4 cI Z.1), (z3, cA4 cI Z.2.1), (z4, cL b)]) rfl rfl rfl rfl (by decide) [a0, a1, a2, a3, a4, a5, a6] rfl rfl rfl rfl 0 2 rfl rfl rfl (Nat.le_of_ble_eq_true rfl) ⟨Nat.le_of_ble_eq_true rfl, Nat.le_of_ble_eq_true rfl⟩ rfl dX4_isSame_10 ?_
  refine k_aload_n C dX4_isSame_13 1 rfl ?_
  refine k_iload_n C dX4_isSame_14 0 rfl ?_
  refine k_callGV_i C (mX4_counted_r8 l D cI cJ z0 z1 z2 z3 z4 Z b) (cwV 1 C.2.2.2.2.1 (kGV q471 q472 q473 q38 q474) rfl rfl rfl ⟨rfl, hdX4_counted⟩ ⟨Nat.le_of_ble_eq_true rfl, Nat.le_of_ble_eq_true rfl⟩) [7, 8, 9, 10, 11] [0, 1, 2, 3, 4, 5, 6] [(a0, cF a1 a2 a3 a4 a5 a6 X.2.2.2.2.2.2), (a1, cS X.1), (a2, cS X.2.1), (a3, cB X.2.2.1), (a4, cB X.2.2.2.1), (a5, cB X.2.2.2.2.1), (a6, cB X.2.2.2.2.2.1)] rfl rfl rfl rfl (by decide) 7 4 rfl rfl rfl (Nat.le_of_ble_eq_true rfl) ⟨Nat.le_of_ble_eq_true rfl, Nat.le_of_ble_eq_true rfl⟩ rfl dX4_isSame_15 (fun r25 U26 h27 => ?_)
  obtain ⟨rfl, rfl⟩ := h27
  refine k_wsub (w' := [(a0, cF a1 a2 a3 a4 a5 a6 X.2.2.2.2.2.2), (a1, cS X.1), (a2, cS X.2.1), (a3, cB X.2.2.1), (a4, cB X.2.2.2.1), (a5, cB X.2.2.2.2.1), (a6, cB X.2.2.2.2.2.1), (z0, cZ (.ref z4) z1 Z.2.2), (z1, cQ cJ z2 z3), (z2, cA4 cI Z.1), (z3, cA4 cI Z.2.1), (z4, cL b)]) [0, 1, 2, 3, 4, 5, 6, 7, 8, 9, 10, 11] rfl rfl ?_
  refine k_icmp_eq C 23 (by decide) dX4_isSame_18 (fun _ => ?_) (fun h => absurd h18'''''''' h)
  refine k_iinc C 9 [(2, .int 9), (0, .ref z0), (1, .ref a0)] 0 rfl (by decide) (by decide) rfl dX4_isSame_23 ?_
  refine k_goto C 2 (by decide) dX4_isSame_26 ?_
  refine k_iload_n C dX4_isSame_2 0 rfl ?_
  refine k_bipush C 9 (by decide) dX4_isSame_3 ?_
  refine k_icmp_ge C 29 (by decide) dX4_isSame_5 (fun _ => ?_) (fun h => absurd (by decide) h)
  refine k_iconst C 0 (by decide) dX4_isSame_29 ?_
  refine k_istore_n C [(2, .int 0), (0, .ref z0), (1, .ref a0)] (by decide) rfl dX4_isSame_30 ?_
  refine k_iload_n C dX4_isSame_31 0 rfl ?_
  refine k_iconst C 2 (by decide) dX4_isSame_32 ?_
  refine k_icmp_ge C 74 (by decide) dX4_isSame_33 (fun h => absurd h (by decide)) (fun _ => ?_)
  refine k_iconst C 0 (by decide) dX4_isSame_36 ?_
  refine k_istore_n C [(3, .int 0), (2, .int 0), (0, .ref z0), (1, .ref a0)] (by decide) rfl dX4_isSame_37 ?_
  refine k_iload_n C dX4_isSame_38 0 rfl ?_
  refine k_iconst C 4 (by decide) dX4_isSame_39 ?_
  refine k_icmp_ge C 68 (by decide) dX4_isSame_40 (fun h => absurd h (by decide)) (fun _ => ?_)
  refine k_aload_n C dX4_isSame_43 3 rfl ?_
  refine k_iload_n C dX4_isSame_44 1 rfl ?_
  refine k_iload_n C dX4_isSame_45 0 rfl ?_
  refine k_callV_i C (mX2_told_00 l D cI cJ a0 a1 a2 a3 a4 a5 a6 X) (cwV 2 C.2.2.2.2.1 (kGV q480 q245 q246 q35 q247) rfl rfl rfl ⟨rfl, hdX2_told⟩ ⟨Nat.le_of_ble_eq_true rfl, Nat.le_of_ble_eq_true rfl⟩) [0, 1, 2, 3, 4, 5, 6] [7, 8, 9, 10, 11] [5, 6, 7, 8, 9, 10, 11, 0, 1, 2, 3, 4] [(z0, cZ (.ref z4) z1 Z.2.2), (z1, cQ cJ z2 z3), (z2, cA4 cI Z.1), (z3, cA4 cI Z.2.1), (z4, cL b)] ([(a0, cF a1 a2 a3 a4 a5 a6 X.2.2.2.2.2.2), (a1, cS X.1), (a2, cS X.2.1), (a3, cB X.2.2.1), (a4, cB X.2.2.2.1), (a5, cB X.2.2.2.2.1), (a6, cB X.2.2.2.2.2.1), (z0, cZ (.ref z4) z1 Z.2.2), (z1, cQ cJ z2 z3), (z2, cA4 cI Z.1), (z3, cA4 cI Z.2.1), (z4, cL b)]) rfl rfl rfl rfl (by decide) [a0, a1, a2, a3, a4, a5, a6] rfl rfl rfl rfl 0 2 rfl rfl rfl (Nat.le_of_ble_eq_true rfl) ⟨Nat.le_of_ble_eq_true rfl, Nat.le_of_ble_eq_true rfl⟩ rfl dX4_isSame_46 ?_
  refine k_aload_n C dX4_isSame_49 2 rfl ?_
  refine k_getX4 C 7 4 rfl (by decide) rfl q428 rfl dX4_isSame_50 ?_
  refine k_iload_n C dX4_isSame_53 1 rfl ?_
  refine k_aald C 8 rfl vi2_0 (fq_l0 _ _) dX4_isSame_54 ?_
  refine k_iload_n C dX4_isSame_55 0 rfl ?_
  refine k_iald C 9 rfl vi4_0 (ar4_l0 _) dX4_isSame_56 ?_
  refine k_icmp_eq C 62 (by decide) dX4_isSame_57 (fun _ => ?_) (fun h => absurd h57 h)
  refine k_iinc C 1 [(3, .int 1), (2, .int 0), (0, .ref z0), (1, .ref a0)] 0 rfl (by decide) (by decide) rfl dX4_isSame_62 ?_
  refine k_goto C 38 (by decide) dX4_isSame_65 ?_
  refine k_iload_n C dX4_isSame_38 0 rfl ?_
  refine k_iconst C 4 (by decide) dX4_isSame_39 ?_
  refine k_icmp_ge C 68 (by decide) dX4_isSame_40 (fun h => absurd h (by decide)) (fun _ => ?_)
  refine k_aload_n C dX4_isSame_43 3 rfl ?_
  refine k_iload_n C dX4_isSame_44 1 rfl ?_
  refine k_iload_n C dX4_isSame_45 0 rfl ?_
  refine k_callV_i C (mX2_told_01 l D cI cJ a0 a1 a2 a3 a4 a5 a6 X) (cwV 2 C.2.2.2.2.1 (kGV q480 q245 q246 q35 q247) rfl rfl rfl ⟨rfl, hdX2_told⟩ ⟨Nat.le_of_ble_eq_true rfl, Nat.le_of_ble_eq_true rfl⟩) [0, 1, 2, 3, 4, 5, 6] [7, 8, 9, 10, 11] [5, 6, 7, 8, 9, 10, 11, 0, 1, 2, 3, 4] [(z0, cZ (.ref z4) z1 Z.2.2), (z1, cQ cJ z2 z3), (z2, cA4 cI Z.1), (z3, cA4 cI Z.2.1), (z4, cL b)] ([(a0, cF a1 a2 a3 a4 a5 a6 X.2.2.2.2.2.2), (a1, cS X.1), (a2, cS X.2.1), (a3, cB X.2.2.1), (a4, cB X.2.2.2.1), (a5, cB X.2.2.2.2.1), (a6, cB X.2.2.2.2.2.1), (z0, cZ (.ref z4) z1 Z.2.2), (z1, cQ cJ z2 z3), (z2, cA4 cI Z.1), (z3, cA4 cI Z.2.1), (z4, cL b)]) rfl rfl rfl rfl (by decide) [a0, a1, a2, a3, a4, a5, a6] rfl rfl rfl rfl 0 2 rfl rfl rfl (Nat.le_of_ble_eq_true rfl) ⟨Nat.le_of_ble_eq_true rfl, Nat.le_of_ble_eq_true rfl⟩ rfl dX4_isSame_46 ?_
  refine k_aload_n C dX4_isSame_49 2 rfl ?_
  refine k_getX4 C 7 4 rfl (by decide) rfl q428 rfl dX4_isSame_50 ?_
  refine k_iload_n C dX4_isSame_53 1 rfl ?_
  refine k_aald C 8 rfl vi2_0 (fq_l0 _ _) dX4_isSame_54 ?_
  refine k_iload_n C dX4_isSame_55 0 rfl ?_
  refine k_iald C 9 rfl vi4_1 (ar4_l1 _) dX4_isSame_56 ?_
  refine k_icmp_eq C 62 (by decide) dX4_isSame_57 (fun _ => ?_) (fun h => absurd h57' h)
  refine k_iinc C 2 [(3, .int 2), (2, .int 0), (0, .ref z0), (1, .ref a0)] 0 rfl (by decide) (by decide) rfl dX4_isSame_62 ?_
  refine k_goto C 38 (by decide) dX4_isSame_65 ?_
  refine k_iload_n C dX4_isSame_38 0 rfl ?_
  refine k_iconst C 4 (by decide) dX4_isSame_39 ?_
  refine k_icmp_ge C 68 (by decide) dX4_isSame_40 (fun h => absurd h (by decide)) (fun _ => ?_)
  refine k_aload_n C dX4_isSame_43 3 rfl ?_
  refine k_iload_n C dX4_isSame_44 1 rfl ?_
  refine k_iload_n C dX4_isSame_45 0 rfl ?_
  refine k_callV_i C (mX2_told_02 l D cI cJ a0 a1 a2 a3 a4 a5 a6 X) (cwV 2 C.2.2.2.2.1 (kGV q480 q245 q246 q35 q247) rfl rfl rfl ⟨rfl, hdX2_told⟩ ⟨Nat.le_of_ble_eq_true rfl, Nat.le_of_ble_eq_true rfl⟩) [0, 1, 2, 3, 4, 5, 6] [7, 8, 9, 10, 11] [5, 6, 7, 8, 9, 10, 11, 0, 1, 2, 3, 4] [(z0, cZ (.ref z4) z1 Z.2.2), (z1, cQ cJ z2 z3), (z2, cA4 cI Z.1), (z3, cA4 cI Z.2.1), (z4, cL b)] ([(a0, cF a1 a2 a3 a4 a5 a6 X.2.2.2.2.2.2), (a1, cS X.1), (a2, cS X.2.1), (a3, cB X.2.2.1), (a4, cB X.2.2.2.1), (a5, cB X.2.2.2.2.1), (a6, cB X.2.2.2.2.2.1), (z0, cZ (.ref z4) z1 Z.2.2), (z1, cQ cJ z2 z3), (z2, cA4 cI Z.1), (z3, cA4 cI Z.2.1), (z4, cL b)]) rfl rfl rfl rfl (by decide) [a0, a1, a2, a3, a4, a5, a6] rfl rfl rfl rfl 0 2 rfl rfl rfl (Nat.le_of_ble_eq_true rfl) ⟨Nat.le_of_ble_eq_true rfl, Nat.le_of_ble_eq_true rfl⟩ rfl dX4_isSame_46 ?_
  refine k_aload_n C dX4_isSame_49 2 rfl ?_
  refine k_getX4 C 7 4 rfl (by decide) rfl q428 rfl dX4_isSame_50 ?_
  refine k_iload_n C dX4_isSame_53 1 rfl ?_
  refine k_aald C 8 rfl vi2_0 (fq_l0 _ _) dX4_isSame_54 ?_
  refine k_iload_n C dX4_isSame_55 0 rfl ?_
  refine k_iald C 9 rfl vi4_2 (ar4_l2 _) dX4_isSame_56 ?_
  refine k_icmp_eq C 62 (by decide) dX4_isSame_57 (fun _ => ?_) (fun h => absurd h57'' h)
  refine k_iinc C 3 [(3, .int 3), (2, .int 0), (0, .ref z0), (1, .ref a0)] 0 rfl (by decide) (by decide) rfl dX4_isSame_62 ?_
  refine k_goto C 38 (by decide) dX4_isSame_65 ?_
  refine k_iload_n C dX4_isSame_38 0 rfl ?_
  refine k_iconst C 4 (by decide) dX4_isSame_39 ?_
  refine k_icmp_ge C 68 (by decide) dX4_isSame_40 (fun h => absurd h (by decide)) (fun _ => ?_)
  refine k_aload_n C dX4_isSame_43 3 rfl ?_
  refine k_iload_n C dX4_isSame_44 1 rfl ?_
  refine k_iload_n C dX4_isSame_45 0 rfl ?_
  refine k_callV_i C (mX2_told_03 l D cI cJ a0 a1 a2 a3 a4 a5 a6 X) (cwV 2 C.2.2.2.2.1 (kGV q480 q245 q246 q35 q247) rfl rfl rfl ⟨rfl, hdX2_told⟩ ⟨Nat.le_of_ble_eq_true rfl, Nat.le_of_ble_eq_true rfl⟩) [0, 1, 2, 3, 4, 5, 6] [7, 8, 9, 10, 11] [5, 6, 7, 8, 9, 10, 11, 0, 1, 2, 3, 4] [(z0, cZ (.ref z4) z1 Z.2.2), (z1, cQ cJ z2 z3), (z2, cA4 cI Z.1), (z3, cA4 cI Z.2.1), (z4, cL b)] ([(a0, cF a1 a2 a3 a4 a5 a6 X.2.2.2.2.2.2), (a1, cS X.1), (a2, cS X.2.1), (a3, cB X.2.2.1), (a4, cB X.2.2.2.1), (a5, cB X.2.2.2.2.1), (a6, cB X.2.2.2.2.2.1), (z0, cZ (.ref z4) z1 Z.2.2), (z1, cQ cJ z2 z3), (z2, cA4 cI Z.1), (z3, cA4 cI Z.2.1), (z4, cL b)]) rfl rfl rfl rfl (by decide) [a0, a1, a2, a3, a4, a5, a6] rfl rfl rfl rfl 0 2 rfl rfl rfl (Nat.le_of_ble_eq_true rfl) ⟨Nat.le_of_ble_eq_true rfl, Nat.le_of_ble_eq_true rfl⟩ rfl dX4_isSame_46 ?_
  refine k_aload_n C dX4_isSame_49 2 rfl ?_
  refine k_getX4 C 7 4 rfl (by decide) rfl q428 rfl dX4_isSame_50 ?_
  refine k_iload_n C dX4_isSame_53 1 rfl ?_
  refine k_aald C 8 rfl vi2_0 (fq_l0 _ _) dX4_isSame_54 ?_
  refine k_iload_n C dX4_isSame_55 0 rfl ?_
  refine k_iald C 9 rfl vi4_3 (ar4_l3 _) dX4_isSame_56 ?_
  refine k_icmp_eq C 62 (by decide) dX4_isSame_57 (fun _ => ?_) (fun h => absurd h57''' h)
  refine k_iinc C 4 [(3, .int 4), (2, .int 0), (0, .ref z0), (1, .ref a0)] 0 rfl (by decide) (by decide) rfl dX4_isSame_62 ?_
  refine k_goto C 38 (by decide) dX4_isSame_65 ?_
  refine k_iload_n C dX4_isSame_38 0 rfl ?_
  refine k_iconst C 4 (by decide) dX4_isSame_39 ?_
  refine k_icmp_ge C 68 (by decide) dX4_isSame_40 (fun _ => ?_) (fun h => absurd (by decide) h)
  refine k_iinc C 1 [(2, .int 1), (3, .int 4), (0, .ref z0), (1, .ref a0)] 1 rfl (by decide) (by decide) rfl dX4_isSame_68 ?_
  refine k_goto C 31 (by decide) dX4_isSame_71 ?_
  refine k_iload_n C dX4_isSame_31 0 rfl ?_
  refine k_iconst C 2 (by decide) dX4_isSame_32 ?_
  refine k_icmp_ge C 74 (by decide) dX4_isSame_33 (fun h => absurd h (by decide)) (fun _ => ?_)
  refine k_iconst C 0 (by decide) dX4_isSame_36 ?_
  refine k_istore_n C [(3, .int 0), (2, .int 1), (0, .ref z0), (1, .ref a0)] (by decide) rfl dX4_isSame_37 ?_
  refine k_iload_n C dX4_isSame_38 0 rfl ?_
  refine k_iconst C 4 (by decide) dX4_isSame_39 ?_
  refine k_icmp_ge C 68 (by decide) dX4_isSame_40 (fun h => absurd h (by decide)) (fun _ => ?_)
  refine k_aload_n C dX4_isSame_43 3 rfl ?_
  refine k_iload_n C dX4_isSame_44 1 rfl ?_
  refine k_iload_n C dX4_isSame_45 0 rfl ?_
  refine k_callV_i C (mX2_told_10 l D cI cJ a0 a1 a2 a3 a4 a5 a6 X) (cwV 2 C.2.2.2.2.1 (kGV q480 q245 q246 q35 q247) rfl rfl rfl ⟨rfl, hdX2_told⟩ ⟨Nat.le_of_ble_eq_true rfl, Nat.le_of_ble_eq_true rfl⟩) [0, 1, 2, 3, 4, 5, 6] [7, 8, 9, 10, 11] [5, 6, 7, 8, 9, 10, 11, 0, 1, 2, 3, 4] [(z0, cZ (.ref z4) z1 Z.2.2), (z1, cQ cJ z2 z3), (z2, cA4 cI Z.1), (z3, cA4 cI Z.2.1), (z4, cL b)] ([(a0, cF a1 a2 a3 a4 a5 a6 X.2.2.2.2.2.2), (a1, cS X.1), (a2, cS X.2.1), (a3, cB X.2.2.1), (a4, cB X.2.2.2.1), (a5, cB X.2.2.2.2.1), (a6, cB X.2.2.2.2.2.1), (z0, cZ (.ref z4) z1 Z.2.2), (z1, cQ cJ z2 z3), (z2, cA4 cI Z.1), (z3, cA4 cI Z.2.1), (z4, cL b)]) rfl rfl rfl rfl (by decide) [a0, a1, a2, a3, a4, a5, a6] rfl rfl rfl rfl 0 2 rfl rfl rfl (Nat.le_of_ble_eq_true rfl) ⟨Nat.le_of_ble_eq_true rfl, Nat.le_of_ble_eq_true rfl⟩ rfl dX4_isSame_46 ?_
  refine k_aload_n C dX4_isSame_49 2 rfl ?_
  refine k_getX4 C 7 4 rfl (by decide) rfl q428 rfl dX4_isSame_50 ?_
  refine k_iload_n C dX4_isSame_53 1 rfl ?_
  refine k_aald C 8 rfl vi2_1 (fq_l1 _ _) dX4_isSame_54 ?_
  refine k_iload_n C dX4_isSame_55 0 rfl ?_
  refine k_iald C 10 rfl vi4_0 (ar4_l0 _) dX4_isSame_56 ?_
  refine k_icmp_eq C 62 (by decide) dX4_isSame_57 (fun _ => ?_) (fun h => absurd h57'''' h)
  refine k_iinc C 1 [(3, .int 1), (2, .int 1), (0, .ref z0), (1, .ref a0)] 0 rfl (by decide) (by decide) rfl dX4_isSame_62 ?_
  refine k_goto C 38 (by decide) dX4_isSame_65 ?_
  refine k_iload_n C dX4_isSame_38 0 rfl ?_
  refine k_iconst C 4 (by decide) dX4_isSame_39 ?_
  refine k_icmp_ge C 68 (by decide) dX4_isSame_40 (fun h => absurd h (by decide)) (fun _ => ?_)
  refine k_aload_n C dX4_isSame_43 3 rfl ?_
  refine k_iload_n C dX4_isSame_44 1 rfl ?_
  refine k_iload_n C dX4_isSame_45 0 rfl ?_
  refine k_callV_i C (mX2_told_11 l D cI cJ a0 a1 a2 a3 a4 a5 a6 X) (cwV 2 C.2.2.2.2.1 (kGV q480 q245 q246 q35 q247) rfl rfl rfl ⟨rfl, hdX2_told⟩ ⟨Nat.le_of_ble_eq_true rfl, Nat.le_of_ble_eq_true rfl⟩) [0, 1, 2, 3, 4, 5, 6] [7, 8, 9, 10, 11] [5, 6, 7, 8, 9, 10, 11, 0, 1, 2, 3, 4] [(z0, cZ (.ref z4) z1 Z.2.2), (z1, cQ cJ z2 z3), (z2, cA4 cI Z.1), (z3, cA4 cI Z.2.1), (z4, cL b)] ([(a0, cF a1 a2 a3 a4 a5 a6 X.2.2.2.2.2.2), (a1, cS X.1), (a2, cS X.2.1), (a3, cB X.2.2.1), (a4, cB X.2.2.2.1), (a5, cB X.2.2.2.2.1), (a6, cB X.2.2.2.2.2.1), (z0, cZ (.ref z4) z1 Z.2.2), (z1, cQ cJ z2 z3), (z2, cA4 cI Z.1), (z3, cA4 cI Z.2.1), (z4, cL b)]) rfl rfl rfl rfl (by decide) [a0, a1, a2, a3, a4, a5, a6] rfl rfl rfl rfl 0 2 rfl rfl rfl (Nat.le_of_ble_eq_true rfl) ⟨Nat.le_of_ble_eq_true rfl, Nat.le_of_ble_eq_true rfl⟩ rfl dX4_isSame_46 ?_
  refine k_aload_n C dX4_isSame_49 2 rfl ?_
  refine k_getX4 C 7 4 rfl (by decide) rfl q428 rfl dX4_isSame_50 ?_
  refine k_iload_n C dX4_isSame_53 1 rfl ?_
  refine k_aald C 8 rfl vi2_1 (fq_l1 _ _) dX4_isSame_54 ?_
  refine k_iload_n C dX4_isSame_55 0 rfl ?_
  refine k_iald C 10 rfl vi4_1 (ar4_l1 _) dX4_isSame_56 ?_
  refine k_icmp_eq C 62 (by decide) dX4_isSame_57 (fun _ => ?_) (fun h => absurd h57''''' h)
  refine k_iinc C 2 [(3, .int 2), (2, .int 1), (0, .ref z0), (1, .ref a0)] 0 rfl (by decide) (by decide) rfl dX4_isSame_62 ?_
  refine k_goto C 38 (by decide) dX4_isSame_65 ?_
  refine k_iload_n C dX4_isSame_38 0 rfl ?_
  refine k_iconst C 4 (by decide) dX4_isSame_39 ?_
  refine k_icmp_ge C 68 (by decide) dX4_isSame_40 (fun h => absurd h (by decide)) (fun _ => ?_)
  refine k_aload_n C dX4_isSame_43 3 rfl ?_
  refine k_iload_n C dX4_isSame_44 1 rfl ?_
  refine k_iload_n C dX4_isSame_45 0 rfl ?_
  refine k_callV_i C (mX2_told_12 l D cI cJ a0 a1 a2 a3 a4 a5 a6 X) (cwV 2 C.2.2.2.2.1 (kGV q480 q245 q246 q35 q247) rfl rfl rfl ⟨rfl, hdX2_told⟩ ⟨Nat.le_of_ble_eq_true rfl, Nat.le_of_ble_eq_true rfl⟩) [0, 1, 2, 3, 4, 5, 6] [7, 8, 9, 10, 11] [5, 6, 7, 8, 9, 10, 11, 0, 1, 2, 3, 4] [(z0, cZ (.ref z4) z1 Z.2.2), (z1, cQ cJ z2 z3), (z2, cA4 cI Z.1), (z3, cA4 cI Z.2.1), (z4, cL b)] ([(a0, cF a1 a2 a3 a4 a5 a6 X.2.2.2.2.2.2), (a1, cS X.1), (a2, cS X.2.1), (a3, cB X.2.2.1), (a4, cB X.2.2.2.1), (a5, cB X.2.2.2.2.1), (a6, cB X.2.2.2.2.2.1), (z0, cZ (.ref z4) z1 Z.2.2), (z1, cQ cJ z2 z3), (z2, cA4 cI Z.1), (z3, cA4 cI Z.2.1), (z4, cL b)]) rfl rfl rfl rfl (by decide) [a0, a1, a2, a3, a4, a5, a6] rfl rfl rfl rfl 0 2 rfl rfl rfl (Nat.le_of_ble_eq_true rfl) ⟨Nat.le_of_ble_eq_true rfl, Nat.le_of_ble_eq_true rfl⟩ rfl dX4_isSame_46 ?_
  refine k_aload_n C dX4_isSame_49 2 rfl ?_
  refine k_getX4 C 7 4 rfl (by decide) rfl q428 rfl dX4_isSame_50 ?_
  refine k_iload_n C dX4_isSame_53 1 rfl ?_
  refine k_aald C 8 rfl vi2_1 (fq_l1 _ _) dX4_isSame_54 ?_
  refine k_iload_n C dX4_isSame_55 0 rfl ?_
  refine k_iald C 10 rfl vi4_2 (ar4_l2 _) dX4_isSame_56 ?_
  refine k_icmp_eq C 62 (by decide) dX4_isSame_57 (fun _ => ?_) (fun h => absurd h57'''''' h)
  refine k_iinc C 3 [(3, .int 3), (2, .int 1), (0, .ref z0), (1, .ref a0)] 0 rfl (by decide) (by decide) rfl dX4_isSame_62 ?_
  refine k_goto C 38 (by decide) dX4_isSame_65 ?_
  refine k_iload_n C dX4_isSame_38 0 rfl ?_
  refine k_iconst C 4 (by decide) dX4_isSame_39 ?_
  refine k_icmp_ge C 68 (by decide) dX4_isSame_40 (fun h => absurd h (by decide)) (fun _ => ?_)
  refine k_aload_n C dX4_isSame_43 3 rfl ?_
  refine k_iload_n C dX4_isSame_44 1 rfl ?_
  refine k_iload_n C dX4_isSame_45 0 rfl ?_
  refine k_callV_i C (mX2_told_13 l D cI cJ a0 a1 a2 a3 a4 a5 a6 X) (cwV 2 C.2.2.2.2.1 (kGV q480 q245 q246 q35 q247) rfl rfl rfl ⟨rfl, hdX2_told⟩ ⟨Nat.le_of_ble_eq_true rfl, Nat.le_of_ble_eq_true rfl⟩) [0, 1, 2, 3, 4, 5, 6] [7, 8, 9, 10, 11] [5, 6, 7, 8, 9, 10, 11, 0, 1, 2, 3, 4] [(z0, cZ (.ref z4) z1 Z.2.2), (z1, cQ cJ z2 z3), (z2, cA4 cI Z.1), (z3, cA4 cI Z.2.1), (z4, cL b)] ([(a0, cF a1 a2 a3 a4 a5 a6 X.2.2.2.2.2.2), (a1, cS X.1), (a2, cS X.2.1), (a3, cB X.2.2.1), (a4, cB X.2.2.2.1), (a5, cB X.2.2.2.2.1), (a6, cB X.2.2.2.2.2.1), (z0, cZ (.ref z4) z1 Z.2.2), (z1, cQ cJ z2 z3), (z2, cA4 cI Z.1), (z3, cA4 cI Z.2.1), (z4, cL b)]) rfl rfl rfl rfl (by decide) [a0, a1, a2, a3, a4, a5, a6] rfl rfl rfl rfl 0 2 rfl rfl rfl (Nat.le_of_ble_eq_true rfl) ⟨Nat.le_of_ble_eq_true rfl, Nat.le_of_ble_eq_true rfl⟩ rfl dX4_isSame_46 ?_
  refine k_aload_n C dX4_isSame_49 2 rfl ?_
  refine k_getX4 C 7 4 rfl (by decide) rfl q428 rfl dX4_isSame_50 ?_
  refine k_iload_n C dX4_isSame_53 1 rfl ?_
  refine k_aald C 8 rfl vi2_1 (fq_l1 _ _) dX4_isSame_54 ?_
  refine k_iload_n C dX4_isSame_55 0 rfl ?_
  refine k_iald C 10 rfl vi4_3 (ar4_l3 _) dX4_isSame_56 ?_
  refine k_icmp_eq C 62 (by decide) dX4_isSame_57 (fun _ => ?_) (fun h => absurd h57''''''' h)
  refine k_iinc C 4 [(3, .int 4), (2, .int 1), (0, .ref z0), (1, .ref a0)] 0 rfl (by decide) (by decide) rfl dX4_isSame_62 ?_
  refine k_goto C 38 (by decide) dX4_isSame_65 ?_
  refine k_iload_n C dX4_isSame_38 0 rfl ?_
  refine k_iconst C 4 (by decide) dX4_isSame_39 ?_
  refine k_icmp_ge C 68 (by decide) dX4_isSame_40 (fun _ => ?_) (fun h => absurd (by decide) h)
  refine k_iinc C 2 [(2, .int 2), (3, .int 4), (0, .ref z0), (1, .ref a0)] 1 rfl (by decide) (by decide) rfl dX4_isSame_68 ?_
  refine k_goto C 31 (by decide) dX4_isSame_71 ?_
  refine k_iload_n C dX4_isSame_31 0 rfl ?_
  refine k_iconst C 2 (by decide) dX4_isSame_32 ?_
  refine k_icmp_ge C 74 (by decide) dX4_isSame_33 (fun _ => ?_) (fun h => absurd (by decide) h)
  refine k_iconst C 0 (by decide) dX4_isSame_74 ?_
  refine k_istore_n C [(2, .int 0), (3, .int 4), (0, .ref z0), (1, .ref a0)] (by decide) rfl dX4_isSame_75 ?_
  refine k_iload_n C dX4_isSame_76 0 rfl ?_
  refine k_bipush C 6 (by decide) dX4_isSame_77 ?_
  refine k_icmp_ge C 117 (by decide) dX4_isSame_79 (fun h => absurd h (by decide)) (fun _ => ?_)
  refine k_aload_n C dX4_isSame_82 3 rfl ?_
  refine k_iload_n C dX4_isSame_83 0 rfl ?_
  refine k_callV_i C (mX2_ball_0 l D cI cJ a0 a1 a2 a3 a4 a5 a6 X) (cwV 1 C.2.2.2.2.1 (kGV q481 q169 q170 q35 q171) rfl rfl rfl ⟨rfl, hdX2_ball⟩ ⟨Nat.le_of_ble_eq_true rfl, Nat.le_of_ble_eq_true rfl⟩) [0, 1, 2, 3, 4, 5, 6] [7, 8, 9, 10, 11] [5, 6, 7, 8, 9, 10, 11, 0, 1, 2, 3, 4] [(z0, cZ (.ref z4) z1 Z.2.2), (z1, cQ cJ z2 z3), (z2, cA4 cI Z.1), (z3, cA4 cI Z.2.1), (z4, cL b)] ([(a0, cF a1 a2 a3 a4 a5 a6 X.2.2.2.2.2.2), (a1, cS X.1), (a2, cS X.2.1), (a3, cB X.2.2.1), (a4, cB X.2.2.2.1), (a5, cB X.2.2.2.2.1), (a6, cB X.2.2.2.2.2.1), (z0, cZ (.ref z4) z1 Z.2.2), (z1, cQ cJ z2 z3), (z2, cA4 cI Z.1), (z3, cA4 cI Z.2.1), (z4, cL b)]) rfl rfl rfl rfl (by decide) [a0, a1, a2, a3, a4, a5, a6] rfl rfl rfl rfl 0 2 rfl rfl rfl (Nat.le_of_ble_eq_true rfl) ⟨Nat.le_of_ble_eq_true rfl, Nat.le_of_ble_eq_true rfl⟩ rfl dX4_isSame_84 ?_
  refine k_aload_n C dX4_isSame_87 2 rfl ?_
  refine k_getX4 C 7 3 rfl (by decide) rfl q426 rfl dX4_isSame_88 ?_
  refine k_ifnonnull C 98 (by decide) dX4_isSame_91 ?_
  refine k_aload_n C dX4_isSame_98 2 rfl ?_
  refine k_getX4 C 7 3 rfl (by decide) rfl q426 rfl dX4_isSame_99 ?_
  refine k_iload_n C dX4_isSame_102 0 rfl ?_
  refine k_callGV_i C (mX3_told_0 l D cI cJ z4 b) (cwV 1 C.2.2.2.2.1 (kGV q482 q483 q484 q47 q485) rfl rfl rfl ⟨rfl, hdX3_told⟩ ⟨Nat.le_of_ble_eq_true rfl, Nat.le_of_ble_eq_true rfl⟩) [11] [0, 1, 2, 3, 4, 5, 6, 7, 8, 9, 10] [(a0, cF a1 a2 a3 a4 a5 a6 X.2.2.2.2.2.2), (a1, cS X.1), (a2, cS X.2.1), (a3, cB X.2.2.1), (a4, cB X.2.2.2.1), (a5, cB X.2.2.2.2.1), (a6, cB X.2.2.2.2.2.1), (z0, cZ (.ref z4) z1 Z.2.2), (z1, cQ cJ z2 z3), (z2, cA4 cI Z.1), (z3, cA4 cI Z.2.1)] rfl rfl rfl rfl (by decide) 11 3 rfl rfl rfl (Nat.le_of_ble_eq_true rfl) ⟨Nat.le_of_ble_eq_true rfl, Nat.le_of_ble_eq_true rfl⟩ rfl dX4_isSame_103 (fun r28 U29 h30 => ?_)
  obtain ⟨rfl, rfl⟩ := h30
  refine k_wsub (w' := [(a0, cF a1 a2 a3 a4 a5 a6 X.2.2.2.2.2.2), (a1, cS X.1), (a2, cS X.2.1), (a3, cB X.2.2.1), (a4, cB X.2.2.2.1), (a5, cB X.2.2.2.2.1), (a6, cB X.2.2.2.2.2.1), (z0, cZ (.ref z4) z1 Z.2.2), (z1, cQ cJ z2 z3), (z2, cA4 cI Z.1), (z3, cA4 cI Z.2.1), (z4, cL b)]) [0, 1, 2, 3, 4, 5, 6, 7, 8, 9, 10, 11] rfl rfl ?_
  refine k_icmp_eq C 111 (by decide) dX4_isSame_106 (fun _ => ?_) (fun h => absurd h106 h)
  refine k_iinc C 1 [(2, .int 1), (3, .int 4), (0, .ref z0), (1, .ref a0)] 0 rfl (by decide) (by decide) rfl dX4_isSame_111 ?_
  refine k_goto C 76 (by decide) dX4_isSame_114 ?_
  refine k_iload_n C dX4_isSame_76 0 rfl ?_
  refine k_bipush C 6 (by decide) dX4_isSame_77 ?_
  refine k_icmp_ge C 117 (by decide) dX4_isSame_79 (fun h => absurd h (by decide)) (fun _ => ?_)
  refine k_aload_n C dX4_isSame_82 3 rfl ?_
  refine k_iload_n C dX4_isSame_83 0 rfl ?_
  refine k_callV_i C (mX2_ball_1 l D cI cJ a0 a1 a2 a3 a4 a5 a6 X) (cwV 1 C.2.2.2.2.1 (kGV q481 q169 q170 q35 q171) rfl rfl rfl ⟨rfl, hdX2_ball⟩ ⟨Nat.le_of_ble_eq_true rfl, Nat.le_of_ble_eq_true rfl⟩) [0, 1, 2, 3, 4, 5, 6] [7, 8, 9, 10, 11] [5, 6, 7, 8, 9, 10, 11, 0, 1, 2, 3, 4] [(z0, cZ (.ref z4) z1 Z.2.2), (z1, cQ cJ z2 z3), (z2, cA4 cI Z.1), (z3, cA4 cI Z.2.1), (z4, cL b)] ([(a0, cF a1 a2 a3 a4 a5 a6 X.2.2.2.2.2.2), (a1, cS X.1), (a2, cS X.2.1), (a3, cB X.2.2.1), (a4, cB X.2.2.2.1), (a5, cB X.2.2.2.2.1), (a6, cB X.2.2.2.2.2.1), (z0, cZ (.ref z4) z1 Z.2.2), (z1, cQ cJ z2 z3), (z2, cA4 cI Z.1), (z3, cA4 cI Z.2.1), (z4, cL b)]) rfl rfl rfl rfl (by decide) [a0, a1, a2, a3, a4, a5, a6] rfl rfl rfl rfl 0 2 rfl rfl rfl (Nat.le_of_ble_eq_true rfl) ⟨Nat.le_of_ble_eq_true rfl, Nat.le_of_ble_eq_true rfl⟩ rfl dX4_isSame_84 ?_
  refine k_aload_n C dX4_isSame_87 2 rfl ?_
  refine k_getX4 C 7 3 rfl (by decide) rfl q426 rfl dX4_isSame_88 ?_
  refine k_ifnonnull C 98 (by decide) dX4_isSame_91 ?_
  refine k_aload_n C dX4_isSame_98 2 rfl ?_
  refine k_getX4 C 7 3 rfl (by decide) rfl q426 rfl dX4_isSame_99 ?_
  refine k_iload_n C dX4_isSame_102 0 rfl ?_
  refine k_callGV_i C (mX3_told_1 l D cI cJ z4 b) (cwV 1 C.2.2.2.2.1 (kGV q482 q483 q484 q47 q485) rfl rfl rfl ⟨rfl, hdX3_told⟩ ⟨Nat.le_of_ble_eq_true rfl, Nat.le_of_ble_eq_true rfl⟩) [11] [0, 1, 2, 3, 4, 5, 6, 7, 8, 9, 10] [(a0, cF a1 a2 a3 a4 a5 a6 X.2.2.2.2.2.2), (a1, cS X.1), (a2, cS X.2.1), (a3, cB X.2.2.1), (a4, cB X.2.2.2.1), (a5, cB X.2.2.2.2.1), (a6, cB X.2.2.2.2.2.1), (z0, cZ (.ref z4) z1 Z.2.2), (z1, cQ cJ z2 z3), (z2, cA4 cI Z.1), (z3, cA4 cI Z.2.1)] rfl rfl rfl rfl (by decide) 11 3 rfl rfl rfl (Nat.le_of_ble_eq_true rfl) ⟨Nat.le_of_ble_eq_true rfl, Nat.le_of_ble_eq_true rfl⟩ rfl dX4_isSame_103 (fun r31 U32 h33 => ?_)
  obtain ⟨rfl, rfl⟩ := h33
  refine k_wsub (w' := [(a0, cF a1 a2 a3 a4 a5 a6 X.2.2.2.2.2.2), (a1, cS X.1), (a2, cS X.2.1), (a3, cB X.2.2.1), (a4, cB X.2.2.2.1), (a5, cB X.2.2.2.2.1), (a6, cB X.2.2.2.2.2.1), (z0, cZ (.ref z4) z1 Z.2.2), (z1, cQ cJ z2 z3), (z2, cA4 cI Z.1), (z3, cA4 cI Z.2.1), (z4, cL b)]) [0, 1, 2, 3, 4, 5, 6, 7, 8, 9, 10, 11] rfl rfl ?_
  refine k_icmp_eq C 111 (by decide) dX4_isSame_106 (fun _ => ?_) (fun h => absurd h106' h)
  refine k_iinc C 2 [(2, .int 2), (3, .int 4), (0, .ref z0), (1, .ref a0)] 0 rfl (by decide) (by decide) rfl dX4_isSame_111 ?_
  refine k_goto C 76 (by decide) dX4_isSame_114 ?_
  refine k_iload_n C dX4_isSame_76 0 rfl ?_
  refine k_bipush C 6 (by decide) dX4_isSame_77 ?_
  refine k_icmp_ge C 117 (by decide) dX4_isSame_79 (fun h => absurd h (by decide)) (fun _ => ?_)
  refine k_aload_n C dX4_isSame_82 3 rfl ?_
  refine k_iload_n C dX4_isSame_83 0 rfl ?_
  refine k_callV_i C (mX2_ball_2 l D cI cJ a0 a1 a2 a3 a4 a5 a6 X) (cwV 1 C.2.2.2.2.1 (kGV q481 q169 q170 q35 q171) rfl rfl rfl ⟨rfl, hdX2_ball⟩ ⟨Nat.le_of_ble_eq_true rfl, Nat.le_of_ble_eq_true rfl⟩) [0, 1, 2, 3, 4, 5, 6] [7, 8, 9, 10, 11] [5, 6, 7, 8, 9, 10, 11, 0, 1, 2, 3, 4] [(z0, cZ (.ref z4) z1 Z.2.2), (z1, cQ cJ z2 z3), (z2, cA4 cI Z.1), (z3, cA4 cI Z.2.1), (z4, cL b)] ([(a0, cF a1 a2 a3 a4 a5 a6 X.2.2.2.2.2.2), (a1, cS X.1), (a2, cS X.2.1), (a3, cB X.2.2.1), (a4, cB X.2.2.2.1), (a5, cB X.2.2.2.2.1), (a6, cB X.2.2.2.2.2.1), (z0, cZ (.ref z4) z1 Z.2.2), (z1, cQ cJ z2 z3), (z2, cA4 cI Z.1), (z3, cA4 cI Z.2.1), (z4, cL b)]) rfl rfl rfl rfl (by decide) [a0, a1, a2, a3, a4, a5, a6] rfl rfl rfl rfl 0 2 rfl rfl rfl (Nat.le_of_ble_eq_true rfl) ⟨Nat.le_of_ble_eq_true rfl, Nat.le_of_ble_eq_true rfl⟩ rfl dX4_isSame_84 ?_
  refine k_aload_n C dX4_isSame_87 2 rfl ?_
  refine k_getX4 C 7 3 rfl (by decide) rfl q426 rfl dX4_isSame_88 ?_
  refine k_ifnonnull C 98 (by decide) dX4_isSame_91 ?_
  refine k_aload_n C dX4_isSame_98 2 rfl ?_
  refine k_getX4 C 7 3 rfl (by decide) rfl q426 rfl dX4_isSame_99 ?_
  refine k_iload_n C dX4_isSame_102 0 rfl ?_
  refine k_callGV_i C (mX3_told_2 l D cI cJ z4 b) (cwV 1 C.2.2.2.2.1 (kGV q482 q483 q484 q47 q485) rfl rfl rfl ⟨rfl, hdX3_told⟩ ⟨Nat.le_of_ble_eq_true rfl, Nat.le_of_ble_eq_true rfl⟩) [11] [0, 1, 2, 3, 4, 5, 6, 7, 8, 9, 10] [(a0, cF a1 a2 a3 a4 a5 a6 X.2.2.2.2.2.2), (a1, cS X.1), (a2, cS X.2.1), (a3, cB X.2.2.1), (a4, cB X.2.2.2.1), (a5, cB X.2.2.2.2.1), (a6, cB X.2.2.2.2.2.1), (z0, cZ (.ref z4) z1 Z.2.2), (z1, cQ cJ z2 z3), (z2, cA4 cI Z.1), (z3, cA4 cI Z.2.1)] rfl rfl rfl rfl (by decide) 11 3 rfl rfl rfl (Nat.le_of_ble_eq_true rfl) ⟨Nat.le_of_ble_eq_true rfl, Nat.le_of_ble_eq_true rfl⟩ rfl dX4_isSame_103 (fun r34 U35 h36 => ?_)
  obtain ⟨rfl, rfl⟩ := h36
  refine k_wsub (w' := [(a0, cF a1 a2 a3 a4 a5 a6 X.2.2.2.2.2.2), (a1, cS X.1), (a2, cS X.2.1), (a3, cB X.2.2.1), (a4, cB X.2.2.2.1), (a5, cB X.2.2.2.2.1), (a6, cB X.2.2.2.2.2.1), (z0, cZ (.ref z4) z1 Z.2.2), (z1, cQ cJ z2 z3), (z2, cA4 cI Z.1), (z3, cA4 cI Z.2.1), (z4, cL b)]) [0, 1, 2, 3, 4, 5, 6, 7, 8, 9, 10, 11] rfl rfl ?_
  refine k_icmp_eq C 111 (by decide) dX4_isSame_106 (fun _ => ?_) (fun h => absurd h106'' h)
  refine k_iinc C 3 [(2, .int 3), (3, .int 4), (0, .ref z0), (1, .ref a0)] 0 rfl (by decide) (by decide) rfl dX4_isSame_111 ?_
  refine k_goto C 76 (by decide) dX4_isSame_114 ?_
  refine k_iload_n C dX4_isSame_76 0 rfl ?_
  refine k_bipush C 6 (by decide) dX4_isSame_77 ?_
  refine k_icmp_ge C 117 (by decide) dX4_isSame_79 (fun h => absurd h (by decide)) (fun _ => ?_)
  refine k_aload_n C dX4_isSame_82 3 rfl ?_
  refine k_iload_n C dX4_isSame_83 0 rfl ?_
  refine k_callV_i C (mX2_ball_3 l D cI cJ a0 a1 a2 a3 a4 a5 a6 X) (cwV 1 C.2.2.2.2.1 (kGV q481 q169 q170 q35 q171) rfl rfl rfl ⟨rfl, hdX2_ball⟩ ⟨Nat.le_of_ble_eq_true rfl, Nat.le_of_ble_eq_true rfl⟩) [0, 1, 2, 3, 4, 5, 6] [7, 8, 9, 10, 11] [5, 6, 7, 8, 9, 10, 11, 0, 1, 2, 3, 4] [(z0, cZ (.ref z4) z1 Z.2.2), (z1, cQ cJ z2 z3), (z2, cA4 cI Z.1), (z3, cA4 cI Z.2.1), (z4, cL b)] ([(a0, cF a1 a2 a3 a4 a5 a6 X.2.2.2.2.2.2), (a1, cS X.1), (a2, cS X.2.1), (a3, cB X.2.2.1), (a4, cB X.2.2.2.1), (a5, cB X.2.2.2.2.1), (a6, cB X.2.2.2.2.2.1), (z0, cZ (.ref z4) z1 Z.2.2), (z1, cQ cJ z2 z3), (z2, cA4 cI Z.1), (z3, cA4 cI Z.2.1), (z4, cL b)]) rfl rfl rfl rfl (by decide) [a0, a1, a2, a3, a4, a5, a6] rfl rfl rfl rfl 0 2 rfl rfl rfl (Nat.le_of_ble_eq_true rfl) ⟨Nat.le_of_ble_eq_true rfl, Nat.le_of_ble_eq_true rfl⟩ rfl dX4_isSame_84 ?_
  refine k_aload_n C dX4_isSame_87 2 rfl ?_
  refine k_getX4 C 7 3 rfl (by decide) rfl q426 rfl dX4_isSame_88 ?_
  refine k_ifnonnull C 98 (by decide) dX4_isSame_91 ?_
  refine k_aload_n C dX4_isSame_98 2 rfl ?_
  refine k_getX4 C 7 3 rfl (by decide) rfl q426 rfl dX4_isSame_99 ?_
  refine k_iload_n C dX4_isSame_102 0 rfl ?_
  refine k_callGV_i C (mX3_told_3 l D cI cJ z4 b) (cwV 1 C.2.2.2.2.1 (kGV q482 q483 q484 q47 q485) rfl rfl rfl ⟨rfl, hdX3_told⟩ ⟨Nat.le_of_ble_eq_true rfl, Nat.le_of_ble_eq_true rfl⟩) [11] [0, 1, 2, 3, 4, 5, 6, 7, 8, 9, 10] [(a0, cF a1 a2 a3 a4 a5 a6 X.2.2.2.2.2.2), (a1, cS X.1), (a2, cS X.2.1), (a3, cB X.2.2.1), (a4, cB X.2.2.2.1), (a5, cB X.2.2.2.2.1), (a6, cB X.2.2.2.2.2.1), (z0, cZ (.ref z4) z1 Z.2.2), (z1, cQ cJ z2 z3), (z2, cA4 cI Z.1), (z3, cA4 cI Z.2.1)] rfl rfl rfl rfl (by decide) 11 3 rfl rfl rfl (Nat.le_of_ble_eq_true rfl) ⟨Nat.le_of_ble_eq_true rfl, Nat.le_of_ble_eq_true rfl⟩ rfl dX4_isSame_103 (fun r37 U38 h39 => ?_)
  obtain ⟨rfl, rfl⟩ := h39
  refine k_wsub (w' := [(a0, cF a1 a2 a3 a4 a5 a6 X.2.2.2.2.2.2), (a1, cS X.1), (a2, cS X.2.1), (a3, cB X.2.2.1), (a4, cB X.2.2.2.1), (a5, cB X.2.2.2.2.1), (a6, cB X.2.2.2.2.2.1), (z0, cZ (.ref z4) z1 Z.2.2), (z1, cQ cJ z2 z3), (z2, cA4 cI Z.1), (z3, cA4 cI Z.2.1), (z4, cL b)]) [0, 1, 2, 3, 4, 5, 6, 7, 8, 9, 10, 11] rfl rfl ?_
  refine k_icmp_eq C 111 (by decide) dX4_isSame_106 (fun _ => ?_) (fun h => absurd h106''' h)
  refine k_iinc C 4 [(2, .int 4), (3, .int 4), (0, .ref z0), (1, .ref a0)] 0 rfl (by decide) (by decide) rfl dX4_isSame_111 ?_
  refine k_goto C 76 (by decide) dX4_isSame_114 ?_
  refine k_iload_n C dX4_isSame_76 0 rfl ?_
  refine k_bipush C 6 (by decide) dX4_isSame_77 ?_
  refine k_icmp_ge C 117 (by decide) dX4_isSame_79 (fun h => absurd h (by decide)) (fun _ => ?_)
  refine k_aload_n C dX4_isSame_82 3 rfl ?_
  refine k_iload_n C dX4_isSame_83 0 rfl ?_
  refine k_callV_i C (mX2_ball_4 l D cI cJ a0 a1 a2 a3 a4 a5 a6 X) (cwV 1 C.2.2.2.2.1 (kGV q481 q169 q170 q35 q171) rfl rfl rfl ⟨rfl, hdX2_ball⟩ ⟨Nat.le_of_ble_eq_true rfl, Nat.le_of_ble_eq_true rfl⟩) [0, 1, 2, 3, 4, 5, 6] [7, 8, 9, 10, 11] [5, 6, 7, 8, 9, 10, 11, 0, 1, 2, 3, 4] [(z0, cZ (.ref z4) z1 Z.2.2), (z1, cQ cJ z2 z3), (z2, cA4 cI Z.1), (z3, cA4 cI Z.2.1), (z4, cL b)] ([(a0, cF a1 a2 a3 a4 a5 a6 X.2.2.2.2.2.2), (a1, cS X.1), (a2, cS X.2.1), (a3, cB X.2.2.1), (a4, cB X.2.2.2.1), (a5, cB X.2.2.2.2.1), (a6, cB X.2.2.2.2.2.1), (z0, cZ (.ref z4) z1 Z.2.2), (z1, cQ cJ z2 z3), (z2, cA4 cI Z.1), (z3, cA4 cI Z.2.1), (z4, cL b)]) rfl rfl rfl rfl (by decide) [a0, a1, a2, a3, a4, a5, a6] rfl rfl rfl rfl 0 2 rfl rfl rfl (Nat.le_of_ble_eq_true rfl) ⟨Nat.le_of_ble_eq_true rfl, Nat.le_of_ble_eq_true rfl⟩ rfl dX4_isSame_84 ?_
  refine k_aload_n C dX4_isSame_87 2 rfl ?_
  refine k_getX4 C 7 3 rfl (by decide) rfl q426 rfl dX4_isSame_88 ?_
  refine k_ifnonnull C 98 (by decide) dX4_isSame_91 ?_
  refine k_aload_n C dX4_isSame_98 2 rfl ?_
  refine k_getX4 C 7 3 rfl (by decide) rfl q426 rfl dX4_isSame_99 ?_
  refine k_iload_n C dX4_isSame_102 0 rfl ?_
  refine k_callGV_i C (mX3_told_4 l D cI cJ z4 b) (cwV 1 C.2.2.2.2.1 (kGV q482 q483 q484 q47 q485) rfl rfl rfl ⟨rfl, hdX3_told⟩ ⟨Nat.le_of_ble_eq_true rfl, Nat.le_of_ble_eq_true rfl⟩) [11] [0, 1, 2, 3, 4, 5, 6, 7, 8, 9, 10] [(a0, cF a1 a2 a3 a4 a5 a6 X.2.2.2.2.2.2), (a1, cS X.1), (a2, cS X.2.1), (a3, cB X.2.2.1), (a4, cB X.2.2.2.1), (a5, cB X.2.2.2.2.1), (a6, cB X.2.2.2.2.2.1), (z0, cZ (.ref z4) z1 Z.2.2), (z1, cQ cJ z2 z3), (z2, cA4 cI Z.1), (z3, cA4 cI Z.2.1)] rfl rfl rfl rfl (by decide) 11 3 rfl rfl rfl (Nat.le_of_ble_eq_true rfl) ⟨Nat.le_of_ble_eq_true rfl, Nat.le_of_ble_eq_true rfl⟩ rfl dX4_isSame_103 (fun r40 U41 h42 => ?_)
  obtain ⟨rfl, rfl⟩ := h42
  refine k_wsub (w' := [(a0, cF a1 a2 a3 a4 a5 a6 X.2.2.2.2.2.2), (a1, cS X.1), (a2, cS X.2.1), (a3, cB X.2.2.1), (a4, cB X.2.2.2.1), (a5, cB X.2.2.2.2.1), (a6, cB X.2.2.2.2.2.1), (z0, cZ (.ref z4) z1 Z.2.2), (z1, cQ cJ z2 z3), (z2, cA4 cI Z.1), (z3, cA4 cI Z.2.1), (z4, cL b)]) [0, 1, 2, 3, 4, 5, 6, 7, 8, 9, 10, 11] rfl rfl ?_
  refine k_icmp_eq C 111 (by decide) dX4_isSame_106 (fun _ => ?_) (fun h => absurd h106'''' h)
  refine k_iinc C 5 [(2, .int 5), (3, .int 4), (0, .ref z0), (1, .ref a0)] 0 rfl (by decide) (by decide) rfl dX4_isSame_111 ?_
  refine k_goto C 76 (by decide) dX4_isSame_114 ?_
  refine k_iload_n C dX4_isSame_76 0 rfl ?_
  refine k_bipush C 6 (by decide) dX4_isSame_77 ?_
  refine k_icmp_ge C 117 (by decide) dX4_isSame_79 (fun h => absurd h (by decide)) (fun _ => ?_)
  refine k_aload_n C dX4_isSame_82 3 rfl ?_
  refine k_iload_n C dX4_isSame_83 0 rfl ?_
  refine k_callV_i C (mX2_ball_5 l D cI cJ a0 a1 a2 a3 a4 a5 a6 X) (cwV 1 C.2.2.2.2.1 (kGV q481 q169 q170 q35 q171) rfl rfl rfl ⟨rfl, hdX2_ball⟩ ⟨Nat.le_of_ble_eq_true rfl, Nat.le_of_ble_eq_true rfl⟩) [0, 1, 2, 3, 4, 5, 6] [7, 8, 9, 10, 11] [5, 6, 7, 8, 9, 10, 11, 0, 1, 2, 3, 4] [(z0, cZ (.ref z4) z1 Z.2.2), (z1, cQ cJ z2 z3), (z2, cA4 cI Z.1), (z3, cA4 cI Z.2.1), (z4, cL b)] ([(a0, cF a1 a2 a3 a4 a5 a6 X.2.2.2.2.2.2), (a1, cS X.1), (a2, cS X.2.1), (a3, cB X.2.2.1), (a4, cB X.2.2.2.1), (a5, cB X.2.2.2.2.1), (a6, cB X.2.2.2.2.2.1), (z0, cZ (.ref z4) z1 Z.2.2), (z1, cQ cJ z2 z3), (z2, cA4 cI Z.1), (z3, cA4 cI Z.2.1), (z4, cL b)]) rfl rfl rfl rfl (by decide) [a0, a1, a2, a3, a4, a5, a6] rfl rfl rfl rfl 0 2 rfl rfl rfl (Nat.le_of_ble_eq_true rfl) ⟨Nat.le_of_ble_eq_true rfl, Nat.le_of_ble_eq_true rfl⟩ rfl dX4_isSame_84 ?_
  refine k_aload_n C dX4_isSame_87 2 rfl ?_
  refine k_getX4 C 7 3 rfl (by decide) rfl q426 rfl dX4_isSame_88 ?_
  refine k_ifnonnull C 98 (by decide) dX4_isSame_91 ?_
  refine k_aload_n C dX4_isSame_98 2 rfl ?_
  refine k_getX4 C 7 3 rfl (by decide) rfl q426 rfl dX4_isSame_99 ?_
  refine k_iload_n C dX4_isSame_102 0 rfl ?_
  refine k_callGV_i C (mX3_told_5 l D cI cJ z4 b) (cwV 1 C.2.2.2.2.1 (kGV q482 q483 q484 q47 q485) rfl rfl rfl ⟨rfl, hdX3_told⟩ ⟨Nat.le_of_ble_eq_true rfl, Nat.le_of_ble_eq_true rfl⟩) [11] [0, 1, 2, 3, 4, 5, 6, 7, 8, 9, 10] [(a0, cF a1 a2 a3 a4 a5 a6 X.2.2.2.2.2.2), (a1, cS X.1), (a2, cS X.2.1), (a3, cB X.2.2.1), (a4, cB X.2.2.2.1), (a5, cB X.2.2.2.2.1), (a6, cB X.2.2.2.2.2.1), (z0, cZ (.ref z4) z1 Z.2.2), (z1, cQ cJ z2 z3), (z2, cA4 cI Z.1), (z3, cA4 cI Z.2.1)] rfl rfl rfl rfl (by decide) 11 3 rfl rfl rfl (Nat.le_of_ble_eq_true rfl) ⟨Nat.le_of_ble_eq_true rfl, Nat.le_of_ble_eq_true rfl⟩ rfl dX4_isSame_103 (fun r43 U44 h45 => ?_)
  obtain ⟨rfl, rfl⟩ := h45
  refine k_wsub (w' := [(a0, cF a1 a2 a3 a4 a5 a6 X.2.2.2.2.2.2), (a1, cS X.1), (a2, cS X.2.1), (a3, cB X.2.2.1), (a4, cB X.2.2.2.1), (a5, cB X.2.2.2.2.1), (a6, cB X.2.2.2.2.2.1), (z0, cZ (.ref z4) z1 Z.2.2), (z1, cQ cJ z2 z3), (z2, cA4 cI Z.1), (z3, cA4 cI Z.2.1), (z4, cL b)]) [0, 1, 2, 3, 4, 5, 6, 7, 8, 9, 10, 11] rfl rfl ?_
  refine k_icmp_eq C 111 (by decide) dX4_isSame_106 (fun _ => ?_) (fun h => absurd h106''''' h)
  refine k_iinc C 6 [(2, .int 6), (3, .int 4), (0, .ref z0), (1, .ref a0)] 0 rfl (by decide) (by decide) rfl dX4_isSame_111 ?_
  refine k_goto C 76 (by decide) dX4_isSame_114 ?_
  refine k_iload_n C dX4_isSame_76 0 rfl ?_
  refine k_bipush C 6 (by decide) dX4_isSame_77 ?_
  refine k_icmp_ge C 117 (by decide) dX4_isSame_79 (fun _ => ?_) (fun h => absurd (by decide) h)
  refine k_aload_n C dX4_isSame_117 3 rfl ?_
  refine k_callV_d C (mX2_meanN l D cI cJ a0 a1 a2 a3 a4 a5 a6 X (fun h => by rw [← hr, ← hs]; exact (hne (by rw [hr]; exact h)).1)) (cwV 0 C.2.2.2.2.1 (kGV q486 q487 q488 q35 q489) rfl rfl rfl ⟨rfl, hdX2_mean⟩ ⟨Nat.le_of_ble_eq_true rfl, Nat.le_of_ble_eq_true rfl⟩) [0, 1, 2, 3, 4, 5, 6] [7, 8, 9, 10, 11] [5, 6, 7, 8, 9, 10, 11, 0, 1, 2, 3, 4] [(z0, cZ (.ref z4) z1 Z.2.2), (z1, cQ cJ z2 z3), (z2, cA4 cI Z.1), (z3, cA4 cI Z.2.1), (z4, cL b)] [(a0, cF a1 a2 a3 a4 a5 a6 X.2.2.2.2.2.2), (a1, cS X.1), (a2, cS X.2.1), (a3, cB X.2.2.1), (a4, cB X.2.2.2.1), (a5, cB X.2.2.2.2.1), (a6, cB X.2.2.2.2.2.1), (z0, cZ (.ref z4) z1 Z.2.2), (z1, cQ cJ z2 z3), (z2, cA4 cI Z.1), (z3, cA4 cI Z.2.1), (z4, cL b)] rfl rfl rfl rfl (by decide) [a0, a1, a2, a3, a4, a5, a6] rfl rfl rfl rfl 0 2 rfl rfl rfl (Nat.le_of_ble_eq_true rfl) ⟨Nat.le_of_ble_eq_true rfl, Nat.le_of_ble_eq_true rfl⟩ rfl dX4_isSame_118 ?_
  refine k_aload_n C dX4_isSame_121 2 rfl ?_
  refine k_getX4 C 7 5 rfl (by decide) rfl q430 rfl dX4_isSame_122 ?_
  refine k_if_ne C 132 (by decide) dX4_isSame_125 (fun c1 => ?_) (fun c1 => ?_)
  ·
    refine k_aload_n C dX4_isSame_132 2 rfl ?_
    refine k_getX4 C 7 10 rfl (by decide) rfl q437 rfl dX4_isSame_133 ?_
    refine k_i2d C dX4_isSame_136 ?_
    refine k_aload_n C dX4_isSame_137 2 rfl ?_
    refine k_getX4 C 7 5 rfl (by decide) rfl q430 rfl dX4_isSame_138 ?_
    refine k_i2d C dX4_isSame_141 ?_
    refine k_ddivN C (hne c1).1 dX4_isSame_142 ?_
    refine k_dcmp C dX4_isSame_143 ?_
    refine k_if_ne C 151 (by decide) dX4_isSame_144 (fun h => absurd (by rw [show fMean X.2.2.2.2.2.2.2.2.2.2.2.1 X.2.2.2.2.2.2.2.2.2.2.2.2.1 = FP.ddiv (FP.i2d Z.2.2.2.2.2.2.2.2.2.2) (FP.i2d Z.2.2.2.2.2.1) from by unfold fMean; rw [← hr, ← hs, if_neg c1]]; exact (hne c1).2) h) (fun _ => ?_)
    refine k_iconst C 1 (by decide) dX4_isSame_147 ?_
    refine k_goto C 152 (by decide) dX4_isSame_148 ?_
    exact k_zretG C rfl rfl ⟨rfl, rfl⟩ dX4_isSame_152
  ·
    refine k_dconst0 C dX4_isSame_128 ?_
    refine k_goto C 143 (by decide) dX4_isSame_129 ?_
    refine k_dcmp C dX4_isSame_143 ?_
    refine k_if_ne C 151 (by decide) dX4_isSame_144 (fun h => absurd (by rw [show fMean X.2.2.2.2.2.2.2.2.2.2.2.1 X.2.2.2.2.2.2.2.2.2.2.2.2.1 = 0 from by unfold fMean; rw [← hr, if_pos c1]]; decide +kernel) h) (fun _ => ?_)
    refine k_iconst C 1 (by decide) dX4_isSame_147 ?_
    refine k_goto C 152 (by decide) dX4_isSame_148 ?_
    exact k_zretG C rfl rfl ⟨rfl, rfl⟩ dX4_isSame_152