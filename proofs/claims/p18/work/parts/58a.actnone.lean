/-! what the law does while no ball flies -/
theorem hdL_act : yL_act.cls ≠ "java/lang/invoke/MethodHandle" ∧ yL_act.cls ≠ "java/lang/invoke/VarHandle" ∧ (parseMethodDescriptor yL_act.desc).map (fun d => d.parameters.length) = some 3 := by decide +kernel
set_option maxHeartbeats 4000000 in
set_option maxRecDepth 100000 in
theorem act_n {p : Program} {l : Launch} {e : Env} {s : State} {m : MethodId} {args : Array Value} {below : List Frame} {meth : Method} {c : Code} {D : va_G} {cI cJ : ClassId} {A : Nat → Prop} {a0 a1 a2 a3 a4 a5 a6 z0 z1 z2 z3 : Nat} {X : Co} {Z : Zs} {x : Int32} (hl : l.stackTraces = false) (hTb : c.exceptionTable.toList = tableOf [(185, 212, 213, 68)]) (T : kTE A s s.heap) (C : kCx p s m args meth c RL cL_act 9 (some .boolean) D cI cJ A) {i : Nat} (hi : i < 512) (h : Rel i X Z none) {q0 q1 q2 : Int32} (hq : Stk q0 q1 q2) : kW p l e { frames := 7, cells := 4, slots := 40, locals := 220 } s m args below meth c D A 9 0 0 (MQ below (va_Qi (fun r W => r = 1 ∧ ∃ (X' : Co) (Z' : Zs) (β' : Option Lb) (U : va_W), W = wC a0 a1 a2 a3 a4 a5 a6 X' ++ U ∧ wSim cI cJ z0 Z' β' U ∧ Rel (i + 1) X' Z' β' ∧ Tr X X') (fun U t => va_D A U ∧ va_P D kCl U t.heap) A) args s 4 40 A) (wC a0 a1 a2 a3 a4 a5 a6 X ++ wZ cI cJ z0 z1 z2 z3 .null Z) 76 [(5, .int q2), (4, .int q1), (3, .int q0), (0, .ref a0), (1, .ref z0), (2, .int x)] [] := by
  refine k_aload_n C dL_act_76 4 rfl ?_
  refine k_getX4 C 7 3 rfl (by decide) rfl q427 rfl dL_act_77 ?_
  refine k_ifnonnullN C dL_act_80 ?_
  refine k_aload_n C dL_act_83 4 rfl ?_
  refine k_callV_i C (mX4_winner l D cI cJ z0 z1 z2 z3 .null Z) (cwV 0 C.2.2.2.2.1 (kGV q462 q463 q464 q38 q465) rfl rfl rfl ⟨rfl, hdX4_winner⟩ ⟨Nat.le_of_ble_eq_true rfl, Nat.le_of_ble_eq_true rfl⟩) [7, 8, 9, 10] [0, 1, 2, 3, 4, 5, 6] [0, 1, 2, 3, 4, 5, 6, 7, 8, 9, 10] [(a0, cF a1 a2 a3 a4 a5 a6 X.2.2.2.2.2.2), (a1, cS X.1), (a2, cS X.2.1), (a3, cB X.2.2.1), (a4, cB X.2.2.2.1), (a5, cB X.2.2.2.2.1), (a6, cB X.2.2.2.2.2.1)] ([(a0, cF a1 a2 a3 a4 a5 a6 X.2.2.2.2.2.2), (a1, cS X.1), (a2, cS X.2.1), (a3, cB X.2.2.1), (a4, cB X.2.2.2.1), (a5, cB X.2.2.2.2.1), (a6, cB X.2.2.2.2.2.1), (z0, cZ .null z1 Z.2.2), (z1, cQ cJ z2 z3), (z2, cA4 cI Z.1), (z3, cA4 cI Z.2.1)]) rfl rfl rfl rfl (by decide) [z0, z1, z2, z3] rfl rfl rfl rfl 7 4 rfl rfl rfl (Nat.le_of_ble_eq_true rfl) ⟨Nat.le_of_ble_eq_true rfl, Nat.le_of_ble_eq_true rfl⟩ rfl dL_act_84 ?_
  refine k_if_ge C 99 (by decide) dL_act_87 (fun c1 => ?_) (fun c1 => ?_)
  ·
    refine k_iload_n C dL_act_99 5 rfl ?_
    refine k_iconst C 4 (by decide) dL_act_100 ?_
    refine k_ishr C dL_act_101 ?_
    refine k_iconst C 2 (by decide) dL_act_102 ?_
    refine k_callS_i C (mL_below l D cI cJ (x >>> (4 &&& 31)) 2 (by decide)) (va_cwS 2 C.2.2.2.2.1 (kGS q553 q554 q34 q555) rfl rfl rfl hdL_below ⟨Nat.le_of_ble_eq_true rfl, Nat.le_of_ble_eq_true rfl⟩) [] [0, 1, 2, 3, 4, 5, 6, 7, 8, 9, 10] [0, 1, 2, 3, 4, 5, 6, 7, 8, 9, 10] [(a0, cF a1 a2 a3 a4 a5 a6 X.2.2.2.2.2.2), (a1, cS X.1), (a2, cS X.2.1), (a3, cB X.2.2.1), (a4, cB X.2.2.2.1), (a5, cB X.2.2.2.2.1), (a6, cB X.2.2.2.2.2.1), (z0, cZ .null z1 Z.2.2), (z1, cQ cJ z2 z3), (z2, cA4 cI Z.1), (z3, cA4 cI Z.2.1)] ([(a0, cF a1 a2 a3 a4 a5 a6 X.2.2.2.2.2.2), (a1, cS X.1), (a2, cS X.2.1), (a3, cB X.2.2.1), (a4, cB X.2.2.2.1), (a5, cB X.2.2.2.2.1), (a6, cB X.2.2.2.2.2.1), (z0, cZ .null z1 Z.2.2), (z1, cQ cJ z2 z3), (z2, cA4 cI Z.1), (z3, cA4 cI Z.2.1)]) rfl rfl rfl rfl (by decide) [] rfl rfl rfl rfl (Nat.le_of_ble_eq_true rfl) ⟨Nat.le_of_ble_eq_true rfl, Nat.le_of_ble_eq_true rfl⟩ rfl dL_act_103 ?_
    refine k_istore C [(6, .int (fL_below (x >>> (4 &&& 31)) 2)), (5, .int q2), (4, .int q1), (3, .int q0), (0, .ref a0), (1, .ref z0), (2, .int x)] (by decide) rfl dL_act_106 ?_
    refine k_aload_n C dL_act_108 4 rfl ?_
    refine k_iload C dL_act_109 0 rfl ?_
    obtain ⟨v, Xn, Zn, e1, e2, e3, e4⟩ := pr_match h (p0 := (fL_below (x >>> (4 &&& 31)) 2)) (side_b _)
    have hM2 : kCX l D cI cJ yX2_match (.code yX2_match cX2_match 3 (some .int)) { frames := 6, cells := 1, slots := 6, locals := 90 } [.ref a0, .int (fL_below (x >>> (4 &&& 31)) 2)] (wC a0 a1 a2 a3 a4 a5 a6 X) 0 v (wC a0 a1 a2 a3 a4 a5 a6 Xn) := by
      have h9 := x_X2_match l hl D cI cJ a0 a1 a2 a3 a4 a5 a6 (fL_below (x >>> (4 &&& 31)) 2) X
      rw [e1] at h9
      exact h9
    refine k_callX0 C T hM2 (cwV 1 C.2.2.2.2.1 (kGV q564 q565 q566 q35 q567) rfl rfl rfl ⟨rfl, hdX2_match⟩ ⟨Nat.le_of_ble_eq_true rfl, Nat.le_of_ble_eq_true rfl⟩) [0, 1, 2, 3, 4, 5, 6] [7, 8, 9, 10] [4, 5, 6, 7, 8, 9, 10, 0, 1, 2, 3] [(z0, cZ .null z1 Z.2.2), (z1, cQ cJ z2 z3), (z2, cA4 cI Z.1), (z3, cA4 cI Z.2.1)] [(a0, cF a1 a2 a3 a4 a5 a6 Xn.2.2.2.2.2.2), (a1, cS Xn.1), (a2, cS Xn.2.1), (a3, cB Xn.2.2.1), (a4, cB Xn.2.2.2.1), (a5, cB Xn.2.2.2.2.1), (a6, cB Xn.2.2.2.2.2.1), (z0, cZ .null z1 Z.2.2), (z1, cQ cJ z2 z3), (z2, cA4 cI Z.1), (z3, cA4 cI Z.2.1)] rfl rfl rfl rfl (by decide) [a0, a1, a2, a3, a4, a5, a6] rfl rfl rfl rfl 0 2 rfl rfl rfl (Nat.le_of_ble_eq_true rfl) ⟨Nat.le_of_ble_eq_true rfl, Nat.le_of_ble_eq_true rfl⟩ rfl dL_act_111 rfl ?_
    refine k_aload_n C dL_act_114 5 rfl ?_
    refine k_iload C dL_act_115 0 rfl ?_
    have hG3 := mX4_match l D cI cJ z0 z1 z2 z3 (fL_below (x >>> (4 &&& 31)) 2) Z
    rw [e2] at hG3
    refine k_callGV_i C hG3 (cwV 1 C.2.2.2.2.1 (kGV q581 q582 q583 q38 q584) rfl rfl rfl ⟨rfl, hdX4_match⟩ ⟨Nat.le_of_ble_eq_true rfl, Nat.le_of_ble_eq_true rfl⟩) [7, 8, 9, 10] [0, 1, 2, 3, 4, 5, 6] [(a0, cF a1 a2 a3 a4 a5 a6 Xn.2.2.2.2.2.2), (a1, cS Xn.1), (a2, cS Xn.2.1), (a3, cB Xn.2.2.1), (a4, cB Xn.2.2.2.1), (a5, cB Xn.2.2.2.2.1), (a6, cB Xn.2.2.2.2.2.1)] rfl rfl rfl rfl (by decide) 7 4 rfl rfl rfl (Nat.le_of_ble_eq_true rfl) ⟨Nat.le_of_ble_eq_true rfl, Nat.le_of_ble_eq_true rfl⟩ rfl dL_act_117 (fun r4 U5 hU6 => ?_)
    obtain ⟨rfl, hU6⟩ := hU6
    refine k_icmp_ne C 127 (by decide) dL_act_120 (fun h => absurd rfl h) (fun _ => ?_)
    refine k_iconst C 1 (by decide) dL_act_123 ?_
    refine k_goto C 128 (by decide) dL_act_124 ?_
    refine k_widen (k' := 4) (n' := 40) (Nat.le_of_ble_eq_true rfl) (Nat.le_of_ble_eq_true rfl) ?_
    exact k_zretG C rfl rfl ⟨rfl, Xn, Zn, _, U5, rfl, hU6, e3, (e4 h.off)⟩ dL_act_128
  ·
    refine k_iload_n C dL_act_90 5 rfl ?_
    refine k_bipush C 40 (by decide) dL_act_91 ?_
    refine k_callS_i C (mL_below l D cI cJ x 40 (by decide)) (va_cwS 2 C.2.2.2.2.1 (kGS q553 q554 q34 q555) rfl rfl rfl hdL_below ⟨Nat.le_of_ble_eq_true rfl, Nat.le_of_ble_eq_true rfl⟩) [] [0, 1, 2, 3, 4, 5, 6, 7, 8, 9, 10] [0, 1, 2, 3, 4, 5, 6, 7, 8, 9, 10] [(a0, cF a1 a2 a3 a4 a5 a6 X.2.2.2.2.2.2), (a1, cS X.1), (a2, cS X.2.1), (a3, cB X.2.2.1), (a4, cB X.2.2.2.1), (a5, cB X.2.2.2.2.1), (a6, cB X.2.2.2.2.2.1), (z0, cZ .null z1 Z.2.2), (z1, cQ cJ z2 z3), (z2, cA4 cI Z.1), (z3, cA4 cI Z.2.1)] ([(a0, cF a1 a2 a3 a4 a5 a6 X.2.2.2.2.2.2), (a1, cS X.1), (a2, cS X.2.1), (a3, cB X.2.2.1), (a4, cB X.2.2.2.1), (a5, cB X.2.2.2.2.1), (a6, cB X.2.2.2.2.2.1), (z0, cZ .null z1 Z.2.2), (z1, cQ cJ z2 z3), (z2, cA4 cI Z.1), (z3, cA4 cI Z.2.1)]) rfl rfl rfl rfl (by decide) [] rfl rfl rfl rfl (Nat.le_of_ble_eq_true rfl) ⟨Nat.le_of_ble_eq_true rfl, Nat.le_of_ble_eq_true rfl⟩ rfl dL_act_93 ?_
    refine k_if_ne C 129 (by decide) dL_act_96 (fun c7 => ?_) (fun c7 => ?_)
    ·
      refine k_iload_n C dL_act_129 5 rfl ?_
      refine k_iconst C 3 (by decide) dL_act_130 ?_
      refine k_callS_i C (mL_below l D cI cJ x 3 (by decide)) (va_cwS 2 C.2.2.2.2.1 (kGS q553 q554 q34 q555) rfl rfl rfl hdL_below ⟨Nat.le_of_ble_eq_true rfl, Nat.le_of_ble_eq_true rfl⟩) [] [0, 1, 2, 3, 4, 5, 6, 7, 8, 9, 10] [0, 1, 2, 3, 4, 5, 6, 7, 8, 9, 10] [(a0, cF a1 a2 a3 a4 a5 a6 X.2.2.2.2.2.2), (a1, cS X.1), (a2, cS X.2.1), (a3, cB X.2.2.1), (a4, cB X.2.2.2.1), (a5, cB X.2.2.2.2.1), (a6, cB X.2.2.2.2.2.1), (z0, cZ .null z1 Z.2.2), (z1, cQ cJ z2 z3), (z2, cA4 cI Z.1), (z3, cA4 cI Z.2.1)] ([(a0, cF a1 a2 a3 a4 a5 a6 X.2.2.2.2.2.2), (a1, cS X.1), (a2, cS X.2.1), (a3, cB X.2.2.1), (a4, cB X.2.2.2.1), (a5, cB X.2.2.2.2.1), (a6, cB X.2.2.2.2.2.1), (z0, cZ .null z1 Z.2.2), (z1, cQ cJ z2 z3), (z2, cA4 cI Z.1), (z3, cA4 cI Z.2.1)]) rfl rfl rfl rfl (by decide) [] rfl rfl rfl rfl (Nat.le_of_ble_eq_true rfl) ⟨Nat.le_of_ble_eq_true rfl, Nat.le_of_ble_eq_true rfl⟩ rfl dL_act_131 ?_
      refine k_if_ne C 226 (by decide) dL_act_134 (fun c8 => ?_) (fun c8 => ?_)
      ·
        refine k_aload_n C dL_act_226 3 rfl ?_
        refine k_iload_n C dL_act_227 2 rfl ?_
        refine k_iload C dL_act_228 1 rfl ?_
        refine k_iload C dL_act_230 0 rfl ?_
        obtain ⟨v, Xn, Zn, b', e1, e2, e3, e4⟩ := pr_serve hi h (mw_neg h c1) hq
        have hM9 : kCX l D cI cJ yX2_serve (.code yX2_serve cX2_serve 4 (some .int)) { frames := 6, cells := 1, slots := 6, locals := 130 } [.ref a0, .int q0, .int q1, .int q2] (wC a0 a1 a2 a3 a4 a5 a6 X) 0 v (wC a0 a1 a2 a3 a4 a5 a6 Xn) := by
          have h9 := x_X2_serve l hl D cI cJ a0 a1 a2 a3 a4 a5 a6 q0 q1 q2 X
          rw [e1] at h9
          exact h9
        refine k_callX0 C T hM9 (cwV 3 C.2.2.2.2.1 (kGV q607 q608 q609 q35 q610) rfl rfl rfl ⟨rfl, hdX2_serve⟩ ⟨Nat.le_of_ble_eq_true rfl, Nat.le_of_ble_eq_true rfl⟩) [0, 1, 2, 3, 4, 5, 6] [7, 8, 9, 10] [4, 5, 6, 7, 8, 9, 10, 0, 1, 2, 3] [(z0, cZ .null z1 Z.2.2), (z1, cQ cJ z2 z3), (z2, cA4 cI Z.1), (z3, cA4 cI Z.2.1)] [(a0, cF a1 a2 a3 a4 a5 a6 Xn.2.2.2.2.2.2), (a1, cS Xn.1), (a2, cS Xn.2.1), (a3, cB Xn.2.2.1), (a4, cB Xn.2.2.2.1), (a5, cB Xn.2.2.2.2.1), (a6, cB Xn.2.2.2.2.2.1), (z0, cZ .null z1 Z.2.2), (z1, cQ cJ z2 z3), (z2, cA4 cI Z.1), (z3, cA4 cI Z.2.1)] rfl rfl rfl rfl (by decide) [a0, a1, a2, a3, a4, a5, a6] rfl rfl rfl rfl 0 2 rfl rfl rfl (Nat.le_of_ble_eq_true rfl) ⟨Nat.le_of_ble_eq_true rfl, Nat.le_of_ble_eq_true rfl⟩ rfl dL_act_232 rfl ?_
        refine k_aload_n C dL_act_235 4 rfl ?_
        refine k_iload_n C dL_act_236 2 rfl ?_
        refine k_iload C dL_act_237 1 rfl ?_
        refine k_iload C dL_act_239 0 rfl ?_
        rcases e2 with ⟨et, e2⟩ | ⟨et, e2⟩
        ·
          have hG10 := hX4_serve_0 l D cI cJ z0 z1 z2 z3 q0 q1 q2 Z et
          rw [e2] at hG10
          refine k_callGV_i C hG10 (cwV 3 C.2.2.2.2.1 (kGV q616 q617 q618 q38 q619) rfl rfl rfl ⟨rfl, hdX4_serve⟩ ⟨Nat.le_of_ble_eq_true rfl, Nat.le_of_ble_eq_true rfl⟩) [7, 8, 9, 10] [0, 1, 2, 3, 4, 5, 6] [(a0, cF a1 a2 a3 a4 a5 a6 Xn.2.2.2.2.2.2), (a1, cS Xn.1), (a2, cS Xn.2.1), (a3, cB Xn.2.2.1), (a4, cB Xn.2.2.2.1), (a5, cB Xn.2.2.2.2.1), (a6, cB Xn.2.2.2.2.2.1)] rfl rfl rfl rfl (by decide) 7 4 rfl rfl rfl (Nat.le_of_ble_eq_true rfl) ⟨Nat.le_of_ble_eq_true rfl, Nat.le_of_ble_eq_true rfl⟩ rfl dL_act_241 (fun r11 U12 hU13 => ?_)
          obtain ⟨rfl, hU13⟩ := hU13
          refine k_icmp_ne C 251 (by decide) dL_act_244 (fun h => absurd rfl h) (fun _ => ?_)
          refine k_iconst C 1 (by decide) dL_act_247 ?_
          refine k_goto C 252 (by decide) dL_act_248 ?_
          refine k_widen (k' := 4) (n' := 40) (Nat.le_of_ble_eq_true rfl) (Nat.le_of_ble_eq_true rfl) ?_
          exact k_zretG C rfl rfl ⟨rfl, Xn, Zn, _, U12, rfl, hU13, e3, e4⟩ dL_act_252
        ·
          have hG14 := hX4_serve_1 l D cI cJ z0 z1 z2 z3 q0 q1 q2 Z et
          rw [e2] at hG14
          refine k_callGV_i C hG14 (cwV 3 C.2.2.2.2.1 (kGV q616 q617 q618 q38 q619) rfl rfl rfl ⟨rfl, hdX4_serve⟩ ⟨Nat.le_of_ble_eq_true rfl, Nat.le_of_ble_eq_true rfl⟩) [7, 8, 9, 10] [0, 1, 2, 3, 4, 5, 6] [(a0, cF a1 a2 a3 a4 a5 a6 Xn.2.2.2.2.2.2), (a1, cS Xn.1), (a2, cS Xn.2.1), (a3, cB Xn.2.2.1), (a4, cB Xn.2.2.2.1), (a5, cB Xn.2.2.2.2.1), (a6, cB Xn.2.2.2.2.2.1)] rfl rfl rfl rfl (by decide) 7 4 rfl rfl rfl (Nat.le_of_ble_eq_true rfl) ⟨Nat.le_of_ble_eq_true rfl, Nat.le_of_ble_eq_true rfl⟩ rfl dL_act_241 (fun r15 U16 hU17 => ?_)
          obtain ⟨rfl, hU17⟩ := hU17
          refine k_icmp_ne C 251 (by decide) dL_act_244 (fun h => absurd rfl h) (fun _ => ?_)
          refine k_iconst C 1 (by decide) dL_act_247 ?_
          refine k_goto C 252 (by decide) dL_act_248 ?_
          refine k_widen (k' := 4) (n' := 40) (Nat.le_of_ble_eq_true rfl) (Nat.le_of_ble_eq_true rfl) ?_
          exact k_zretG C rfl rfl ⟨rfl, Xn, Zn, _, U16, rfl, hU17, e3, e4⟩ dL_act_252
      ·
        refine k_iload_n C dL_act_137 5 rfl ?_
        refine k_iconst C 3 (by decide) dL_act_138 ?_
        refine k_ishr C dL_act_139 ?_
        refine k_iconst C 2 (by decide) dL_act_140 ?_
        refine k_callS_i C (mL_below l D cI cJ (x >>> (3 &&& 31)) 2 (by decide)) (va_cwS 2 C.2.2.2.2.1 (kGS q553 q554 q34 q555) rfl rfl rfl hdL_below ⟨Nat.le_of_ble_eq_true rfl, Nat.le_of_ble_eq_true rfl⟩) [] [0, 1, 2, 3, 4, 5, 6, 7, 8, 9, 10] [0, 1, 2, 3, 4, 5, 6, 7, 8, 9, 10] [(a0, cF a1 a2 a3 a4 a5 a6 X.2.2.2.2.2.2), (a1, cS X.1), (a2, cS X.2.1), (a3, cB X.2.2.1), (a4, cB X.2.2.2.1), (a5, cB X.2.2.2.2.1), (a6, cB X.2.2.2.2.2.1), (z0, cZ .null z1 Z.2.2), (z1, cQ cJ z2 z3), (z2, cA4 cI Z.1), (z3, cA4 cI Z.2.1)] ([(a0, cF a1 a2 a3 a4 a5 a6 X.2.2.2.2.2.2), (a1, cS X.1), (a2, cS X.2.1), (a3, cB X.2.2.1), (a4, cB X.2.2.2.1), (a5, cB X.2.2.2.2.1), (a6, cB X.2.2.2.2.2.1), (z0, cZ .null z1 Z.2.2), (z1, cQ cJ z2 z3), (z2, cA4 cI Z.1), (z3, cA4 cI Z.2.1)]) rfl rfl rfl rfl (by decide) [] rfl rfl rfl rfl (Nat.le_of_ble_eq_true rfl) ⟨Nat.le_of_ble_eq_true rfl, Nat.le_of_ble_eq_true rfl⟩ rfl dL_act_141 ?_
        refine k_if_ne C 151 (by decide) dL_act_144 (fun c18 => ?_) (fun c18 => ?_)
        ·
          refine k_iconst C 5 (by decide) dL_act_151 ?_
          refine k_istore C [(6, .int 5), (5, .int q2), (4, .int q1), (3, .int q0), (0, .ref a0), (1, .ref z0), (2, .int x)] (by decide) rfl dL_act_152 ?_
          refine k_aload_n C dL_act_154 5 rfl ?_
          refine k_callV_i C (mX4_canSet_n l D cI cJ z0 z1 z2 z3 Z) (cwV 0 C.2.2.2.2.1 (kGV q585 q476 q477 q38 q478) rfl rfl rfl ⟨rfl, hdX4_canSet⟩ ⟨Nat.le_of_ble_eq_true rfl, Nat.le_of_ble_eq_true rfl⟩) [7, 8, 9, 10] [0, 1, 2, 3, 4, 5, 6] [0, 1, 2, 3, 4, 5, 6, 7, 8, 9, 10] [(a0, cF a1 a2 a3 a4 a5 a6 X.2.2.2.2.2.2), (a1, cS X.1), (a2, cS X.2.1), (a3, cB X.2.2.1), (a4, cB X.2.2.2.1), (a5, cB X.2.2.2.2.1), (a6, cB X.2.2.2.2.2.1)] ([(a0, cF a1 a2 a3 a4 a5 a6 X.2.2.2.2.2.2), (a1, cS X.1), (a2, cS X.2.1), (a3, cB X.2.2.1), (a4, cB X.2.2.2.1), (a5, cB X.2.2.2.2.1), (a6, cB X.2.2.2.2.2.1), (z0, cZ .null z1 Z.2.2), (z1, cQ cJ z2 z3), (z2, cA4 cI Z.1), (z3, cA4 cI Z.2.1)]) rfl rfl rfl rfl (by decide) [z0, z1, z2, z3] rfl rfl rfl rfl 7 4 rfl rfl rfl (Nat.le_of_ble_eq_true rfl) ⟨Nat.le_of_ble_eq_true rfl, Nat.le_of_ble_eq_true rfl⟩ rfl dL_act_155 ?_
          refine k_istore C [(7, .int (fX4_canSet_n Z)), (6, .int 5), (5, .int q2), (4, .int q1), (3, .int q0), (0, .ref a0), (1, .ref z0), (2, .int x)] (by decide) rfl dL_act_158 ?_
          refine k_iload C dL_act_160 0 rfl ?_
          refine k_if_eq C 185 (by decide) dL_act_162 (fun c19 => ?_) (fun c19 => ?_)
          ·
            refine k_aload_n C dL_act_185 5 rfl ?_
            refine k_iload C dL_act_186 1 rfl ?_
            rcases pr_set h (p0 := 5) (Or.inr rfl) with ⟨u1, u2⟩ | ⟨u1, _⟩
            · have hM : kCX l D cI cJ yX2_set (.code yX2_set cX2_set 2 (some .int)) { frames := 6, cells := 1, slots := 6, locals := 90 } [.ref a0, .int 5] (wC a0 a1 a2 a3 a4 a5 a6 X) 2 0 (wC a0 a1 a2 a3 a4 a5 a6 X) := by
                have h9 := x_X2_set l hl D cI cJ a0 a1 a2 a3 a4 a5 a6 5 X
                rw [u2] at h9
                exact h9
              refine k_callX C T hM (cwV 1 C.2.2.2.2.1 (kGV q586 q587 q588 q35 q589) rfl rfl rfl ⟨rfl, hdX2_set⟩ ⟨Nat.le_of_ble_eq_true rfl, Nat.le_of_ble_eq_true rfl⟩) [0, 1, 2, 3, 4, 5, 6] [7, 8, 9, 10] [4, 5, 6, 7, 8, 9, 10, 0, 1, 2, 3] [(z0, cZ .null z1 Z.2.2), (z1, cQ cJ z2 z3), (z2, cA4 cI Z.1), (z3, cA4 cI Z.2.1)] [(a0, cF a1 a2 a3 a4 a5 a6 X.2.2.2.2.2.2), (a1, cS X.1), (a2, cS X.2.1), (a3, cB X.2.2.1), (a4, cB X.2.2.2.1), (a5, cB X.2.2.2.2.1), (a6, cB X.2.2.2.2.2.1), (z0, cZ .null z1 Z.2.2), (z1, cQ cJ z2 z3), (z2, cA4 cI Z.1), (z3, cA4 cI Z.2.1)] rfl rfl rfl rfl (by decide) [a0, a1, a2, a3, a4, a5, a6] rfl rfl rfl rfl rfl 0 2 rfl rfl rfl (Nat.le_of_ble_eq_true rfl) ⟨Nat.le_of_ble_eq_true rfl, Nat.le_of_ble_eq_true rfl⟩ rfl dL_act_188 (fun E q9 hE => ?_) (fun hk => absurd hk (by decide))
              rcases hE with ⟨hk, _⟩ | ⟨hk, rfl⟩ | ⟨hk, _⟩
              · exact absurd hk (by decide)
              · refine k_catch C T [] ({ startPc := 185, endPc := 212, handlerPc := 213, catchType := 68 } : ExceptionTableEntry) [] (hTb.trans rfl) (fun z hz => nomatch hz) (by decide) (by decide) q563 (by decide) ?_
                refine k_astore C [(8, .ref q9), (7, .int (fX4_canSet_n Z)), (6, .int 5), (5, .int q2), (4, .int q1), (3, .int q0), (0, .ref a0), (1, .ref z0), (2, .int x)] (by decide) rfl dL_act_213 ?_
                refine k_iload C dL_act_215 1 rfl ?_
                refine k_if_ne C 224 (by decide) dL_act_217 (fun h9 => absurd u1 h9) (fun _ => ?_)
                refine k_iconst C 1 (by decide) dL_act_220 ?_
                refine k_goto C 225 (by decide) dL_act_221 ?_
                refine k_widen (k' := 4) (n' := 40) (Nat.le_of_ble_eq_true rfl) (Nat.le_of_ble_eq_true rfl) ?_
                exact k_zretG C rfl rfl ⟨rfl, X, Z, none, _, rfl, wSim_none cI cJ z0 z1 z2 z3 Z, h.mono, Tr.refl X⟩ dL_act_225
              · exact absurd hk (by decide)
            · rw [c19] at u1
              exact absurd u1 (by decide)
          ·
            refine k_aload_n C dL_act_165 6 rfl ?_
            refine k_iconst C 1 (by decide) dL_act_166 ?_
            refine k_putX4 C [(a0, cF a1 a2 a3 a4 a5 a6 X.2.2.2.2.2.2), (a1, cS X.1), (a2, cS X.2.1), (a3, cB X.2.2.1), (a4, cB X.2.2.2.1), (a5, cB X.2.2.2.2.1), (a6, cB X.2.2.2.2.2.1), (z0, cZ .null z1 (Z.2.2.1, Z.2.2.2.1, Z.2.2.2.2.1, Z.2.2.2.2.2.1, Z.2.2.2.2.2.2.1, Z.2.2.2.2.2.2.2.1, Z.2.2.2.2.2.2.2.2.1, 1, Z.2.2.2.2.2.2.2.2.2.2)), (z1, cQ cJ z2 z3), (z2, cA4 cI Z.1), (z3, cA4 cI Z.2.1)] 7 9 rfl rfl (by decide) q436 rfl rfl fdZ rfl rfl (Nat.le_of_ble_eq_true rfl) dL_act_167 ?_
            refine k_aload_n C dL_act_170 6 rfl ?_
            refine k_aload_n C dL_act_171 6 rfl ?_
            refine k_getX4 C 7 4 rfl (by decide) rfl q429 rfl dL_act_172 ?_
            refine k_iconst C 0 (by decide) dL_act_175 ?_
            refine k_aald C 8 rfl vi2_0 (fq_l0 _ _) dL_act_176 ?_
            refine k_iconst C 0 (by decide) dL_act_177 ?_
            refine k_iald C 9 rfl vi4_0 (ar4_l0 _) dL_act_178 ?_
            refine k_iload C dL_act_179 1 rfl ?_
            refine k_iadd C dL_act_181 ?_
            refine k_putX4 C [(a0, cF a1 a2 a3 a4 a5 a6 X.2.2.2.2.2.2), (a1, cS X.1), (a2, cS X.2.1), (a3, cB X.2.2.1), (a4, cB X.2.2.2.1), (a5, cB X.2.2.2.2.1), (a6, cB X.2.2.2.2.2.1), (z0, cZ .null z1 (Z.2.2.1, Z.2.2.2.1, Z.2.2.2.2.1, Z.2.2.2.2.2.1, Z.2.2.2.2.2.2.1, Z.2.2.2.2.2.2.2.1, (Z.1.1 + 5), 1, Z.2.2.2.2.2.2.2.2.2.2)), (z1, cQ cJ z2 z3), (z2, cA4 cI Z.1), (z3, cA4 cI Z.2.1)] 7 8 rfl rfl (by decide) q434 rfl rfl fdI rfl rfl (Nat.le_of_ble_eq_true rfl) dL_act_182 ?_
            refine k_aload_n C dL_act_185 5 rfl ?_
            refine k_iload C dL_act_186 1 rfl ?_
            rcases pr_set h (p0 := 5) (Or.inr rfl) with ⟨u1, _⟩ | ⟨u1, Xn, e1, e3, e4⟩
            · exact absurd u1 c19
            ·
              have hM20 : kCX l D cI cJ yX2_set (.code yX2_set cX2_set 2 (some .int)) { frames := 6, cells := 1, slots := 6, locals := 90 } [.ref a0, .int 5] (wC a0 a1 a2 a3 a4 a5 a6 X) 0 (Z.1.1 + 5) (wC a0 a1 a2 a3 a4 a5 a6 Xn) := by
                have h9 := x_X2_set l hl D cI cJ a0 a1 a2 a3 a4 a5 a6 5 X
                rw [e1] at h9
                exact h9
              refine k_callX0 C T hM20 (cwV 1 C.2.2.2.2.1 (kGV q586 q587 q588 q35 q589) rfl rfl rfl ⟨rfl, hdX2_set⟩ ⟨Nat.le_of_ble_eq_true rfl, Nat.le_of_ble_eq_true rfl⟩) [0, 1, 2, 3, 4, 5, 6] [7, 8, 9, 10] [4, 5, 6, 7, 8, 9, 10, 0, 1, 2, 3] [(z0, cZ .null z1 (Z.2.2.1, Z.2.2.2.1, Z.2.2.2.2.1, Z.2.2.2.2.2.1, Z.2.2.2.2.2.2.1, Z.2.2.2.2.2.2.2.1, (Z.1.1 + 5), 1, Z.2.2.2.2.2.2.2.2.2.2)), (z1, cQ cJ z2 z3), (z2, cA4 cI Z.1), (z3, cA4 cI Z.2.1)] [(a0, cF a1 a2 a3 a4 a5 a6 Xn.2.2.2.2.2.2), (a1, cS Xn.1), (a2, cS Xn.2.1), (a3, cB Xn.2.2.1), (a4, cB Xn.2.2.2.1), (a5, cB Xn.2.2.2.2.1), (a6, cB Xn.2.2.2.2.2.1), (z0, cZ .null z1 (Z.2.2.1, Z.2.2.2.1, Z.2.2.2.2.1, Z.2.2.2.2.2.1, Z.2.2.2.2.2.2.1, Z.2.2.2.2.2.2.2.1, (Z.1.1 + 5), 1, Z.2.2.2.2.2.2.2.2.2.2)), (z1, cQ cJ z2 z3), (z2, cA4 cI Z.1), (z3, cA4 cI Z.2.1)] rfl rfl rfl rfl (by decide) [a0, a1, a2, a3, a4, a5, a6] rfl rfl rfl rfl 0 2 rfl rfl rfl (Nat.le_of_ble_eq_true rfl) ⟨Nat.le_of_ble_eq_true rfl, Nat.le_of_ble_eq_true rfl⟩ rfl dL_act_188 rfl ?_
              refine k_istore C [(8, .int (Z.1.1 + 5)), (7, .int (fX4_canSet_n Z)), (6, .int 5), (5, .int q2), (4, .int q1), (3, .int q0), (0, .ref a0), (1, .ref z0), (2, .int x)] (by decide) rfl dL_act_191 ?_
              refine k_iload C dL_act_193 1 rfl ?_
              refine k_if_eq C 211 (by decide) dL_act_195 (fun h9 => absurd h9 c19) (fun _ => ?_)
              refine k_iload C dL_act_198 0 rfl ?_
              refine k_aload_n C dL_act_200 7 rfl ?_
              refine k_getX4 C 7 8 rfl (by decide) rfl q434 rfl dL_act_201 ?_
              refine k_icmp_ne C 211 (by decide) dL_act_204 (fun h9 => absurd rfl h9) (fun _ => ?_)
              refine k_iconst C 1 (by decide) dL_act_207 ?_
              refine k_goto C 212 (by decide) dL_act_208 ?_
              refine k_widen (k' := 4) (n' := 40) (Nat.le_of_ble_eq_true rfl) (Nat.le_of_ble_eq_true rfl) ?_
              exact k_zretG C rfl rfl ⟨rfl, Xn, (Z.1, Z.2.1, Z.2.2.1, Z.2.2.2.1, Z.2.2.2.2.1, Z.2.2.2.2.2.1, Z.2.2.2.2.2.2.1, Z.2.2.2.2.2.2.2.1, (Z.1.1 + 5), 1, Z.2.2.2.2.2.2.2.2.2.2), none, _, rfl, wSim_none cI cJ z0 z1 z2 z3 (Z.1, Z.2.1, Z.2.2.1, Z.2.2.2.1, Z.2.2.2.2.1, Z.2.2.2.2.2.1, Z.2.2.2.2.2.2.1, Z.2.2.2.2.2.2.2.1, (Z.1.1 + 5), 1, Z.2.2.2.2.2.2.2.2.2.2), e3, e4⟩ dL_act_212
        ·
          refine k_iconst C 3 (by decide) dL_act_147 ?_
          refine k_goto C 152 (by decide) dL_act_148 ?_
          refine k_istore C [(6, .int 3), (5, .int q2), (4, .int q1), (3, .int q0), (0, .ref a0), (1, .ref z0), (2, .int x)] (by decide) rfl dL_act_152 ?_
          refine k_aload_n C dL_act_154 5 rfl ?_
          refine k_callV_i C (mX4_canSet_n l D cI cJ z0 z1 z2 z3 Z) (cwV 0 C.2.2.2.2.1 (kGV q585 q476 q477 q38 q478) rfl rfl rfl ⟨rfl, hdX4_canSet⟩ ⟨Nat.le_of_ble_eq_true rfl, Nat.le_of_ble_eq_true rfl⟩) [7, 8, 9, 10] [0, 1, 2, 3, 4, 5, 6] [0, 1, 2, 3, 4, 5, 6, 7, 8, 9, 10] [(a0, cF a1 a2 a3 a4 a5 a6 X.2.2.2.2.2.2), (a1, cS X.1), (a2, cS X.2.1), (a3, cB X.2.2.1), (a4, cB X.2.2.2.1), (a5, cB X.2.2.2.2.1), (a6, cB X.2.2.2.2.2.1)] ([(a0, cF a1 a2 a3 a4 a5 a6 X.2.2.2.2.2.2), (a1, cS X.1), (a2, cS X.2.1), (a3, cB X.2.2.1), (a4, cB X.2.2.2.1), (a5, cB X.2.2.2.2.1), (a6, cB X.2.2.2.2.2.1), (z0, cZ .null z1 Z.2.2), (z1, cQ cJ z2 z3), (z2, cA4 cI Z.1), (z3, cA4 cI Z.2.1)]) rfl rfl rfl rfl (by decide) [z0, z1, z2, z3] rfl rfl rfl rfl 7 4 rfl rfl rfl (Nat.le_of_ble_eq_true rfl) ⟨Nat.le_of_ble_eq_true rfl, Nat.le_of_ble_eq_true rfl⟩ rfl dL_act_155 ?_
          refine k_istore C [(7, .int (fX4_canSet_n Z)), (6, .int 3), (5, .int q2), (4, .int q1), (3, .int q0), (0, .ref a0), (1, .ref z0), (2, .int x)] (by decide) rfl dL_act_158 ?_
          refine k_iload C dL_act_160 0 rfl ?_
          refine k_if_eq C 185 (by decide) dL_act_162 (fun c21 => ?_) (fun c21 => ?_)
          ·
            refine k_aload_n C dL_act_185 5 rfl ?_
            refine k_iload C dL_act_186 1 rfl ?_
            rcases pr_set h (p0 := 3) (Or.inl rfl) with ⟨u1, u2⟩ | ⟨u1, _⟩
            · have hM : kCX l D cI cJ yX2_set (.code yX2_set cX2_set 2 (some .int)) { frames := 6, cells := 1, slots := 6, locals := 90 } [.ref a0, .int 3] (wC a0 a1 a2 a3 a4 a5 a6 X) 2 0 (wC a0 a1 a2 a3 a4 a5 a6 X) := by
                have h9 := x_X2_set l hl D cI cJ a0 a1 a2 a3 a4 a5 a6 3 X
                rw [u2] at h9
                exact h9
              refine k_callX C T hM (cwV 1 C.2.2.2.2.1 (kGV q586 q587 q588 q35 q589) rfl rfl rfl ⟨rfl, hdX2_set⟩ ⟨Nat.le_of_ble_eq_true rfl, Nat.le_of_ble_eq_true rfl⟩) [0, 1, 2, 3, 4, 5, 6] [7, 8, 9, 10] [4, 5, 6, 7, 8, 9, 10, 0, 1, 2, 3] [(z0, cZ .null z1 Z.2.2), (z1, cQ cJ z2 z3), (z2, cA4 cI Z.1), (z3, cA4 cI Z.2.1)] [(a0, cF a1 a2 a3 a4 a5 a6 X.2.2.2.2.2.2), (a1, cS X.1), (a2, cS X.2.1), (a3, cB X.2.2.1), (a4, cB X.2.2.2.1), (a5, cB X.2.2.2.2.1), (a6, cB X.2.2.2.2.2.1), (z0, cZ .null z1 Z.2.2), (z1, cQ cJ z2 z3), (z2, cA4 cI Z.1), (z3, cA4 cI Z.2.1)] rfl rfl rfl rfl (by decide) [a0, a1, a2, a3, a4, a5, a6] rfl rfl rfl rfl rfl 0 2 rfl rfl rfl (Nat.le_of_ble_eq_true rfl) ⟨Nat.le_of_ble_eq_true rfl, Nat.le_of_ble_eq_true rfl⟩ rfl dL_act_188 (fun E q9 hE => ?_) (fun hk => absurd hk (by decide))
              rcases hE with ⟨hk, _⟩ | ⟨hk, rfl⟩ | ⟨hk, _⟩
              · exact absurd hk (by decide)
              · refine k_catch C T [] ({ startPc := 185, endPc := 212, handlerPc := 213, catchType := 68 } : ExceptionTableEntry) [] (hTb.trans rfl) (fun z hz => nomatch hz) (by decide) (by decide) q563 (by decide) ?_
                refine k_astore C [(8, .ref q9), (7, .int (fX4_canSet_n Z)), (6, .int 3), (5, .int q2), (4, .int q1), (3, .int q0), (0, .ref a0), (1, .ref z0), (2, .int x)] (by decide) rfl dL_act_213 ?_
                refine k_iload C dL_act_215 1 rfl ?_
                refine k_if_ne C 224 (by decide) dL_act_217 (fun h9 => absurd u1 h9) (fun _ => ?_)
                refine k_iconst C 1 (by decide) dL_act_220 ?_
                refine k_goto C 225 (by decide) dL_act_221 ?_
                refine k_widen (k' := 4) (n' := 40) (Nat.le_of_ble_eq_true rfl) (Nat.le_of_ble_eq_true rfl) ?_
                exact k_zretG C rfl rfl ⟨rfl, X, Z, none, _, rfl, wSim_none cI cJ z0 z1 z2 z3 Z, h.mono, Tr.refl X⟩ dL_act_225
              · exact absurd hk (by decide)
            · rw [c21] at u1
              exact absurd u1 (by decide)
          ·
            refine k_aload_n C dL_act_165 6 rfl ?_
            refine k_iconst C 1 (by decide) dL_act_166 ?_
            refine k_putX4 C [(a0, cF a1 a2 a3 a4 a5 a6 X.2.2.2.2.2.2), (a1, cS X.1), (a2, cS X.2.1), (a3, cB X.2.2.1), (a4, cB X.2.2.2.1), (a5, cB X.2.2.2.2.1), (a6, cB X.2.2.2.2.2.1), (z0, cZ .null z1 (Z.2.2.1, Z.2.2.2.1, Z.2.2.2.2.1, Z.2.2.2.2.2.1, Z.2.2.2.2.2.2.1, Z.2.2.2.2.2.2.2.1, Z.2.2.2.2.2.2.2.2.1, 1, Z.2.2.2.2.2.2.2.2.2.2)), (z1, cQ cJ z2 z3), (z2, cA4 cI Z.1), (z3, cA4 cI Z.2.1)] 7 9 rfl rfl (by decide) q436 rfl rfl fdZ rfl rfl (Nat.le_of_ble_eq_true rfl) dL_act_167 ?_
            refine k_aload_n C dL_act_170 6 rfl ?_
            refine k_aload_n C dL_act_171 6 rfl ?_
            refine k_getX4 C 7 4 rfl (by decide) rfl q429 rfl dL_act_172 ?_
            refine k_iconst C 0 (by decide) dL_act_175 ?_
            refine k_aald C 8 rfl vi2_0 (fq_l0 _ _) dL_act_176 ?_
            refine k_iconst C 0 (by decide) dL_act_177 ?_
            refine k_iald C 9 rfl vi4_0 (ar4_l0 _) dL_act_178 ?_
            refine k_iload C dL_act_179 1 rfl ?_
            refine k_iadd C dL_act_181 ?_
            refine k_putX4 C [(a0, cF a1 a2 a3 a4 a5 a6 X.2.2.2.2.2.2), (a1, cS X.1), (a2, cS X.2.1), (a3, cB X.2.2.1), (a4, cB X.2.2.2.1), (a5, cB X.2.2.2.2.1), (a6, cB X.2.2.2.2.2.1), (z0, cZ .null z1 (Z.2.2.1, Z.2.2.2.1, Z.2.2.2.2.1, Z.2.2.2.2.2.1, Z.2.2.2.2.2.2.1, Z.2.2.2.2.2.2.2.1, (Z.1.1 + 3), 1, Z.2.2.2.2.2.2.2.2.2.2)), (z1, cQ cJ z2 z3), (z2, cA4 cI Z.1), (z3, cA4 cI Z.2.1)] 7 8 rfl rfl (by decide) q434 rfl rfl fdI rfl rfl (Nat.le_of_ble_eq_true rfl) dL_act_182 ?_
            refine k_aload_n C dL_act_185 5 rfl ?_
            refine k_iload C dL_act_186 1 rfl ?_
            rcases pr_set h (p0 := 3) (Or.inl rfl) with ⟨u1, _⟩ | ⟨u1, Xn, e1, e3, e4⟩
            · exact absurd u1 c21
            ·
              have hM22 : kCX l D cI cJ yX2_set (.code yX2_set cX2_set 2 (some .int)) { frames := 6, cells := 1, slots := 6, locals := 90 } [.ref a0, .int 3] (wC a0 a1 a2 a3 a4 a5 a6 X) 0 (Z.1.1 + 3) (wC a0 a1 a2 a3 a4 a5 a6 Xn) := by
                have h9 := x_X2_set l hl D cI cJ a0 a1 a2 a3 a4 a5 a6 3 X
                rw [e1] at h9
                exact h9
              refine k_callX0 C T hM22 (cwV 1 C.2.2.2.2.1 (kGV q586 q587 q588 q35 q589) rfl rfl rfl ⟨rfl, hdX2_set⟩ ⟨Nat.le_of_ble_eq_true rfl, Nat.le_of_ble_eq_true rfl⟩) [0, 1, 2, 3, 4, 5, 6] [7, 8, 9, 10] [4, 5, 6, 7, 8, 9, 10, 0, 1, 2, 3] [(z0, cZ .null z1 (Z.2.2.1, Z.2.2.2.1, Z.2.2.2.2.1, Z.2.2.2.2.2.1, Z.2.2.2.2.2.2.1, Z.2.2.2.2.2.2.2.1, (Z.1.1 + 3), 1, Z.2.2.2.2.2.2.2.2.2.2)), (z1, cQ cJ z2 z3), (z2, cA4 cI Z.1), (z3, cA4 cI Z.2.1)] [(a0, cF a1 a2 a3 a4 a5 a6 Xn.2.2.2.2.2.2), (a1, cS Xn.1), (a2, cS Xn.2.1), (a3, cB Xn.2.2.1), (a4, cB Xn.2.2.2.1), (a5, cB Xn.2.2.2.2.1), (a6, cB Xn.2.2.2.2.2.1), (z0, cZ .null z1 (Z.2.2.1, Z.2.2.2.1, Z.2.2.2.2.1, Z.2.2.2.2.2.1, Z.2.2.2.2.2.2.1, Z.2.2.2.2.2.2.2.1, (Z.1.1 + 3), 1, Z.2.2.2.2.2.2.2.2.2.2)), (z1, cQ cJ z2 z3), (z2, cA4 cI Z.1), (z3, cA4 cI Z.2.1)] rfl rfl rfl rfl (by decide) [a0, a1, a2, a3, a4, a5, a6] rfl rfl rfl rfl 0 2 rfl rfl rfl (Nat.le_of_ble_eq_true rfl) ⟨Nat.le_of_ble_eq_true rfl, Nat.le_of_ble_eq_true rfl⟩ rfl dL_act_188 rfl ?_
              refine k_istore C [(8, .int (Z.1.1 + 3)), (7, .int (fX4_canSet_n Z)), (6, .int 3), (5, .int q2), (4, .int q1), (3, .int q0), (0, .ref a0), (1, .ref z0), (2, .int x)] (by decide) rfl dL_act_191 ?_
              refine k_iload C dL_act_193 1 rfl ?_
              refine k_if_eq C 211 (by decide) dL_act_195 (fun h9 => absurd h9 c21) (fun _ => ?_)
              refine k_iload C dL_act_198 0 rfl ?_
              refine k_aload_n C dL_act_200 7 rfl ?_
              refine k_getX4 C 7 8 rfl (by decide) rfl q434 rfl dL_act_201 ?_
              refine k_icmp_ne C 211 (by decide) dL_act_204 (fun h9 => absurd rfl h9) (fun _ => ?_)
              refine k_iconst C 1 (by decide) dL_act_207 ?_
              refine k_goto C 212 (by decide) dL_act_208 ?_
              refine k_widen (k' := 4) (n' := 40) (Nat.le_of_ble_eq_true rfl) (Nat.le_of_ble_eq_true rfl) ?_
              exact k_zretG C rfl rfl ⟨rfl, Xn, (Z.1, Z.2.1, Z.2.2.1, Z.2.2.2.1, Z.2.2.2.2.1, Z.2.2.2.2.2.1, Z.2.2.2.2.2.2.1, Z.2.2.2.2.2.2.2.1, (Z.1.1 + 3), 1, Z.2.2.2.2.2.2.2.2.2.2), none, _, rfl, wSim_none cI cJ z0 z1 z2 z3 (Z.1, Z.2.1, Z.2.2.1, Z.2.2.2.1, Z.2.2.2.2.1, Z.2.2.2.2.2.1, Z.2.2.2.2.2.2.1, Z.2.2.2.2.2.2.2.1, (Z.1.1 + 3), 1, Z.2.2.2.2.2.2.2.2.2.2), e3, e4⟩ dL_act_212
    ·
      refine k_iload_n C dL_act_99 5 rfl ?_
      refine k_iconst C 4 (by decide) dL_act_100 ?_
      refine k_ishr C dL_act_101 ?_
      refine k_iconst C 2 (by decide) dL_act_102 ?_
      refine k_callS_i C (mL_below l D cI cJ (x >>> (4 &&& 31)) 2 (by decide)) (va_cwS 2 C.2.2.2.2.1 (kGS q553 q554 q34 q555) rfl rfl rfl hdL_below ⟨Nat.le_of_ble_eq_true rfl, Nat.le_of_ble_eq_true rfl⟩) [] [0, 1, 2, 3, 4, 5, 6, 7, 8, 9, 10] [0, 1, 2, 3, 4, 5, 6, 7, 8, 9, 10] [(a0, cF a1 a2 a3 a4 a5 a6 X.2.2.2.2.2.2), (a1, cS X.1), (a2, cS X.2.1), (a3, cB X.2.2.1), (a4, cB X.2.2.2.1), (a5, cB X.2.2.2.2.1), (a6, cB X.2.2.2.2.2.1), (z0, cZ .null z1 Z.2.2), (z1, cQ cJ z2 z3), (z2, cA4 cI Z.1), (z3, cA4 cI Z.2.1)] ([(a0, cF a1 a2 a3 a4 a5 a6 X.2.2.2.2.2.2), (a1, cS X.1), (a2, cS X.2.1), (a3, cB X.2.2.1), (a4, cB X.2.2.2.1), (a5, cB X.2.2.2.2.1), (a6, cB X.2.2.2.2.2.1), (z0, cZ .null z1 Z.2.2), (z1, cQ cJ z2 z3), (z2, cA4 cI Z.1), (z3, cA4 cI Z.2.1)]) rfl rfl rfl rfl (by decide) [] rfl rfl rfl rfl (Nat.le_of_ble_eq_true rfl) ⟨Nat.le_of_ble_eq_true rfl, Nat.le_of_ble_eq_true rfl⟩ rfl dL_act_103 ?_
      refine k_istore C [(6, .int (fL_below (x >>> (4 &&& 31)) 2)), (5, .int q2), (4, .int q1), (3, .int q0), (0, .ref a0), (1, .ref z0), (2, .int x)] (by decide) rfl dL_act_106 ?_
      refine k_aload_n C dL_act_108 4 rfl ?_
      refine k_iload C dL_act_109 0 rfl ?_
      obtain ⟨v, Xn, Zn, e1, e2, e3, e4⟩ := pr_match h (p0 := (fL_below (x >>> (4 &&& 31)) 2)) (side_b _)
      have hM23 : kCX l D cI cJ yX2_match (.code yX2_match cX2_match 3 (some .int)) { frames := 6, cells := 1, slots := 6, locals := 90 } [.ref a0, .int (fL_below (x >>> (4 &&& 31)) 2)] (wC a0 a1 a2 a3 a4 a5 a6 X) 0 v (wC a0 a1 a2 a3 a4 a5 a6 Xn) := by
        have h9 := x_X2_match l hl D cI cJ a0 a1 a2 a3 a4 a5 a6 (fL_below (x >>> (4 &&& 31)) 2) X
        rw [e1] at h9
        exact h9
      refine k_callX0 C T hM23 (cwV 1 C.2.2.2.2.1 (kGV q564 q565 q566 q35 q567) rfl rfl rfl ⟨rfl, hdX2_match⟩ ⟨Nat.le_of_ble_eq_true rfl, Nat.le_of_ble_eq_true rfl⟩) [0, 1, 2, 3, 4, 5, 6] [7, 8, 9, 10] [4, 5, 6, 7, 8, 9, 10, 0, 1, 2, 3] [(z0, cZ .null z1 Z.2.2), (z1, cQ cJ z2 z3), (z2, cA4 cI Z.1), (z3, cA4 cI Z.2.1)] [(a0, cF a1 a2 a3 a4 a5 a6 Xn.2.2.2.2.2.2), (a1, cS Xn.1), (a2, cS Xn.2.1), (a3, cB Xn.2.2.1), (a4, cB Xn.2.2.2.1), (a5, cB Xn.2.2.2.2.1), (a6, cB Xn.2.2.2.2.2.1), (z0, cZ .null z1 Z.2.2), (z1, cQ cJ z2 z3), (z2, cA4 cI Z.1), (z3, cA4 cI Z.2.1)] rfl rfl rfl rfl (by decide) [a0, a1, a2, a3, a4, a5, a6] rfl rfl rfl rfl 0 2 rfl rfl rfl (Nat.le_of_ble_eq_true rfl) ⟨Nat.le_of_ble_eq_true rfl, Nat.le_of_ble_eq_true rfl⟩ rfl dL_act_111 rfl ?_
      refine k_aload_n C dL_act_114 5 rfl ?_
      refine k_iload C dL_act_115 0 rfl ?_
      have hG24 := mX4_match l D cI cJ z0 z1 z2 z3 (fL_below (x >>> (4 &&& 31)) 2) Z
      rw [e2] at hG24
      refine k_callGV_i C hG24 (cwV 1 C.2.2.2.2.1 (kGV q581 q582 q583 q38 q584) rfl rfl rfl ⟨rfl, hdX4_match⟩ ⟨Nat.le_of_ble_eq_true rfl, Nat.le_of_ble_eq_true rfl⟩) [7, 8, 9, 10] [0, 1, 2, 3, 4, 5, 6] [(a0, cF a1 a2 a3 a4 a5 a6 Xn.2.2.2.2.2.2), (a1, cS Xn.1), (a2, cS Xn.2.1), (a3, cB Xn.2.2.1), (a4, cB Xn.2.2.2.1), (a5, cB Xn.2.2.2.2.1), (a6, cB Xn.2.2.2.2.2.1)] rfl rfl rfl rfl (by decide) 7 4 rfl rfl rfl (Nat.le_of_ble_eq_true rfl) ⟨Nat.le_of_ble_eq_true rfl, Nat.le_of_ble_eq_true rfl⟩ rfl dL_act_117 (fun r25 U26 hU27 => ?_)
      obtain ⟨rfl, hU27⟩ := hU27
      refine k_icmp_ne C 127 (by decide) dL_act_120 (fun h => absurd rfl h) (fun _ => ?_)
      refine k_iconst C 1 (by decide) dL_act_123 ?_
      refine k_goto C 128 (by decide) dL_act_124 ?_
      refine k_widen (k' := 4) (n' := 40) (Nat.le_of_ble_eq_true rfl) (Nat.le_of_ble_eq_true rfl) ?_
      exact k_zretG C rfl rfl ⟨rfl, Xn, Zn, _, U26, rfl, hU27, e3, (e4 h.off)⟩ dL_act_128