/-! what the law does while a ball flies -/
set_option maxHeartbeats 4000000 in
set_option maxRecDepth 100000 in
theorem act_strike {p : Program} {l : Launch} {e : Env} {s : State} {m : MethodId} {args : Array Value} {below : List Frame} {meth : Method} {c : Code} {D : va_G} {cI cJ : ClassId} {A : Nat → Prop} {a0 a1 a2 a3 a4 a5 a6 z0 z1 z2 z3 z4 : Nat} {b : Lb} {X : Co} {Z : Zs} {x : Int32} (hl : l.stackTraces = false) (hTb : c.exceptionTable.toList = tableOf [(185, 212, 213, 68)]) (T : kTE A s s.heap) (C : kCx p s m args meth c RL cL_act 9 (some .boolean) D cI cJ A) {i : Nat} (hi : i < 512) (h : Rel i X Z (some b)) {q0 q1 q2 : Int32} (hq : Stk q0 q1 q2) : kW p l e { frames := 7, cells := 4, slots := 40, locals := 220 } s m args below meth c D A 9 0 0 (MQ below (va_Qi (fun r W => r = 1 ∧ ∃ (X' : Co) (Z' : Zs) (β' : Option Lb) (U : va_W), W = wC a0 a1 a2 a3 a4 a5 a6 X' ++ U ∧ wSim cI cJ z0 Z' β' U ∧ Rel (i + 1) X' Z' β' ∧ Tr X X') (fun U t => va_D A U ∧ va_P D kCl U t.heap) A) args s 4 40 A) (wC a0 a1 a2 a3 a4 a5 a6 X ++ (wZ cI cJ z0 z1 z2 z3 (.ref z4) Z ++ [(z4, cL b)])) 328 [(5, .int q2), (4, .int q1), (3, .int q0), (0, .ref a0), (1, .ref z0), (2, .int x)] [] := by
  obtain ⟨u1, u2, u3, u4, u5⟩ := h.on h.ron
  have hbB : b = c10 X.2.2.1 := Option.some.inj u5
  have hF : FN i X.2.2.1 := ⟨u2.fl, u3⟩
  refine k_aload_n C dL_act_328 4 rfl ?_
  refine k_iload_n C dL_act_329 5 rfl ?_
  refine k_iconst C 1 (by decide) dL_act_330 ?_
  refine k_ishr C dL_act_331 ?_
  have hMo1 := mL_moments l D cI cJ z0 z1 z2 z3 z4 Z b (x >>> (1 &&& 31)) (i := i) (by omega) hbB hF
  refine k_callGS_i C hMo1 (va_cwS 2 C.2.2.2.2.1 (kGS q494 q495 q34 q496) rfl rfl rfl hdL_moments ⟨Nat.le_of_ble_eq_true rfl, Nat.le_of_ble_eq_true rfl⟩) [7, 8, 9, 10, 11] [0, 1, 2, 3, 4, 5, 6] [(a0, cF a1 a2 a3 a4 a5 a6 X.2.2.2.2.2.2), (a1, cS X.1), (a2, cS X.2.1), (a3, cB X.2.2.1), (a4, cB X.2.2.2.1), (a5, cB X.2.2.2.2.1), (a6, cB X.2.2.2.2.2.1)] rfl rfl rfl rfl (by decide) (Nat.le_of_ble_eq_true rfl) ⟨Nat.le_of_ble_eq_true rfl, Nat.le_of_ble_eq_true rfl⟩ rfl dL_act_332 (fun r2 U h3 => ?_)
  obtain ⟨h31, h32, rfl⟩ := h3
  refine k_wsub (w' := [(a0, cF a1 a2 a3 a4 a5 a6 X.2.2.2.2.2.2), (a1, cS X.1), (a2, cS X.2.1), (a3, cB X.2.2.1), (a4, cB X.2.2.2.1), (a5, cB X.2.2.2.2.1), (a6, cB X.2.2.2.2.2.1), (z0, cZ (.ref z4) z1 Z.2.2), (z1, cQ cJ z2 z3), (z2, cA4 cI Z.1), (z3, cA4 cI Z.2.1), (z4, cL b)]) [0, 1, 2, 3, 4, 5, 6, 7, 8, 9, 10, 11] rfl rfl ?_
  refine k_istore C [(6, .int r2), (5, .int q2), (4, .int q1), (3, .int q0), (0, .ref a0), (1, .ref z0), (2, .int x)] (by decide) rfl dL_act_335 ?_
  refine k_aload_n C dL_act_337 4 rfl ?_
  refine k_iload C dL_act_338 0 rfl ?_
  refine k_iload_n C dL_act_340 3 rfl ?_
  refine k_iload C dL_act_341 2 rfl ?_
  refine k_iload C dL_act_343 1 rfl ?_
  obtain ⟨v, Xn, Zn, bn, e1, e2, e3, e4⟩ := pr_strike hi h h.ron h31 h32 hq
  have hM4 : kCX l D cI cJ yX2_strike (.code yX2_strike cX2_strike 5 (some .int)) { frames := 6, cells := 1, slots := 6, locals := 130 } [.ref a0, .int r2, .int q0, .int q1, .int q2] (wC a0 a1 a2 a3 a4 a5 a6 X) 0 v (wC a0 a1 a2 a3 a4 a5 a6 Xn) := by
    have h9 := x_X2_strike l hl D cI cJ a0 a1 a2 a3 a4 a5 a6 r2 q0 q1 q2 X
    rw [e1] at h9
    exact h9
  refine k_callX0 C T hM4 (cwV 4 C.2.2.2.2.1 (kGV q668 q669 q670 q35 q671) rfl rfl rfl ⟨rfl, hdX2_strike⟩ ⟨Nat.le_of_ble_eq_true rfl, Nat.le_of_ble_eq_true rfl⟩) [0, 1, 2, 3, 4, 5, 6] [7, 8, 9, 10, 11] [5, 6, 7, 8, 9, 10, 11, 0, 1, 2, 3, 4] [(z0, cZ (.ref z4) z1 Z.2.2), (z1, cQ cJ z2 z3), (z2, cA4 cI Z.1), (z3, cA4 cI Z.2.1), (z4, cL b)] [(a0, cF a1 a2 a3 a4 a5 a6 Xn.2.2.2.2.2.2), (a1, cS Xn.1), (a2, cS Xn.2.1), (a3, cB Xn.2.2.1), (a4, cB Xn.2.2.2.1), (a5, cB Xn.2.2.2.2.1), (a6, cB Xn.2.2.2.2.2.1), (z0, cZ (.ref z4) z1 Z.2.2), (z1, cQ cJ z2 z3), (z2, cA4 cI Z.1), (z3, cA4 cI Z.2.1), (z4, cL b)] rfl rfl rfl rfl (by decide) [a0, a1, a2, a3, a4, a5, a6] rfl rfl rfl rfl 0 2 rfl rfl rfl (Nat.le_of_ble_eq_true rfl) ⟨Nat.le_of_ble_eq_true rfl, Nat.le_of_ble_eq_true rfl⟩ rfl dL_act_345 rfl ?_
  refine k_aload_n C dL_act_348 5 rfl ?_
  refine k_iload C dL_act_349 0 rfl ?_
  refine k_iload_n C dL_act_351 3 rfl ?_
  refine k_iload C dL_act_352 2 rfl ?_
  refine k_iload C dL_act_354 1 rfl ?_
  rcases e2 with ⟨et, e2⟩ | ⟨et, e2⟩
  ·
    have hG5 := hX4_strike_0 l D cI cJ z0 z1 z2 z3 z4 r2 q0 q1 q2 Z b et
    rw [e2] at hG5
    refine k_callGV_i C hG5 (cwV 4 C.2.2.2.2.1 (kGV q672 q673 q674 q38 q675) rfl rfl rfl ⟨rfl, hdX4_strike⟩ ⟨Nat.le_of_ble_eq_true rfl, Nat.le_of_ble_eq_true rfl⟩) [7, 8, 9, 10, 11] [0, 1, 2, 3, 4, 5, 6] [(a0, cF a1 a2 a3 a4 a5 a6 Xn.2.2.2.2.2.2), (a1, cS Xn.1), (a2, cS Xn.2.1), (a3, cB Xn.2.2.1), (a4, cB Xn.2.2.2.1), (a5, cB Xn.2.2.2.2.1), (a6, cB Xn.2.2.2.2.2.1)] rfl rfl rfl rfl (by decide) 7 4 rfl rfl rfl (Nat.le_of_ble_eq_true rfl) ⟨Nat.le_of_ble_eq_true rfl, Nat.le_of_ble_eq_true rfl⟩ rfl dL_act_356 (fun r6 U7 hU8 => ?_)
    obtain ⟨rfl, hU8⟩ := hU8
    refine k_icmp_ne C 366 (by decide) dL_act_359 (fun h => absurd rfl h) (fun _ => ?_)
    refine k_iconst C 1 (by decide) dL_act_362 ?_
    refine k_goto C 367 (by decide) dL_act_363 ?_
    refine k_widen (k' := 4) (n' := 40) (Nat.le_of_ble_eq_true rfl) (Nat.le_of_ble_eq_true rfl) ?_
    exact k_zretG C rfl rfl ⟨rfl, Xn, Zn, _, U7, rfl, hU8, e3, e4⟩ dL_act_367
  ·
    have hG9 := hX4_strike_1 l D cI cJ z0 z1 z2 z3 z4 r2 q0 q1 q2 Z b et
    rw [e2] at hG9
    refine k_callGV_i C hG9 (cwV 4 C.2.2.2.2.1 (kGV q672 q673 q674 q38 q675) rfl rfl rfl ⟨rfl, hdX4_strike⟩ ⟨Nat.le_of_ble_eq_true rfl, Nat.le_of_ble_eq_true rfl⟩) [7, 8, 9, 10, 11] [0, 1, 2, 3, 4, 5, 6] [(a0, cF a1 a2 a3 a4 a5 a6 Xn.2.2.2.2.2.2), (a1, cS Xn.1), (a2, cS Xn.2.1), (a3, cB Xn.2.2.1), (a4, cB Xn.2.2.2.1), (a5, cB Xn.2.2.2.2.1), (a6, cB Xn.2.2.2.2.2.1)] rfl rfl rfl rfl (by decide) 7 4 rfl rfl rfl (Nat.le_of_ble_eq_true rfl) ⟨Nat.le_of_ble_eq_true rfl, Nat.le_of_ble_eq_true rfl⟩ rfl dL_act_356 (fun r10 U11 hU12 => ?_)
    obtain ⟨rfl, hU12⟩ := hU12
    refine k_icmp_ne C 366 (by decide) dL_act_359 (fun h => absurd rfl h) (fun _ => ?_)
    refine k_iconst C 1 (by decide) dL_act_362 ?_
    refine k_goto C 367 (by decide) dL_act_363 ?_
    refine k_widen (k' := 4) (n' := 40) (Nat.le_of_ble_eq_true rfl) (Nat.le_of_ble_eq_true rfl) ?_
    exact k_zretG C rfl rfl ⟨rfl, Xn, Zn, _, U11, rfl, hU12, e3, e4⟩ dL_act_367
set_option maxHeartbeats 4000000 in
set_option maxRecDepth 100000 in
theorem act_r {p : Program} {l : Launch} {e : Env} {s : State} {m : MethodId} {args : Array Value} {below : List Frame} {meth : Method} {c : Code} {D : va_G} {cI cJ : ClassId} {A : Nat → Prop} {a0 a1 a2 a3 a4 a5 a6 z0 z1 z2 z3 z4 : Nat} {b : Lb} {X : Co} {Z : Zs} {x : Int32} (hl : l.stackTraces = false) (hTb : c.exceptionTable.toList = tableOf [(185, 212, 213, 68)]) (T : kTE A s s.heap) (C : kCx p s m args meth c RL cL_act 9 (some .boolean) D cI cJ A) {i : Nat} (hi : i < 512) (h : Rel i X Z (some b)) {q0 q1 q2 : Int32} (hq : Stk q0 q1 q2) : kW p l e { frames := 7, cells := 4, slots := 40, locals := 220 } s m args below meth c D A 9 0 0 (MQ below (va_Qi (fun r W => r = 1 ∧ ∃ (X' : Co) (Z' : Zs) (β' : Option Lb) (U : va_W), W = wC a0 a1 a2 a3 a4 a5 a6 X' ++ U ∧ wSim cI cJ z0 Z' β' U ∧ Rel (i + 1) X' Z' β' ∧ Tr X X') (fun U t => va_D A U ∧ va_P D kCl U t.heap) A) args s 4 40 A) (wC a0 a1 a2 a3 a4 a5 a6 X ++ (wZ cI cJ z0 z1 z2 z3 (.ref z4) Z ++ [(z4, cL b)])) 76 [(5, .int q2), (4, .int q1), (3, .int q0), (0, .ref a0), (1, .ref z0), (2, .int x)] [] := by
  refine k_aload_n C dL_act_76 4 rfl ?_
  refine k_getX4 C 7 3 rfl (by decide) rfl q427 rfl dL_act_77 ?_
  refine k_ifnonnull C 253 (by decide) dL_act_80 ?_
  refine k_iload_n C dL_act_253 5 rfl ?_
  refine k_bipush C 9 (by decide) dL_act_254 ?_
  refine k_callS_i C (mL_below l D cI cJ x 9 (by decide)) (va_cwS 2 C.2.2.2.2.1 (kGS q553 q554 q34 q555) rfl rfl rfl hdL_below ⟨Nat.le_of_ble_eq_true rfl, Nat.le_of_ble_eq_true rfl⟩) [] [0, 1, 2, 3, 4, 5, 6, 7, 8, 9, 10, 11] [0, 1, 2, 3, 4, 5, 6, 7, 8, 9, 10, 11] [(a0, cF a1 a2 a3 a4 a5 a6 X.2.2.2.2.2.2), (a1, cS X.1), (a2, cS X.2.1), (a3, cB X.2.2.1), (a4, cB X.2.2.2.1), (a5, cB X.2.2.2.2.1), (a6, cB X.2.2.2.2.2.1), (z0, cZ (.ref z4) z1 Z.2.2), (z1, cQ cJ z2 z3), (z2, cA4 cI Z.1), (z3, cA4 cI Z.2.1), (z4, cL b)] ([(a0, cF a1 a2 a3 a4 a5 a6 X.2.2.2.2.2.2), (a1, cS X.1), (a2, cS X.2.1), (a3, cB X.2.2.1), (a4, cB X.2.2.2.1), (a5, cB X.2.2.2.2.1), (a6, cB X.2.2.2.2.2.1), (z0, cZ (.ref z4) z1 Z.2.2), (z1, cQ cJ z2 z3), (z2, cA4 cI Z.1), (z3, cA4 cI Z.2.1), (z4, cL b)]) rfl rfl rfl rfl (by decide) [] rfl rfl rfl rfl (Nat.le_of_ble_eq_true rfl) ⟨Nat.le_of_ble_eq_true rfl, Nat.le_of_ble_eq_true rfl⟩ rfl dL_act_256 ?_
  obtain ⟨j, hj, ej⟩ := below_b x (d := 9) (by omega) (by omega)
  rw [show (9 : Int32) = nI 9 from by decide, ej]
  rcases (show j = 0 ∨ j = 1 ∨ j = 2 ∨ j = 3 ∨ j = 4 ∨ j = 5 ∨ j = 6 ∨ j = 7 ∨ j = 8 by omega) with rfl | rfl | rfl | rfl | rfl | rfl | rfl | rfl | rfl
  · refine k_lookup (off := 25) C 284 (by decide) (by decide) (by decide) dL_act_259 ?_
    refine k_aload_n C dL_act_284 3 rfl ?_
    obtain ⟨v, Xn, Zn, e1, e2, e3, e4⟩ := pr_leave hi h h.ron
    have hM1 : kCX l D cI cJ yX2_leave (.code yX2_leave cX2_leave 1 (some .int)) { frames := 6, cells := 1, slots := 6, locals := 90 } [.ref a0] (wC a0 a1 a2 a3 a4 a5 a6 X) 0 v (wC a0 a1 a2 a3 a4 a5 a6 Xn) := by
      have h9 := x_X2_leave l hl D cI cJ a0 a1 a2 a3 a4 a5 a6 X
      rw [e1] at h9
      exact h9
    refine k_callX0 C T hM1 (cwV 0 C.2.2.2.2.1 (kGV q621 q622 q623 q35 q624) rfl rfl rfl ⟨rfl, hdX2_leave⟩ ⟨Nat.le_of_ble_eq_true rfl, Nat.le_of_ble_eq_true rfl⟩) [0, 1, 2, 3, 4, 5, 6] [7, 8, 9, 10, 11] [5, 6, 7, 8, 9, 10, 11, 0, 1, 2, 3, 4] [(z0, cZ (.ref z4) z1 Z.2.2), (z1, cQ cJ z2 z3), (z2, cA4 cI Z.1), (z3, cA4 cI Z.2.1), (z4, cL b)] [(a0, cF a1 a2 a3 a4 a5 a6 Xn.2.2.2.2.2.2), (a1, cS Xn.1), (a2, cS Xn.2.1), (a3, cB Xn.2.2.1), (a4, cB Xn.2.2.2.1), (a5, cB Xn.2.2.2.2.1), (a6, cB Xn.2.2.2.2.2.1), (z0, cZ (.ref z4) z1 Z.2.2), (z1, cQ cJ z2 z3), (z2, cA4 cI Z.1), (z3, cA4 cI Z.2.1), (z4, cL b)] rfl rfl rfl rfl (by decide) [a0, a1, a2, a3, a4, a5, a6] rfl rfl rfl rfl 0 2 rfl rfl rfl (Nat.le_of_ble_eq_true rfl) ⟨Nat.le_of_ble_eq_true rfl, Nat.le_of_ble_eq_true rfl⟩ rfl dL_act_285 rfl ?_
    refine k_aload_n C dL_act_288 4 rfl ?_
    rcases e2 with ⟨et, e2⟩ | ⟨et, e2⟩
    ·
      have hG2 := hX4_leave_0 l D cI cJ z0 z1 z2 z3 z4 Z b et
      rw [e2] at hG2
      refine k_callGV_i C hG2 (cwV 0 C.2.2.2.2.1 (kGV q642 q643 q644 q38 q645) rfl rfl rfl ⟨rfl, hdX4_leave⟩ ⟨Nat.le_of_ble_eq_true rfl, Nat.le_of_ble_eq_true rfl⟩) [7, 8, 9, 10, 11] [0, 1, 2, 3, 4, 5, 6] [(a0, cF a1 a2 a3 a4 a5 a6 Xn.2.2.2.2.2.2), (a1, cS Xn.1), (a2, cS Xn.2.1), (a3, cB Xn.2.2.1), (a4, cB Xn.2.2.2.1), (a5, cB Xn.2.2.2.2.1), (a6, cB Xn.2.2.2.2.2.1)] rfl rfl rfl rfl (by decide) 7 4 rfl rfl rfl (Nat.le_of_ble_eq_true rfl) ⟨Nat.le_of_ble_eq_true rfl, Nat.le_of_ble_eq_true rfl⟩ rfl dL_act_289 (fun r3 U4 hU5 => ?_)
      obtain ⟨rfl, hU5⟩ := hU5
      refine k_icmp_ne C 299 (by decide) dL_act_292 (fun h => absurd rfl h) (fun _ => ?_)
      refine k_iconst C 1 (by decide) dL_act_295 ?_
      refine k_goto C 300 (by decide) dL_act_296 ?_
      refine k_widen (k' := 4) (n' := 40) (Nat.le_of_ble_eq_true rfl) (Nat.le_of_ble_eq_true rfl) ?_
      exact k_zretG C rfl rfl ⟨rfl, Xn, Zn, _, U4, rfl, hU5, e3, e4⟩ dL_act_300
    ·
      have hG6 := hX4_leave_1 l D cI cJ z0 z1 z2 z3 z4 Z b et
      rw [e2] at hG6
      refine k_callGV_i C hG6 (cwV 0 C.2.2.2.2.1 (kGV q642 q643 q644 q38 q645) rfl rfl rfl ⟨rfl, hdX4_leave⟩ ⟨Nat.le_of_ble_eq_true rfl, Nat.le_of_ble_eq_true rfl⟩) [7, 8, 9, 10, 11] [0, 1, 2, 3, 4, 5, 6] [(a0, cF a1 a2 a3 a4 a5 a6 Xn.2.2.2.2.2.2), (a1, cS Xn.1), (a2, cS Xn.2.1), (a3, cB Xn.2.2.1), (a4, cB Xn.2.2.2.1), (a5, cB Xn.2.2.2.2.1), (a6, cB Xn.2.2.2.2.2.1)] rfl rfl rfl rfl (by decide) 7 4 rfl rfl rfl (Nat.le_of_ble_eq_true rfl) ⟨Nat.le_of_ble_eq_true rfl, Nat.le_of_ble_eq_true rfl⟩ rfl dL_act_289 (fun r7 U8 hU9 => ?_)
      obtain ⟨rfl, hU9⟩ := hU9
      refine k_icmp_ne C 299 (by decide) dL_act_292 (fun h => absurd rfl h) (fun _ => ?_)
      refine k_iconst C 1 (by decide) dL_act_295 ?_
      refine k_goto C 300 (by decide) dL_act_296 ?_
      refine k_widen (k' := 4) (n' := 40) (Nat.le_of_ble_eq_true rfl) (Nat.le_of_ble_eq_true rfl) ?_
      exact k_zretG C rfl rfl ⟨rfl, Xn, Zn, _, U8, rfl, hU9, e3, e4⟩ dL_act_300
  · refine k_lookup (off := 42) C 301 (by decide) (by decide) (by decide) dL_act_259 ?_
    refine k_iload_n C dL_act_301 5 rfl ?_
    refine k_iconst C 3 (by decide) dL_act_302 ?_
    refine k_ishr C dL_act_303 ?_
    refine k_iconst C 3 (by decide) dL_act_304 ?_
    refine k_callS_i C (mL_below l D cI cJ (x >>> (3 &&& 31)) 3 (by decide)) (va_cwS 2 C.2.2.2.2.1 (kGS q553 q554 q34 q555) rfl rfl rfl hdL_below ⟨Nat.le_of_ble_eq_true rfl, Nat.le_of_ble_eq_true rfl⟩) [] [0, 1, 2, 3, 4, 5, 6, 7, 8, 9, 10, 11] [0, 1, 2, 3, 4, 5, 6, 7, 8, 9, 10, 11] [(a0, cF a1 a2 a3 a4 a5 a6 X.2.2.2.2.2.2), (a1, cS X.1), (a2, cS X.2.1), (a3, cB X.2.2.1), (a4, cB X.2.2.2.1), (a5, cB X.2.2.2.2.1), (a6, cB X.2.2.2.2.2.1), (z0, cZ (.ref z4) z1 Z.2.2), (z1, cQ cJ z2 z3), (z2, cA4 cI Z.1), (z3, cA4 cI Z.2.1), (z4, cL b)] ([(a0, cF a1 a2 a3 a4 a5 a6 X.2.2.2.2.2.2), (a1, cS X.1), (a2, cS X.2.1), (a3, cB X.2.2.1), (a4, cB X.2.2.2.1), (a5, cB X.2.2.2.2.1), (a6, cB X.2.2.2.2.2.1), (z0, cZ (.ref z4) z1 Z.2.2), (z1, cQ cJ z2 z3), (z2, cA4 cI Z.1), (z3, cA4 cI Z.2.1), (z4, cL b)]) rfl rfl rfl rfl (by decide) [] rfl rfl rfl rfl (Nat.le_of_ble_eq_true rfl) ⟨Nat.le_of_ble_eq_true rfl, Nat.le_of_ble_eq_true rfl⟩ rfl dL_act_305 ?_
    refine k_if_gt C 322 (by decide) dL_act_308 (fun c10 => ?_) (fun c10 => ?_)
    ·
      refine k_iconst C 1 (by decide) dL_act_322 ?_
      refine k_goto C 327 (by decide) dL_act_323 ?_
      refine k_widen (k' := 4) (n' := 40) (Nat.le_of_ble_eq_true rfl) (Nat.le_of_ble_eq_true rfl) ?_
      exact k_zretG C rfl rfl ⟨rfl, X, Z, some b, _, rfl, wSim_some cI cJ z0 z1 z2 z3 z4 Z b, h.mono, Tr.refl X⟩ dL_act_327
    ·
      refine k_aload_n C dL_act_311 3 rfl ?_
      obtain ⟨v, Xn, Zn, e1, e2, e3, e4⟩ := pr_let h h.ron
      have hM11 : kCX l D cI cJ yX2_let (.code yX2_let cX2_let 2 (some .int)) { frames := 6, cells := 1, slots := 6, locals := 90 } [.ref a0] (wC a0 a1 a2 a3 a4 a5 a6 X) 0 v (wC a0 a1 a2 a3 a4 a5 a6 Xn) := by
        have h9 := x_X2_let l hl D cI cJ a0 a1 a2 a3 a4 a5 a6 X
        rw [e1] at h9
        exact h9
      refine k_callX0 C T hM11 (cwV 0 C.2.2.2.2.1 (kGV q656 q657 q658 q35 q659) rfl rfl rfl ⟨rfl, hdX2_let⟩ ⟨Nat.le_of_ble_eq_true rfl, Nat.le_of_ble_eq_true rfl⟩) [0, 1, 2, 3, 4, 5, 6] [7, 8, 9, 10, 11] [5, 6, 7, 8, 9, 10, 11, 0, 1, 2, 3, 4] [(z0, cZ (.ref z4) z1 Z.2.2), (z1, cQ cJ z2 z3), (z2, cA4 cI Z.1), (z3, cA4 cI Z.2.1), (z4, cL b)] [(a0, cF a1 a2 a3 a4 a5 a6 Xn.2.2.2.2.2.2), (a1, cS Xn.1), (a2, cS Xn.2.1), (a3, cB Xn.2.2.1), (a4, cB Xn.2.2.2.1), (a5, cB Xn.2.2.2.2.1), (a6, cB Xn.2.2.2.2.2.1), (z0, cZ (.ref z4) z1 Z.2.2), (z1, cQ cJ z2 z3), (z2, cA4 cI Z.1), (z3, cA4 cI Z.2.1), (z4, cL b)] rfl rfl rfl rfl (by decide) [a0, a1, a2, a3, a4, a5, a6] rfl rfl rfl rfl 0 2 rfl rfl rfl (Nat.le_of_ble_eq_true rfl) ⟨Nat.le_of_ble_eq_true rfl, Nat.le_of_ble_eq_true rfl⟩ rfl dL_act_312 rfl ?_
      refine k_aload_n C dL_act_315 4 rfl ?_
      have hG : kCi l D cI cJ yX4_let (.code yX4_let cX4_let 1 (some .int)) { frames := 0, cells := 0, slots := 0, locals := 0 } [.ref z0] (wZ cI cJ z0 z1 z2 z3 (.ref z4) Z) v (wZ cI cJ z0 z1 z2 z3 .null Zn) := by
        have h9 := mX4_let l D cI cJ z0 z1 z2 z3 (.ref z4) Z
        rw [e2] at h9
        exact h9
      refine k_callV_i C hG (cwV 0 C.2.2.2.2.1 (kGV q664 q665 q666 q38 q667) rfl rfl rfl ⟨rfl, hdX4_let⟩ ⟨Nat.le_of_ble_eq_true rfl, Nat.le_of_ble_eq_true rfl⟩) [7, 8, 9, 10] [0, 1, 2, 3, 4, 5, 6, 11] [0, 1, 2, 3, 4, 5, 6, 8, 9, 10, 11] [(a0, cF a1 a2 a3 a4 a5 a6 Xn.2.2.2.2.2.2), (a1, cS Xn.1), (a2, cS Xn.2.1), (a3, cB Xn.2.2.1), (a4, cB Xn.2.2.2.1), (a5, cB Xn.2.2.2.2.1), (a6, cB Xn.2.2.2.2.2.1), (z4, cL b)] [(a0, cF a1 a2 a3 a4 a5 a6 Xn.2.2.2.2.2.2), (a1, cS Xn.1), (a2, cS Xn.2.1), (a3, cB Xn.2.2.1), (a4, cB Xn.2.2.2.1), (a5, cB Xn.2.2.2.2.1), (a6, cB Xn.2.2.2.2.2.1), (z0, cZ .null z1 Zn.2.2), (z1, cQ cJ z2 z3), (z2, cA4 cI Zn.1), (z3, cA4 cI Zn.2.1)] rfl rfl rfl rfl (by decide) [z0, z1, z2, z3] rfl rfl rfl rfl 7 4 rfl rfl rfl (Nat.le_of_ble_eq_true rfl) ⟨Nat.le_of_ble_eq_true rfl, Nat.le_of_ble_eq_true rfl⟩ rfl dL_act_316 ?_
      refine k_icmp_ne C 326 (by decide) dL_act_319 (fun h => absurd rfl h) (fun _ => ?_)
      refine k_iconst C 1 (by decide) dL_act_322 ?_
      refine k_goto C 327 (by decide) dL_act_323 ?_
      refine k_widen (k' := 4) (n' := 40) (Nat.le_of_ble_eq_true rfl) (Nat.le_of_ble_eq_true rfl) ?_
      exact k_zretG C rfl rfl ⟨rfl, Xn, Zn, none, _, rfl, (wSim_none cI cJ z0 z1 z2 z3 Zn), e3, e4⟩ dL_act_327
  · refine k_lookup (off := 69) C 328 (by decide) (by decide) (by decide) dL_act_259 ?_
    exact act_strike hl hTb T C hi h hq
  · refine k_lookup (off := 69) C 328 (by decide) (by decide) (by decide) dL_act_259 ?_
    exact act_strike hl hTb T C hi h hq
  · refine k_lookup (off := 69) C 328 (by decide) (by decide) (by decide) dL_act_259 ?_
    exact act_strike hl hTb T C hi h hq
  · refine k_lookup (off := 69) C 328 (by decide) (by decide) (by decide) dL_act_259 ?_
    exact act_strike hl hTb T C hi h hq
  · refine k_lookup (off := 69) C 328 (by decide) (by decide) (by decide) dL_act_259 ?_
    exact act_strike hl hTb T C hi h hq
  · refine k_lookup (off := 69) C 328 (by decide) (by decide) (by decide) dL_act_259 ?_
    exact act_strike hl hTb T C hi h hq
  · refine k_lookup (off := 69) C 328 (by decide) (by decide) (by decide) dL_act_259 ?_
    exact act_strike hl hTb T C hi h hq