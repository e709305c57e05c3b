/-! the law: a moment behind the end -/
set_option maxHeartbeats 4000000 in
set_option maxRecDepth 100000 in
theorem S6b {p : Program} {l : Launch} {e : Env} {s : State} {m : MethodId} {args : Array Value} {below : List Frame} {meth : Method} {c : Code} {D : va_G} {cI cJ : ClassId} {A : Nat → Prop} {Q : State → Prop} {a0 a1 a2 a3 a4 a5 a6 z0 z1 z2 z3 z4 sc : Nat} {b : Lb} {X : Co} {Z : Zs} {K N : Nat} (C : kCx p s m args meth c RL cL_law 23 ret D cI cJ A) (hK : K + 3000 ≤ 600104) (hN : N + 30000 ≤ 7301314) (hl : l.stackTraces = false) (T : kTE A s s.heap) {x ia ti ro tu bo fr : Int32} {dg : Int64} {k : Nat} (a t : Ba) (f2 : ∀ a t : Ba, xX2_flight_2 (nI k) (XX X a t) = (0, (-99), XX X a t))  (h491 : ¬ (60 < (nI k))) (h498 : ¬ ((nI k) < (fX2_end_1 X))) (kk : ∀ a9 t9 : Ba, kW p l e room_1 s m args below meth c D A 23 (K + 1) (N + 6) Q [(a0, cF a1 a2 a3 a4 a5 a6 X.2.2.2.2.2.2), (a1, cS X.1), (a2, cS X.2.1), (a3, cB X.2.2.1), (a4, cB X.2.2.2.1), (a5, cB a9), (a6, cB t9), (z0, cZ (.ref z4) z1 Z.2.2), (z1, cQ cJ z2 z3), (z2, cA4 cI Z.1), (z3, cA4 cI Z.2.1), (z4, cL b)] 826 [(19, .int (nI k)), (18, .int ro), (17, .int tu), (16, .int bo), (15, .int fr), (14, .int (fX2_end_1 X)), (13, .int (fX2_end_0 X)), (11, .long dg), (5, .int x), (0, .ref sc), (1, .ref a0), (2, .ref z0), (3, .int ia), (4, .int ti)] []) : kW p l e room_1 s m args below meth c D A 23 K N Q [(a0, cF a1 a2 a3 a4 a5 a6 X.2.2.2.2.2.2), (a1, cS X.1), (a2, cS X.2.1), (a3, cB X.2.2.1), (a4, cB X.2.2.2.1), (a5, cB a), (a6, cB t), (z0, cZ (.ref z4) z1 Z.2.2), (z1, cQ cJ z2 z3), (z2, cA4 cI Z.1), (z3, cA4 cI Z.2.1), (z4, cL b)] 487 [(19, .int (nI k)), (18, .int ro), (17, .int tu), (16, .int bo), (15, .int fr), (14, .int (fX2_end_1 X)), (13, .int (fX2_end_0 X)), (11, .long dg), (5, .int x), (0, .ref sc), (1, .ref a0), (2, .ref z0), (3, .int ia), (4, .int ti)] [] := by
  refine k_iload C dL_law_487 0 rfl ?_
  refine k_bipush C 60 (by decide) dL_law_489 ?_
  refine k_icmp_gt C 832 (by decide) dL_law_491 (fun h => absurd h h491) (fun _ => ?_)
  refine k_iload C dL_law_494 0 rfl ?_
  refine k_iload C dL_law_496 5 rfl ?_
  refine k_icmp_lt C 505 (by decide) dL_law_498 (fun h => absurd h h498) (fun _ => ?_)
  refine k_iconst C 1 (by decide) dL_law_501 ?_
  refine k_goto C 506 (by decide) dL_law_502 ?_
  refine k_istore C [(20, .int 1), (19, .int (nI k)), (18, .int ro), (17, .int tu), (16, .int bo), (15, .int fr), (14, .int (fX2_end_1 X)), (13, .int (fX2_end_0 X)), (11, .long dg), (5, .int x), (0, .ref sc), (1, .ref a0), (2, .ref z0), (3, .int ia), (4, .int ti)] (by decide) rfl dL_law_506 ?_
  refine k_aload_n C dL_law_508 11 rfl ?_
  refine k_iload C dL_law_509 1 rfl ?_
  refine k_iconst C 2 (by decide) dL_law_511 ?_
  have hM1 : kCX l D cI cJ yX2_flight (.code yX2_flight cX2_flight 3 (some .int)) { frames := 6, cells := 1, slots := 6, locals := 127 } [.ref a0, .int (nI k), .int 2] (wC a0 a1 a2 a3 a4 a5 a6 (XX X a t)) 0 (-99) (wC a0 a1 a2 a3 a4 a5 a6 (XX X a t)) := by
    have h9 := x_X2_flight_2 l hl D cI cJ a0 a1 a2 a3 a4 a5 a6 (nI k) (XX X a t)
    rw [(f2 a t)] at h9
    exact h9
  refine k_callX0 C T hM1 (cwV 2 C.2.2.2.2.1 (kGV q276 q277 q278 q35 q279) rfl rfl rfl ⟨rfl, hdX2_flight⟩ ⟨Nat.le_of_ble_eq_true rfl, Nat.le_of_ble_eq_true rfl⟩) [0, 1, 2, 3, 4, 5, 6] [7, 8, 9, 10, 11] [5, 6, 7, 8, 9, 10, 11, 0, 1, 2, 3, 4] [(z0, cZ (.ref z4) z1 Z.2.2), (z1, cQ cJ z2 z3), (z2, cA4 cI Z.1), (z3, cA4 cI Z.2.1), (z4, cL b)] [(a0, cF a1 a2 a3 a4 a5 a6 X.2.2.2.2.2.2), (a1, cS X.1), (a2, cS X.2.1), (a3, cB X.2.2.1), (a4, cB X.2.2.2.1), (a5, cB a), (a6, cB t), (z0, cZ (.ref z4) z1 Z.2.2), (z1, cQ cJ z2 z3), (z2, cA4 cI Z.1), (z3, cA4 cI Z.2.1), (z4, cL b)] rfl rfl rfl rfl (by decide) [a0, a1, a2, a3, a4, a5, a6] rfl rfl rfl rfl 0 2 rfl rfl rfl (Nat.le_of_ble_eq_true rfl) ⟨by show _ ≤ 600104; omega, by show _ ≤ 7301314; omega⟩ rfl dL_law_512 rfl ?_
  refine k_bipush C (-99) (by decide) dL_law_515 ?_
  refine k_icmp_ne C 524 (by decide) dL_law_517 (fun h => absurd (by decide) h) (fun _ => ?_)
  refine k_iconst C 1 (by decide) dL_law_520 ?_
  refine k_goto C 525 (by decide) dL_law_521 ?_
  refine k_iload C dL_law_525 0 rfl ?_
  refine k_icmp_eq C 532 (by decide) dL_law_527 (fun _ => ?_) (fun h => absurd (by decide) h)
  refine k_iload C dL_law_532 0 rfl ?_
  refine k_if_eq C 540 (by decide) dL_law_534 (fun h => absurd h (by decide)) (fun _ => ?_)
  refine k_goto C 826 (by decide) dL_law_537 ?_
  refine k_widen (k' := K + 1) (n' := N + 6) (by omega) (by omega) ?_
  refine k_sub [1, 2, 3, 4, 5, 6, 7, 8, 9, 10, 11, 12, 13, 14] rfl ?_
  exact kk a t