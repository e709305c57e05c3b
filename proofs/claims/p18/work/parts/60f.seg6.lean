/-! the law: a moment of the flight that is told -/
set_option maxHeartbeats 4000000 in
set_option maxRecDepth 100000 in
theorem S6a {p : Program} {l : Launch} {e : Env} {s : State} {m : MethodId} {args : Array Value} {below : List Frame} {meth : Method} {c : Code} {D : va_G} {cI cJ : ClassId} {A : Nat → Prop} {Q : State → Prop} {a0 a1 a2 a3 a4 a5 a6 z0 z1 z2 z3 z4 sc : Nat} {b : Lb} {X : Co} {Z : Zs} {K N : Nat} (C : kCx p s m args meth c RL cL_law 23 ret D cI cJ A) (hK : K + 3000 ≤ 600104) (hN : N + 30000 ≤ 7301314) (hl : l.stackTraces = false) (T : kTE A s s.heap) {x ia ti ro tu bo fr : Int32} {dg : Int64} {k : Nat} {B : Ba} {w : Int32} (a t : Ba) (f0 : ∀ a t : Ba, xX2_flight_0 (nI k) (XX X a t) = (0, B.1, XX X B t)) (f1 : ∀ a t : Ba, xX2_flight_1 (nI k) (XX X a t) = (0, B.2.1, XX X B t)) (f2 : ∀ a t : Ba, xX2_flight_2 (nI k) (XX X a t) = (0, B.2.2.1, XX X B t)) (f3 : ∀ a t : Ba, xX2_flight_3 (nI k) (XX X a t) = (0, B.2.2.2.1, XX X B t)) (f4 : ∀ a t : Ba, xX2_flight_4 (nI k) (XX X a t) = (0, B.2.2.2.2.1, XX X B t)) (f6 : ∀ a t : Ba, xX2_flight_6 (nI k) (XX X a t) = (0, B.2.2.2.2.2.2.1, XX X B t)) (f7 : ∀ a t : Ba, xX2_flight_7 (nI k) (XX X a t) = (0, B.2.2.2.2.2.2.2.1, XX X B t)) (f8 : ∀ a t : Ba, xX2_flight_8 (nI k) (XX X a t) = (0, B.2.2.2.2.2.2.2.2.1, XX X B t)) (hW : ¬ nI k ≤ 0 → ∀ a t : Ba, ∃ a9 t9 : Ba, xX2_would (nI k) 0 (-2) 9 (XX X a t) = (0, w, XX X a9 t9)) (hWf : ¬ nI k ≤ 0 → (w ≤ 0 ↔ B.2.2.2.2.2.2.1 ≤ 0)) (hB1 : B.2.2.2.2.2.2.2.1 = 1 → ¬ B.2.2.2.2.2.2.1 = 0) (hBt : ¬ 2 ≤ B.1 → ¬ B.2.1 ≤ 9 → ¬ B.2.1 < 13)  (h491 : ¬ (60 < (nI k))) (h498 : ((nI k) < (fX2_end_1 X))) (h517 : ¬ (B.2.2.1 = (-99))) (h560 : ¬ (B.1 < 0)) (h567 : ¬ (11 < B.1)) (h572 : ¬ (B.2.1 < 0)) (h579 : ¬ (29 < B.2.1)) (h609 : ¬ (B.2.2.1 < 0)) (h621 : ¬ (2 < (if 0 ≤ (B.2.1 - ro) then (B.2.1 - ro) else 0 - (B.2.1 - ro)))) (h642 : ((if 0 ≤ B.2.2.2.1 then B.2.2.2.1 else 0 - B.2.2.2.1) = (if 0 ≤ (fX2_ball_3 (X.1, X.2.1, X.2.2.1, X.2.2.2.1, B, t, X.2.2.2.2.2.2)) then (fX2_ball_3 (X.1, X.2.1, X.2.2.1, X.2.2.2.1, B, t, X.2.2.2.2.2.2)) else 0 - (fX2_ball_3 (X.1, X.2.1, X.2.2.1, X.2.2.2.1, B, t, X.2.2.2.2.2.2))))) (h663 : ((if 0 ≤ B.2.2.2.2.1 then B.2.2.2.2.1 else 0 - B.2.2.2.2.1) = (if 0 ≤ (fX2_ball_4 (X.1, X.2.1, X.2.2.1, X.2.2.2.1, B, t, X.2.2.2.2.2.2)) then (fX2_ball_4 (X.1, X.2.1, X.2.2.1, X.2.2.2.1, B, t, X.2.2.2.2.2.2)) else 0 - (fX2_ball_4 (X.1, X.2.1, X.2.2.1, X.2.2.2.1, B, t, X.2.2.2.2.2.2))))) (h678 : ¬ (B.2.2.2.2.2.2.1 < fr)) (h691 : ¬ (B.2.2.2.2.2.2.2.1 < bo)) (h704 : ¬ (B.2.2.2.2.2.2.2.2.1 < tu)) (h716 : ¬ (1 < B.2.2.2.2.2.2.2.1)) (kk : ∀ a9 t9 : Ba, kW p l e room_1 s m args below meth c D A 23 (K + 16) (N + 96) Q [(a0, cF a1 a2 a3 a4 a5 a6 X.2.2.2.2.2.2), (a1, cS X.1), (a2, cS X.2.1), (a3, cB X.2.2.1), (a4, cB X.2.2.2.1), (a5, cB a9), (a6, cB t9), (z0, cZ (.ref z4) z1 Z.2.2), (z1, cQ cJ z2 z3), (z2, cA4 cI Z.1), (z3, cA4 cI Z.2.1), (z4, cL b)] 826 [(19, .int (nI k)), (18, .int B.2.1), (17, .int B.2.2.2.2.2.2.2.2.1), (16, .int B.2.2.2.2.2.2.2.1), (15, .int B.2.2.2.2.2.2.1), (14, .int (fX2_end_1 X)), (13, .int (fX2_end_0 X)), (11, .long dg), (5, .int x), (0, .ref sc), (1, .ref a0), (2, .ref z0), (3, .int ia), (4, .int ti)] []) : kW p l e room_1 s m args below meth c D A 23 K N Q [(a0, cF a1 a2 a3 a4 a5 a6 X.2.2.2.2.2.2), (a1, cS X.1), (a2, cS X.2.1), (a3, cB X.2.2.1), (a4, cB X.2.2.2.1), (a5, cB a), (a6, cB t), (z0, cZ (.ref z4) z1 Z.2.2), (z1, cQ cJ z2 z3), (z2, cA4 cI Z.1), (z3, cA4 cI Z.2.1), (z4, cL b)] 487 [(19, .int (nI k)), (18, .int ro), (17, .int tu), (16, .int bo), (15, .int fr), (14, .int (fX2_end_1 X)), (13, .int (fX2_end_0 X)), (11, .long dg), (5, .int x), (0, .ref sc), (1, .ref a0), (2, .ref z0), (3, .int ia), (4, .int ti)] [] := by
  refine k_iload C dL_law_487 0 rfl ?_
  refine k_bipush C 60 (by decide) dL_law_489 ?_
  refine k_icmp_gt C 832 (by decide) dL_law_491 (fun h => absurd h h491) (fun _ => ?_)
  refine k_iload C dL_law_494 0 rfl ?_
  refine k_iload C dL_law_496 5 rfl ?_
  refine k_icmp_lt C 505 (by decide) dL_law_498 (fun _ => ?_) (fun h => absurd h498 h)
  refine k_iconst C 0 (by decide) dL_law_505 ?_
  refine k_istore C [(20, .int 0), (19, .int (nI k)), (18, .int ro), (17, .int tu), (16, .int bo), (15, .int fr), (14, .int (fX2_end_1 X)), (13, .int (fX2_end_0 X)), (11, .long dg), (5, .int x), (0, .ref sc), (1, .ref a0), (2, .ref z0), (3, .int ia), (4, .int ti)] (by decide) rfl dL_law_506 ?_
  refine k_aload_n C dL_law_508 11 rfl ?_
  refine k_iload C dL_law_509 1 rfl ?_
  refine k_iconst C 2 (by decide) dL_law_511 ?_
  have hM1 : kCX l D cI cJ yX2_flight (.code yX2_flight cX2_flight 3 (some .int)) { frames := 6, cells := 1, slots := 6, locals := 127 } [.ref a0, .int (nI k), .int 2] (wC a0 a1 a2 a3 a4 a5 a6 (XX X a t)) 0 B.2.2.1 (wC a0 a1 a2 a3 a4 a5 a6 (XX X B t)) := by
    have h9 := x_X2_flight_2 l hl D cI cJ a0 a1 a2 a3 a4 a5 a6 (nI k) (XX X a t)
    rw [(f2 a t)] at h9
    exact h9
  refine k_callX0 C T hM1 (cwV 2 C.2.2.2.2.1 (kGV q276 q277 q278 q35 q279) rfl rfl rfl ⟨rfl, hdX2_flight⟩ ⟨Nat.le_of_ble_eq_true rfl, Nat.le_of_ble_eq_true rfl⟩) [0, 1, 2, 3, 4, 5, 6] [7, 8, 9, 10, 11] [5, 6, 7, 8, 9, 10, 11, 0, 1, 2, 3, 4] [(z0, cZ (.ref z4) z1 Z.2.2), (z1, cQ cJ z2 z3), (z2, cA4 cI Z.1), (z3, cA4 cI Z.2.1), (z4, cL b)] [(a0, cF a1 a2 a3 a4 a5 a6 X.2.2.2.2.2.2), (a1, cS X.1), (a2, cS X.2.1), (a3, cB X.2.2.1), (a4, cB X.2.2.2.1), (a5, cB B), (a6, cB t), (z0, cZ (.ref z4) z1 Z.2.2), (z1, cQ cJ z2 z3), (z2, cA4 cI Z.1), (z3, cA4 cI Z.2.1), (z4, cL b)] rfl rfl rfl rfl (by decide) [a0, a1, a2, a3, a4, a5, a6] rfl rfl rfl rfl 0 2 rfl rfl rfl (Nat.le_of_ble_eq_true rfl) ⟨by show _ ≤ 600104; omega, by show _ ≤ 7301314; omega⟩ rfl dL_law_512 rfl ?_
  refine k_bipush C (-99) (by decide) dL_law_515 ?_
  refine k_icmp_ne C 524 (by decide) dL_law_517 (fun _ => ?_) (fun h => absurd h h517)
  refine k_iconst C 0 (by decide) dL_law_524 ?_
  refine k_iload C dL_law_525 0 rfl ?_
  refine k_icmp_eq C 532 (by decide) dL_law_527 (fun _ => ?_) (fun h => absurd (by decide) h)
  refine k_iload C dL_law_532 0 rfl ?_
  refine k_if_eq C 540 (by decide) dL_law_534 (fun _ => ?_) (fun h => absurd (by decide) h)
  refine k_aload_n C dL_law_540 11 rfl ?_
  refine k_iload C dL_law_541 1 rfl ?_
  refine k_iconst C 0 (by decide) dL_law_543 ?_
  have hM2 : kCX l D cI cJ yX2_flight (.code yX2_flight cX2_flight 3 (some .int)) { frames := 6, cells := 1, slots := 6, locals := 127 } [.ref a0, .int (nI k), .int 0] (wC a0 a1 a2 a3 a4 a5 a6 (XX X B t)) 0 B.1 (wC a0 a1 a2 a3 a4 a5 a6 (XX X B t)) := by
    have h9 := x_X2_flight_0 l hl D cI cJ a0 a1 a2 a3 a4 a5 a6 (nI k) (XX X B t)
    rw [(f0 B t)] at h9
    exact h9
  refine k_callX0 C T hM2 (cwV 2 C.2.2.2.2.1 (kGV q276 q277 q278 q35 q279) rfl rfl rfl ⟨rfl, hdX2_flight⟩ ⟨Nat.le_of_ble_eq_true rfl, Nat.le_of_ble_eq_true rfl⟩) [0, 1, 2, 3, 4, 5, 6] [7, 8, 9, 10, 11] [5, 6, 7, 8, 9, 10, 11, 0, 1, 2, 3, 4] [(z0, cZ (.ref z4) z1 Z.2.2), (z1, cQ cJ z2 z3), (z2, cA4 cI Z.1), (z3, cA4 cI Z.2.1), (z4, cL b)] [(a0, cF a1 a2 a3 a4 a5 a6 X.2.2.2.2.2.2), (a1, cS X.1), (a2, cS X.2.1), (a3, cB X.2.2.1), (a4, cB X.2.2.2.1), (a5, cB B), (a6, cB t), (z0, cZ (.ref z4) z1 Z.2.2), (z1, cQ cJ z2 z3), (z2, cA4 cI Z.1), (z3, cA4 cI Z.2.1), (z4, cL b)] rfl rfl rfl rfl (by decide) [a0, a1, a2, a3, a4, a5, a6] rfl rfl rfl rfl 0 2 rfl rfl rfl (Nat.le_of_ble_eq_true rfl) ⟨by show _ ≤ 600104; omega, by show _ ≤ 7301314; omega⟩ rfl dL_law_544 rfl ?_
  refine k_istore C [(21, .int B.1), (20, .int 0), (19, .int (nI k)), (18, .int ro), (17, .int tu), (16, .int bo), (15, .int fr), (14, .int (fX2_end_1 X)), (13, .int (fX2_end_0 X)), (11, .long dg), (5, .int x), (0, .ref sc), (1, .ref a0), (2, .ref z0), (3, .int ia), (4, .int ti)] (by decide) rfl dL_law_547 ?_
  refine k_aload_n C dL_law_549 12 rfl ?_
  refine k_iload C dL_law_550 2 rfl ?_
  refine k_iconst C 1 (by decide) dL_law_552 ?_
  have hM3 : kCX l D cI cJ yX2_flight (.code yX2_flight cX2_flight 3 (some .int)) { frames := 6, cells := 1, slots := 6, locals := 127 } [.ref a0, .int (nI k), .int 1] (wC a0 a1 a2 a3 a4 a5 a6 (XX X B t)) 0 B.2.1 (wC a0 a1 a2 a3 a4 a5 a6 (XX X B t)) := by
    have h9 := x_X2_flight_1 l hl D cI cJ a0 a1 a2 a3 a4 a5 a6 (nI k) (XX X B t)
    rw [(f1 B t)] at h9
    exact h9
  refine k_callX0 C T hM3 (cwV 2 C.2.2.2.2.1 (kGV q276 q277 q278 q35 q279) rfl rfl rfl ⟨rfl, hdX2_flight⟩ ⟨Nat.le_of_ble_eq_true rfl, Nat.le_of_ble_eq_true rfl⟩) [0, 1, 2, 3, 4, 5, 6] [7, 8, 9, 10, 11] [5, 6, 7, 8, 9, 10, 11, 0, 1, 2, 3, 4] [(z0, cZ (.ref z4) z1 Z.2.2), (z1, cQ cJ z2 z3), (z2, cA4 cI Z.1), (z3, cA4 cI Z.2.1), (z4, cL b)] [(a0, cF a1 a2 a3 a4 a5 a6 X.2.2.2.2.2.2), (a1, cS X.1), (a2, cS X.2.1), (a3, cB X.2.2.1), (a4, cB X.2.2.2.1), (a5, cB B), (a6, cB t), (z0, cZ (.ref z4) z1 Z.2.2), (z1, cQ cJ z2 z3), (z2, cA4 cI Z.1), (z3, cA4 cI Z.2.1), (z4, cL b)] rfl rfl rfl rfl (by decide) [a0, a1, a2, a3, a4, a5, a6] rfl rfl rfl rfl 0 2 rfl rfl rfl (Nat.le_of_ble_eq_true rfl) ⟨by show _ ≤ 600104; omega, by show _ ≤ 7301314; omega⟩ rfl dL_law_553 rfl ?_
  refine k_istore C [(22, .int B.2.1), (21, .int B.1), (20, .int 0), (19, .int (nI k)), (18, .int ro), (17, .int tu), (16, .int bo), (15, .int fr), (14, .int (fX2_end_1 X)), (13, .int (fX2_end_0 X)), (11, .long dg), (5, .int x), (0, .ref sc), (1, .ref a0), (2, .ref z0), (3, .int ia), (4, .int ti)] (by decide) rfl dL_law_556 ?_
  refine k_iload C dL_law_558 1 rfl ?_
  refine k_if_lt C 666 (by decide) dL_law_560 (fun h => absurd h h560) (fun _ => ?_)
  refine k_iload C dL_law_563 1 rfl ?_
  refine k_bipush C 11 (by decide) dL_law_565 ?_
  refine k_icmp_gt C 666 (by decide) dL_law_567 (fun h => absurd h h567) (fun _ => ?_)
  refine k_iload C dL_law_570 0 rfl ?_
  refine k_if_lt C 666 (by decide) dL_law_572 (fun h => absurd h h572) (fun _ => ?_)
  refine k_iload C dL_law_575 0 rfl ?_
  refine k_bipush C 29 (by decide) dL_law_577 ?_
  refine k_icmp_gt C 666 (by decide) dL_law_579 (fun h => absurd h h579) (fun _ => ?_)
  refine k_iload C dL_law_582 1 rfl ?_
  refine k_iconst C 2 (by decide) dL_law_584 ?_
  refine k_icmp_ge C 602 (by decide) dL_law_585 (fun c4 => ?_) (fun c4 => ?_)
  ·
    refine k_aload_n C dL_law_602 13 rfl ?_
    refine k_iload C dL_law_603 3 rfl ?_
    refine k_iconst C 2 (by decide) dL_law_605 ?_
    have hM5 : kCX l D cI cJ yX2_flight (.code yX2_flight cX2_flight 3 (some .int)) { frames := 6, cells := 1, slots := 6, locals := 127 } [.ref a0, .int (nI k), .int 2] (wC a0 a1 a2 a3 a4 a5 a6 (XX X B t)) 0 B.2.2.1 (wC a0 a1 a2 a3 a4 a5 a6 (XX X B t)) := by
      have h9 := x_X2_flight_2 l hl D cI cJ a0 a1 a2 a3 a4 a5 a6 (nI k) (XX X B t)
      rw [(f2 B t)] at h9
      exact h9
    refine k_callX0 C T hM5 (cwV 2 C.2.2.2.2.1 (kGV q276 q277 q278 q35 q279) rfl rfl rfl ⟨rfl, hdX2_flight⟩ ⟨Nat.le_of_ble_eq_true rfl, Nat.le_of_ble_eq_true rfl⟩) [0, 1, 2, 3, 4, 5, 6] [7, 8, 9, 10, 11] [5, 6, 7, 8, 9, 10, 11, 0, 1, 2, 3, 4] [(z0, cZ (.ref z4) z1 Z.2.2), (z1, cQ cJ z2 z3), (z2, cA4 cI Z.1), (z3, cA4 cI Z.2.1), (z4, cL b)] [(a0, cF a1 a2 a3 a4 a5 a6 X.2.2.2.2.2.2), (a1, cS X.1), (a2, cS X.2.1), (a3, cB X.2.2.1), (a4, cB X.2.2.2.1), (a5, cB B), (a6, cB t), (z0, cZ (.ref z4) z1 Z.2.2), (z1, cQ cJ z2 z3), (z2, cA4 cI Z.1), (z3, cA4 cI Z.2.1), (z4, cL b)] rfl rfl rfl rfl (by decide) [a0, a1, a2, a3, a4, a5, a6] rfl rfl rfl rfl 0 2 rfl rfl rfl (Nat.le_of_ble_eq_true rfl) ⟨by show _ ≤ 600104; omega, by show _ ≤ 7301314; omega⟩ rfl dL_law_606 rfl ?_
    refine k_if_lt C 666 (by decide) dL_law_609 (fun h => absurd h h609) (fun _ => ?_)
    refine k_iload C dL_law_612 0 rfl ?_
    refine k_iload C dL_law_614 4 rfl ?_
    refine k_isub C dL_law_616 ?_
    refine k_abs C q677 q325 q45 q326 (Nat.le_of_ble_eq_true rfl) (Nat.le_of_ble_eq_true rfl) (by show _ ≤ 600104; omega) (by show _ ≤ 7301314; omega) dL_law_617 ?_
    refine k_iconst C 2 (by decide) dL_law_620 ?_
    refine k_icmp_gt C 666 (by decide) dL_law_621 (fun h => absurd h h621) (fun _ => ?_)
    refine k_aload_n C dL_law_624 13 rfl ?_
    refine k_iload C dL_law_625 3 rfl ?_
    refine k_iconst C 3 (by decide) dL_law_627 ?_
    have hM6 : kCX l D cI cJ yX2_flight (.code yX2_flight cX2_flight 3 (some .int)) { frames := 6, cells := 1, slots := 6, locals := 127 } [.ref a0, .int (nI k), .int 3] (wC a0 a1 a2 a3 a4 a5 a6 (XX X B t)) 0 B.2.2.2.1 (wC a0 a1 a2 a3 a4 a5 a6 (XX X B t)) := by
      have h9 := x_X2_flight_3 l hl D cI cJ a0 a1 a2 a3 a4 a5 a6 (nI k) (XX X B t)
      rw [(f3 B t)] at h9
      exact h9
    refine k_callX0 C T hM6 (cwV 2 C.2.2.2.2.1 (kGV q276 q277 q278 q35 q279) rfl rfl rfl ⟨rfl, hdX2_flight⟩ ⟨Nat.le_of_ble_eq_true rfl, Nat.le_of_ble_eq_true rfl⟩) [0, 1, 2, 3, 4, 5, 6] [7, 8, 9, 10, 11] [5, 6, 7, 8, 9, 10, 11, 0, 1, 2, 3, 4] [(z0, cZ (.ref z4) z1 Z.2.2), (z1, cQ cJ z2 z3), (z2, cA4 cI Z.1), (z3, cA4 cI Z.2.1), (z4, cL b)] [(a0, cF a1 a2 a3 a4 a5 a6 X.2.2.2.2.2.2), (a1, cS X.1), (a2, cS X.2.1), (a3, cB X.2.2.1), (a4, cB X.2.2.2.1), (a5, cB B), (a6, cB t), (z0, cZ (.ref z4) z1 Z.2.2), (z1, cQ cJ z2 z3), (z2, cA4 cI Z.1), (z3, cA4 cI Z.2.1), (z4, cL b)] rfl rfl rfl rfl (by decide) [a0, a1, a2, a3, a4, a5, a6] rfl rfl rfl rfl 0 2 rfl rfl rfl (Nat.le_of_ble_eq_true rfl) ⟨by show _ ≤ 600104; omega, by show _ ≤ 7301314; omega⟩ rfl dL_law_628 rfl ?_
    refine k_abs C q677 q325 q45 q326 (Nat.le_of_ble_eq_true rfl) (Nat.le_of_ble_eq_true rfl) (by show _ ≤ 600104; omega) (by show _ ≤ 7301314; omega) dL_law_631 ?_
    refine k_aload_n C dL_law_634 13 rfl ?_
    refine k_iconst C 3 (by decide) dL_law_635 ?_
    refine k_callV_i C (mX2_ball_3 l D cI cJ a0 a1 a2 a3 a4 a5 a6 (X.1, X.2.1, X.2.2.1, X.2.2.2.1, B, t, X.2.2.2.2.2.2)) (cwV 1 C.2.2.2.2.1 (kGV q168 q169 q170 q35 q171) rfl rfl rfl ⟨rfl, hdX2_ball⟩ ⟨Nat.le_of_ble_eq_true rfl, Nat.le_of_ble_eq_true rfl⟩) [0, 1, 2, 3, 4, 5, 6] [7, 8, 9, 10, 11] [5, 6, 7, 8, 9, 10, 11, 0, 1, 2, 3, 4] [(z0, cZ (.ref z4) z1 Z.2.2), (z1, cQ cJ z2 z3), (z2, cA4 cI Z.1), (z3, cA4 cI Z.2.1), (z4, cL b)] ([(a0, cF a1 a2 a3 a4 a5 a6 X.2.2.2.2.2.2), (a1, cS X.1), (a2, cS X.2.1), (a3, cB X.2.2.1), (a4, cB X.2.2.2.1), (a5, cB B), (a6, cB t), (z0, cZ (.ref z4) z1 Z.2.2), (z1, cQ cJ z2 z3), (z2, cA4 cI Z.1), (z3, cA4 cI Z.2.1), (z4, cL b)]) rfl rfl rfl rfl (by decide) [a0, a1, a2, a3, a4, a5, a6] rfl rfl rfl rfl 0 2 rfl rfl rfl (Nat.le_of_ble_eq_true rfl) ⟨by show _ ≤ 600104; omega, by show _ ≤ 7301314; omega⟩ rfl dL_law_636 ?_
    refine k_abs C q677 q325 q45 q326 (Nat.le_of_ble_eq_true rfl) (Nat.le_of_ble_eq_true rfl) (by show _ ≤ 600104; omega) (by show _ ≤ 7301314; omega) dL_law_639 ?_
    refine k_icmp_ne C 666 (by decide) dL_law_642 (fun h => absurd h642 h) (fun _ => ?_)
    refine k_aload_n C dL_law_645 13 rfl ?_
    refine k_iload C dL_law_646 3 rfl ?_
    refine k_iconst C 4 (by decide) dL_law_648 ?_
    have hM7 : kCX l D cI cJ yX2_flight (.code yX2_flight cX2_flight 3 (some .int)) { frames := 6, cells := 1, slots := 6, locals := 127 } [.ref a0, .int (nI k), .int 4] (wC a0 a1 a2 a3 a4 a5 a6 (XX X B t)) 0 B.2.2.2.2.1 (wC a0 a1 a2 a3 a4 a5 a6 (XX X B t)) := by
      have h9 := x_X2_flight_4 l hl D cI cJ a0 a1 a2 a3 a4 a5 a6 (nI k) (XX X B t)
      rw [(f4 B t)] at h9
      exact h9
    refine k_callX0 C T hM7 (cwV 2 C.2.2.2.2.1 (kGV q276 q277 q278 q35 q279) rfl rfl rfl ⟨rfl, hdX2_flight⟩ ⟨Nat.le_of_ble_eq_true rfl, Nat.le_of_ble_eq_true rfl⟩) [0, 1, 2, 3, 4, 5, 6] [7, 8, 9, 10, 11] [5, 6, 7, 8, 9, 10, 11, 0, 1, 2, 3, 4] [(z0, cZ (.ref z4) z1 Z.2.2), (z1, cQ cJ z2 z3), (z2, cA4 cI Z.1), (z3, cA4 cI Z.2.1), (z4, cL b)] [(a0, cF a1 a2 a3 a4 a5 a6 X.2.2.2.2.2.2), (a1, cS X.1), (a2, cS X.2.1), (a3, cB X.2.2.1), (a4, cB X.2.2.2.1), (a5, cB B), (a6, cB t), (z0, cZ (.ref z4) z1 Z.2.2), (z1, cQ cJ z2 z3), (z2, cA4 cI Z.1), (z3, cA4 cI Z.2.1), (z4, cL b)] rfl rfl rfl rfl (by decide) [a0, a1, a2, a3, a4, a5, a6] rfl rfl rfl rfl 0 2 rfl rfl rfl (Nat.le_of_ble_eq_true rfl) ⟨by show _ ≤ 600104; omega, by show _ ≤ 7301314; omega⟩ rfl dL_law_649 rfl ?_
    refine k_abs C q677 q325 q45 q326 (Nat.le_of_ble_eq_true rfl) (Nat.le_of_ble_eq_true rfl) (by show _ ≤ 600104; omega) (by show _ ≤ 7301314; omega) dL_law_652 ?_
    refine k_aload_n C dL_law_655 13 rfl ?_
    refine k_iconst C 4 (by decide) dL_law_656 ?_
    refine k_callV_i C (mX2_ball_4 l D cI cJ a0 a1 a2 a3 a4 a5 a6 (X.1, X.2.1, X.2.2.1, X.2.2.2.1, B, t, X.2.2.2.2.2.2)) (cwV 1 C.2.2.2.2.1 (kGV q168 q169 q170 q35 q171) rfl rfl rfl ⟨rfl, hdX2_ball⟩ ⟨Nat.le_of_ble_eq_true rfl, Nat.le_of_ble_eq_true rfl⟩) [0, 1, 2, 3, 4, 5, 6] [7, 8, 9, 10, 11] [5, 6, 7, 8, 9, 10, 11, 0, 1, 2, 3, 4] [(z0, cZ (.ref z4) z1 Z.2.2), (z1, cQ cJ z2 z3), (z2, cA4 cI Z.1), (z3, cA4 cI Z.2.1), (z4, cL b)] ([(a0, cF a1 a2 a3 a4 a5 a6 X.2.2.2.2.2.2), (a1, cS X.1), (a2, cS X.2.1), (a3, cB X.2.2.1), (a4, cB X.2.2.2.1), (a5, cB B), (a6, cB t), (z0, cZ (.ref z4) z1 Z.2.2), (z1, cQ cJ z2 z3), (z2, cA4 cI Z.1), (z3, cA4 cI Z.2.1), (z4, cL b)]) rfl rfl rfl rfl (by decide) [a0, a1, a2, a3, a4, a5, a6] rfl rfl rfl rfl 0 2 rfl rfl rfl (Nat.le_of_ble_eq_true rfl) ⟨by show _ ≤ 600104; omega, by show _ ≤ 7301314; omega⟩ rfl dL_law_657 ?_
    refine k_abs C q677 q325 q45 q326 (Nat.le_of_ble_eq_true rfl) (Nat.le_of_ble_eq_true rfl) (by show _ ≤ 600104; omega) (by show _ ≤ 7301314; omega) dL_law_660 ?_
    refine k_icmp_eq C 668 (by decide) dL_law_663 (fun _ => ?_) (fun h => absurd h663 h)
    refine k_aload_n C dL_law_668 13 rfl ?_
    refine k_iload C dL_law_669 3 rfl ?_
    refine k_bipush C 6 (by decide) dL_law_671 ?_
    have hM8 : kCX l D cI cJ yX2_flight (.code yX2_flight cX2_flight 3 (some .int)) { frames := 6, cells := 1, slots := 6, locals := 127 } [.ref a0, .int (nI k), .int 6] (wC a0 a1 a2 a3 a4 a5 a6 (XX X B t)) 0 B.2.2.2.2.2.2.1 (wC a0 a1 a2 a3 a4 a5 a6 (XX X B t)) := by
      have h9 := x_X2_flight_6 l hl D cI cJ a0 a1 a2 a3 a4 a5 a6 (nI k) (XX X B t)
      rw [(f6 B t)] at h9
      exact h9
    refine k_callX0 C T hM8 (cwV 2 C.2.2.2.2.1 (kGV q276 q277 q278 q35 q279) rfl rfl rfl ⟨rfl, hdX2_flight⟩ ⟨Nat.le_of_ble_eq_true rfl, Nat.le_of_ble_eq_true rfl⟩) [0, 1, 2, 3, 4, 5, 6] [7, 8, 9, 10, 11] [5, 6, 7, 8, 9, 10, 11, 0, 1, 2, 3, 4] [(z0, cZ (.ref z4) z1 Z.2.2), (z1, cQ cJ z2 z3), (z2, cA4 cI Z.1), (z3, cA4 cI Z.2.1), (z4, cL b)] [(a0, cF a1 a2 a3 a4 a5 a6 X.2.2.2.2.2.2), (a1, cS X.1), (a2, cS X.2.1), (a3, cB X.2.2.1), (a4, cB X.2.2.2.1), (a5, cB B), (a6, cB t), (z0, cZ (.ref z4) z1 Z.2.2), (z1, cQ cJ z2 z3), (z2, cA4 cI Z.1), (z3, cA4 cI Z.2.1), (z4, cL b)] rfl rfl rfl rfl (by decide) [a0, a1, a2, a3, a4, a5, a6] rfl rfl rfl rfl 0 2 rfl rfl rfl (Nat.le_of_ble_eq_true rfl) ⟨by show _ ≤ 600104; omega, by show _ ≤ 7301314; omega⟩ rfl dL_law_673 rfl ?_
    refine k_iload C dL_law_676 7 rfl ?_
    refine k_icmp_lt C 742 (by decide) dL_law_678 (fun h => absurd h h678) (fun _ => ?_)
    refine k_aload_n C dL_law_681 13 rfl ?_
    refine k_iload C dL_law_682 3 rfl ?_
    refine k_bipush C 7 (by decide) dL_law_684 ?_
    have hM9 : kCX l D cI cJ yX2_flight (.code yX2_flight cX2_flight 3 (some .int)) { frames := 6, cells := 1, slots := 6, locals := 127 } [.ref a0, .int (nI k), .int 7] (wC a0 a1 a2 a3 a4 a5 a6 (XX X B t)) 0 B.2.2.2.2.2.2.2.1 (wC a0 a1 a2 a3 a4 a5 a6 (XX X B t)) := by
      have h9 := x_X2_flight_7 l hl D cI cJ a0 a1 a2 a3 a4 a5 a6 (nI k) (XX X B t)
      rw [(f7 B t)] at h9
      exact h9
    refine k_callX0 C T hM9 (cwV 2 C.2.2.2.2.1 (kGV q276 q277 q278 q35 q279) rfl rfl rfl ⟨rfl, hdX2_flight⟩ ⟨Nat.le_of_ble_eq_true rfl, Nat.le_of_ble_eq_true rfl⟩) [0, 1, 2, 3, 4, 5, 6] [7, 8, 9, 10, 11] [5, 6, 7, 8, 9, 10, 11, 0, 1, 2, 3, 4] [(z0, cZ (.ref z4) z1 Z.2.2), (z1, cQ cJ z2 z3), (z2, cA4 cI Z.1), (z3, cA4 cI Z.2.1), (z4, cL b)] [(a0, cF a1 a2 a3 a4 a5 a6 X.2.2.2.2.2.2), (a1, cS X.1), (a2, cS X.2.1), (a3, cB X.2.2.1), (a4, cB X.2.2.2.1), (a5, cB B), (a6, cB t), (z0, cZ (.ref z4) z1 Z.2.2), (z1, cQ cJ z2 z3), (z2, cA4 cI Z.1), (z3, cA4 cI Z.2.1), (z4, cL b)] rfl rfl rfl rfl (by decide) [a0, a1, a2, a3, a4, a5, a6] rfl rfl rfl rfl 0 2 rfl rfl rfl (Nat.le_of_ble_eq_true rfl) ⟨by show _ ≤ 600104; omega, by show _ ≤ 7301314; omega⟩ rfl dL_law_686 rfl ?_
    refine k_iload C dL_law_689 6 rfl ?_
    refine k_icmp_lt C 742 (by decide) dL_law_691 (fun h => absurd h h691) (fun _ => ?_)
    refine k_aload_n C dL_law_694 13 rfl ?_
    refine k_iload C dL_law_695 3 rfl ?_
    refine k_bipush C 8 (by decide) dL_law_697 ?_
    have hM10 : kCX l D cI cJ yX2_flight (.code yX2_flight cX2_flight 3 (some .int)) { frames := 6, cells := 1, slots := 6, locals := 127 } [.ref a0, .int (nI k), .int 8] (wC a0 a1 a2 a3 a4 a5 a6 (XX X B t)) 0 B.2.2.2.2.2.2.2.2.1 (wC a0 a1 a2 a3 a4 a5 a6 (XX X B t)) := by
      have h9 := x_X2_flight_8 l hl D cI cJ a0 a1 a2 a3 a4 a5 a6 (nI k) (XX X B t)
      rw [(f8 B t)] at h9
      exact h9
    refine k_callX0 C T hM10 (cwV 2 C.2.2.2.2.1 (kGV q276 q277 q278 q35 q279) rfl rfl rfl ⟨rfl, hdX2_flight⟩ ⟨Nat.le_of_ble_eq_true rfl, Nat.le_of_ble_eq_true rfl⟩) [0, 1, 2, 3, 4, 5, 6] [7, 8, 9, 10, 11] [5, 6, 7, 8, 9, 10, 11, 0, 1, 2, 3, 4] [(z0, cZ (.ref z4) z1 Z.2.2), (z1, cQ cJ z2 z3), (z2, cA4 cI Z.1), (z3, cA4 cI Z.2.1), (z4, cL b)] [(a0, cF a1 a2 a3 a4 a5 a6 X.2.2.2.2.2.2), (a1, cS X.1), (a2, cS X.2.1), (a3, cB X.2.2.1), (a4, cB X.2.2.2.1), (a5, cB B), (a6, cB t), (z0, cZ (.ref z4) z1 Z.2.2), (z1, cQ cJ z2 z3), (z2, cA4 cI Z.1), (z3, cA4 cI Z.2.1), (z4, cL b)] rfl rfl rfl rfl (by decide) [a0, a1, a2, a3, a4, a5, a6] rfl rfl rfl rfl 0 2 rfl rfl rfl (Nat.le_of_ble_eq_true rfl) ⟨by show _ ≤ 600104; omega, by show _ ≤ 7301314; omega⟩ rfl dL_law_699 rfl ?_
    refine k_iload C dL_law_702 5 rfl ?_
    refine k_icmp_lt C 742 (by decide) dL_law_704 (fun h => absurd h h704) (fun _ => ?_)
    refine k_aload_n C dL_law_707 13 rfl ?_
    refine k_iload C dL_law_708 3 rfl ?_
    refine k_bipush C 7 (by decide) dL_law_710 ?_
    have hM11 : kCX l D cI cJ yX2_flight (.code yX2_flight cX2_flight 3 (some .int)) { frames := 6, cells := 1, slots := 6, locals := 127 } [.ref a0, .int (nI k), .int 7] (wC a0 a1 a2 a3 a4 a5 a6 (XX X B t)) 0 B.2.2.2.2.2.2.2.1 (wC a0 a1 a2 a3 a4 a5 a6 (XX X B t)) := by
      have h9 := x_X2_flight_7 l hl D cI cJ a0 a1 a2 a3 a4 a5 a6 (nI k) (XX X B t)
      rw [(f7 B t)] at h9
      exact h9
    refine k_callX0 C T hM11 (cwV 2 C.2.2.2.2.1 (kGV q276 q277 q278 q35 q279) rfl rfl rfl ⟨rfl, hdX2_flight⟩ ⟨Nat.le_of_ble_eq_true rfl, Nat.le_of_ble_eq_true rfl⟩) [0, 1, 2, 3, 4, 5, 6] [7, 8, 9, 10, 11] [5, 6, 7, 8, 9, 10, 11, 0, 1, 2, 3, 4] [(z0, cZ (.ref z4) z1 Z.2.2), (z1, cQ cJ z2 z3), (z2, cA4 cI Z.1), (z3, cA4 cI Z.2.1), (z4, cL b)] [(a0, cF a1 a2 a3 a4 a5 a6 X.2.2.2.2.2.2), (a1, cS X.1), (a2, cS X.2.1), (a3, cB X.2.2.1), (a4, cB X.2.2.2.1), (a5, cB B), (a6, cB t), (z0, cZ (.ref z4) z1 Z.2.2), (z1, cQ cJ z2 z3), (z2, cA4 cI Z.1), (z3, cA4 cI Z.2.1), (z4, cL b)] rfl rfl rfl rfl (by decide) [a0, a1, a2, a3, a4, a5, a6] rfl rfl rfl rfl 0 2 rfl rfl rfl (Nat.le_of_ble_eq_true rfl) ⟨by show _ ≤ 600104; omega, by show _ ≤ 7301314; omega⟩ rfl dL_law_712 rfl ?_
    refine k_iconst C 1 (by decide) dL_law_715 ?_
    refine k_icmp_gt C 742 (by decide) dL_law_716 (fun h => absurd h h716) (fun _ => ?_)
    refine k_aload_n C dL_law_719 13 rfl ?_
    refine k_iload C dL_law_720 3 rfl ?_
    refine k_bipush C 7 (by decide) dL_law_722 ?_
    have hM12 : kCX l D cI cJ yX2_flight (.code yX2_flight cX2_flight 3 (some .int)) { frames := 6, cells := 1, slots := 6, locals := 127 } [.ref a0, .int (nI k), .int 7] (wC a0 a1 a2 a3 a4 a5 a6 (XX X B t)) 0 B.2.2.2.2.2.2.2.1 (wC a0 a1 a2 a3 a4 a5 a6 (XX X B t)) := by
      have h9 := x_X2_flight_7 l hl D cI cJ a0 a1 a2 a3 a4 a5 a6 (nI k) (XX X B t)
      rw [(f7 B t)] at h9
      exact h9
    refine k_callX0 C T hM12 (cwV 2 C.2.2.2.2.1 (kGV q276 q277 q278 q35 q279) rfl rfl rfl ⟨rfl, hdX2_flight⟩ ⟨Nat.le_of_ble_eq_true rfl, Nat.le_of_ble_eq_true rfl⟩) [0, 1, 2, 3, 4, 5, 6] [7, 8, 9, 10, 11] [5, 6, 7, 8, 9, 10, 11, 0, 1, 2, 3, 4] [(z0, cZ (.ref z4) z1 Z.2.2), (z1, cQ cJ z2 z3), (z2, cA4 cI Z.1), (z3, cA4 cI Z.2.1), (z4, cL b)] [(a0, cF a1 a2 a3 a4 a5 a6 X.2.2.2.2.2.2), (a1, cS X.1), (a2, cS X.2.1), (a3, cB X.2.2.1), (a4, cB X.2.2.2.1), (a5, cB B), (a6, cB t), (z0, cZ (.ref z4) z1 Z.2.2), (z1, cQ cJ z2 z3), (z2, cA4 cI Z.1), (z3, cA4 cI Z.2.1), (z4, cL b)] rfl rfl rfl rfl (by decide) [a0, a1, a2, a3, a4, a5, a6] rfl rfl rfl rfl 0 2 rfl rfl rfl (Nat.le_of_ble_eq_true rfl) ⟨by show _ ≤ 600104; omega, by show _ ≤ 7301314; omega⟩ rfl dL_law_724 rfl ?_
    refine k_iconst C 1 (by decide) dL_law_727 ?_
    refine k_icmp_ne C 744 (by decide) dL_law_728 (fun c13 => ?_) (fun c13 => ?_)
    ·
      refine k_aload_n C dL_law_744 13 rfl ?_
      refine k_iload C dL_law_745 3 rfl ?_
      refine k_bipush C 6 (by decide) dL_law_747 ?_
      have hM14 : kCX l D cI cJ yX2_flight (.code yX2_flight cX2_flight 3 (some .int)) { frames := 6, cells := 1, slots := 6, locals := 127 } [.ref a0, .int (nI k), .int 6] (wC a0 a1 a2 a3 a4 a5 a6 (XX X B t)) 0 B.2.2.2.2.2.2.1 (wC a0 a1 a2 a3 a4 a5 a6 (XX X B t)) := by
        have h9 := x_X2_flight_6 l hl D cI cJ a0 a1 a2 a3 a4 a5 a6 (nI k) (XX X B t)
        rw [(f6 B t)] at h9
        exact h9
      refine k_callX0 C T hM14 (cwV 2 C.2.2.2.2.1 (kGV q276 q277 q278 q35 q279) rfl rfl rfl ⟨rfl, hdX2_flight⟩ ⟨Nat.le_of_ble_eq_true rfl, Nat.le_of_ble_eq_true rfl⟩) [0, 1, 2, 3, 4, 5, 6] [7, 8, 9, 10, 11] [5, 6, 7, 8, 9, 10, 11, 0, 1, 2, 3, 4] [(z0, cZ (.ref z4) z1 Z.2.2), (z1, cQ cJ z2 z3), (z2, cA4 cI Z.1), (z3, cA4 cI Z.2.1), (z4, cL b)] [(a0, cF a1 a2 a3 a4 a5 a6 X.2.2.2.2.2.2), (a1, cS X.1), (a2, cS X.2.1), (a3, cB X.2.2.1), (a4, cB X.2.2.2.1), (a5, cB B), (a6, cB t), (z0, cZ (.ref z4) z1 Z.2.2), (z1, cQ cJ z2 z3), (z2, cA4 cI Z.1), (z3, cA4 cI Z.2.1), (z4, cL b)] rfl rfl rfl rfl (by decide) [a0, a1, a2, a3, a4, a5, a6] rfl rfl rfl rfl 0 2 rfl rfl rfl (Nat.le_of_ble_eq_true rfl) ⟨by show _ ≤ 600104; omega, by show _ ≤ 7301314; omega⟩ rfl dL_law_749 rfl ?_
      refine k_istore C [(15, .int B.2.2.2.2.2.2.1), (22, .int B.2.1), (21, .int B.1), (20, .int 0), (19, .int (nI k)), (18, .int ro), (17, .int tu), (16, .int bo), (14, .int (fX2_end_1 X)), (13, .int (fX2_end_0 X)), (11, .long dg), (5, .int x), (0, .ref sc), (1, .ref a0), (2, .ref z0), (3, .int ia), (4, .int ti)] (by decide) rfl dL_law_752 ?_
      refine k_aload_n C dL_law_754 13 rfl ?_
      refine k_iload C dL_law_755 4 rfl ?_
      refine k_bipush C 7 (by decide) dL_law_757 ?_
      have hM15 : kCX l D cI cJ yX2_flight (.code yX2_flight cX2_flight 3 (some .int)) { frames := 6, cells := 1, slots := 6, locals := 127 } [.ref a0, .int (nI k), .int 7] (wC a0 a1 a2 a3 a4 a5 a6 (XX X B t)) 0 B.2.2.2.2.2.2.2.1 (wC a0 a1 a2 a3 a4 a5 a6 (XX X B t)) := by
        have h9 := x_X2_flight_7 l hl D cI cJ a0 a1 a2 a3 a4 a5 a6 (nI k) (XX X B t)
        rw [(f7 B t)] at h9
        exact h9
      refine k_callX0 C T hM15 (cwV 2 C.2.2.2.2.1 (kGV q276 q277 q278 q35 q279) rfl rfl rfl ⟨rfl, hdX2_flight⟩ ⟨Nat.le_of_ble_eq_true rfl, Nat.le_of_ble_eq_true rfl⟩) [0, 1, 2, 3, 4, 5, 6] [7, 8, 9, 10, 11] [5, 6, 7, 8, 9, 10, 11, 0, 1, 2, 3, 4] [(z0, cZ (.ref z4) z1 Z.2.2), (z1, cQ cJ z2 z3), (z2, cA4 cI Z.1), (z3, cA4 cI Z.2.1), (z4, cL b)] [(a0, cF a1 a2 a3 a4 a5 a6 X.2.2.2.2.2.2), (a1, cS X.1), (a2, cS X.2.1), (a3, cB X.2.2.1), (a4, cB X.2.2.2.1), (a5, cB B), (a6, cB t), (z0, cZ (.ref z4) z1 Z.2.2), (z1, cQ cJ z2 z3), (z2, cA4 cI Z.1), (z3, cA4 cI Z.2.1), (z4, cL b)] rfl rfl rfl rfl (by decide) [a0, a1, a2, a3, a4, a5, a6] rfl rfl rfl rfl 0 2 rfl rfl rfl (Nat.le_of_ble_eq_true rfl) ⟨by show _ ≤ 600104; omega, by show _ ≤ 7301314; omega⟩ rfl dL_law_759 rfl ?_
      refine k_istore C [(16, .int B.2.2.2.2.2.2.2.1), (15, .int B.2.2.2.2.2.2.1), (22, .int B.2.1), (21, .int B.1), (20, .int 0), (19, .int (nI k)), (18, .int ro), (17, .int tu), (14, .int (fX2_end_1 X)), (13, .int (fX2_end_0 X)), (11, .long dg), (5, .int x), (0, .ref sc), (1, .ref a0), (2, .ref z0), (3, .int ia), (4, .int ti)] (by decide) rfl dL_law_762 ?_
      refine k_aload_n C dL_law_764 13 rfl ?_
      refine k_iload C dL_law_765 5 rfl ?_
      refine k_bipush C 8 (by decide) dL_law_767 ?_
      have hM16 : kCX l D cI cJ yX2_flight (.code yX2_flight cX2_flight 3 (some .int)) { frames := 6, cells := 1, slots := 6, locals := 127 } [.ref a0, .int (nI k), .int 8] (wC a0 a1 a2 a3 a4 a5 a6 (XX X B t)) 0 B.2.2.2.2.2.2.2.2.1 (wC a0 a1 a2 a3 a4 a5 a6 (XX X B t)) := by
        have h9 := x_X2_flight_8 l hl D cI cJ a0 a1 a2 a3 a4 a5 a6 (nI k) (XX X B t)
        rw [(f8 B t)] at h9
        exact h9
      refine k_callX0 C T hM16 (cwV 2 C.2.2.2.2.1 (kGV q276 q277 q278 q35 q279) rfl rfl rfl ⟨rfl, hdX2_flight⟩ ⟨Nat.le_of_ble_eq_true rfl, Nat.le_of_ble_eq_true rfl⟩) [0, 1, 2, 3, 4, 5, 6] [7, 8, 9, 10, 11] [5, 6, 7, 8, 9, 10, 11, 0, 1, 2, 3, 4] [(z0, cZ (.ref z4) z1 Z.2.2), (z1, cQ cJ z2 z3), (z2, cA4 cI Z.1), (z3, cA4 cI Z.2.1), (z4, cL b)] [(a0, cF a1 a2 a3 a4 a5 a6 X.2.2.2.2.2.2), (a1, cS X.1), (a2, cS X.2.1), (a3, cB X.2.2.1), (a4, cB X.2.2.2.1), (a5, cB B), (a6, cB t), (z0, cZ (.ref z4) z1 Z.2.2), (z1, cQ cJ z2 z3), (z2, cA4 cI Z.1), (z3, cA4 cI Z.2.1), (z4, cL b)] rfl rfl rfl rfl (by decide) [a0, a1, a2, a3, a4, a5, a6] rfl rfl rfl rfl 0 2 rfl rfl rfl (Nat.le_of_ble_eq_true rfl) ⟨by show _ ≤ 600104; omega, by show _ ≤ 7301314; omega⟩ rfl dL_law_769 rfl ?_
      refine k_istore C [(17, .int B.2.2.2.2.2.2.2.2.1), (16, .int B.2.2.2.2.2.2.2.1), (15, .int B.2.2.2.2.2.2.1), (22, .int B.2.1), (21, .int B.1), (20, .int 0), (19, .int (nI k)), (18, .int ro), (14, .int (fX2_end_1 X)), (13, .int (fX2_end_0 X)), (11, .long dg), (5, .int x), (0, .ref sc), (1, .ref a0), (2, .ref z0), (3, .int ia), (4, .int ti)] (by decide) rfl dL_law_772 ?_
      refine k_iload C dL_law_774 3 rfl ?_
      refine k_istore C [(18, .int B.2.1), (17, .int B.2.2.2.2.2.2.2.2.1), (16, .int B.2.2.2.2.2.2.2.1), (15, .int B.2.2.2.2.2.2.1), (22, .int B.2.1), (21, .int B.1), (20, .int 0), (19, .int (nI k)), (14, .int (fX2_end_1 X)), (13, .int (fX2_end_0 X)), (11, .long dg), (5, .int x), (0, .ref sc), (1, .ref a0), (2, .ref z0), (3, .int ia), (4, .int ti)] (by decide) rfl dL_law_776 ?_
      refine k_iload C dL_law_778 7 rfl ?_
      refine k_if_le C 826 (by decide) dL_law_780 (fun c17 => ?_) (fun c17 => ?_)
      ·
        refine k_widen (k' := K + 16) (n' := N + 96) (by omega) (by omega) ?_
        refine k_sub [7, 0, 1, 2, 3, 8, 9, 10, 11, 12, 13, 14, 15, 16] rfl ?_
        exact kk B t
      ·
        refine k_iload C dL_law_783 7 rfl ?_
        refine k_bipush C 7 (by decide) dL_law_785 ?_
        refine k_irem C (by decide) dL_law_787 ?_
        refine k_iconst C 3 (by decide) dL_law_788 ?_
        refine k_icmp_ne C 826 (by decide) dL_law_789 (fun c18 => ?_) (fun c18 => ?_)
        ·
          refine k_widen (k' := K + 16) (n' := N + 96) (by omega) (by omega) ?_
          refine k_sub [7, 0, 1, 2, 3, 8, 9, 10, 11, 12, 13, 14, 15, 16] rfl ?_
          exact kk B t
        ·
          refine k_aload_n C dL_law_792 13 rfl ?_
          refine k_iload C dL_law_793 7 rfl ?_
          refine k_iconst C 0 (by decide) dL_law_795 ?_
          refine k_bipush C (-2) (by decide) dL_law_796 ?_
          refine k_bipush C 9 (by decide) dL_law_798 ?_
          obtain ⟨an, tn, ew⟩ := hW c17 B t
          have hM19 : kCX l D cI cJ yX2_would (.code yX2_would cX2_would 5 (some .int)) { frames := 7, cells := 1, slots := 6, locals := 148 } [.ref a0, .int (nI k), .int 0, .int (-2), .int 9] (wC a0 a1 a2 a3 a4 a5 a6 (XX X B t)) 0 w (wC a0 a1 a2 a3 a4 a5 a6 (XX X an tn)) := by
            have h9 := x_X2_would l hl D cI cJ a0 a1 a2 a3 a4 a5 a6 (nI k) 0 (-2) 9 (XX X B t)
            rw [ew] at h9
            exact h9
          refine k_callX0 C T hM19 (cwV 4 C.2.2.2.2.1 (kGV q362 q363 q364 q35 q365) rfl rfl rfl ⟨rfl, hdX2_would⟩ ⟨Nat.le_of_ble_eq_true rfl, Nat.le_of_ble_eq_true rfl⟩) [0, 1, 2, 3, 4, 5, 6] [7, 8, 9, 10, 11] [5, 6, 7, 8, 9, 10, 11, 0, 1, 2, 3, 4] [(z0, cZ (.ref z4) z1 Z.2.2), (z1, cQ cJ z2 z3), (z2, cA4 cI Z.1), (z3, cA4 cI Z.2.1), (z4, cL b)] [(a0, cF a1 a2 a3 a4 a5 a6 X.2.2.2.2.2.2), (a1, cS X.1), (a2, cS X.2.1), (a3, cB X.2.2.1), (a4, cB X.2.2.2.1), (a5, cB an), (a6, cB tn), (z0, cZ (.ref z4) z1 Z.2.2), (z1, cQ cJ z2 z3), (z2, cA4 cI Z.1), (z3, cA4 cI Z.2.1), (z4, cL b)] rfl rfl rfl rfl (by decide) [a0, a1, a2, a3, a4, a5, a6] rfl rfl rfl rfl 0 2 rfl rfl rfl (Nat.le_of_ble_eq_true rfl) ⟨by show _ ≤ 600104; omega, by show _ ≤ 7301314; omega⟩ rfl dL_law_800 rfl ?_
          refine k_if_le C 810 (by decide) dL_law_803 (fun c20 => ?_) (fun c20 => ?_)
          ·
            refine k_iconst C 0 (by decide) dL_law_810 ?_
            refine k_iload C dL_law_811 3 rfl ?_
            refine k_if_le C 820 (by decide) dL_law_813 (fun _ => ?_) (fun h => absurd ((hWf c17).mp c20) h)
            refine k_iconst C 0 (by decide) dL_law_820 ?_
            refine k_icmp_eq C 826 (by decide) dL_law_821 (fun _ => ?_) (fun h => absurd (by decide) h)
            refine k_widen (k' := K + 16) (n' := N + 96) (by omega) (by omega) ?_
            refine k_sub [7, 0, 1, 2, 3, 8, 9, 10, 11, 12, 13, 14, 15, 16] rfl ?_
            exact kk an tn
          ·
            refine k_iconst C 1 (by decide) dL_law_806 ?_
            refine k_goto C 811 (by decide) dL_law_807 ?_
            refine k_iload C dL_law_811 3 rfl ?_
            refine k_if_le C 820 (by decide) dL_law_813 (fun h => absurd h (fun h9 => c20 ((hWf c17).mpr h9))) (fun _ => ?_)
            refine k_iconst C 1 (by decide) dL_law_816 ?_
            refine k_goto C 821 (by decide) dL_law_817 ?_
            refine k_icmp_eq C 826 (by decide) dL_law_821 (fun _ => ?_) (fun h => absurd (by decide) h)
            refine k_widen (k' := K + 16) (n' := N + 96) (by omega) (by omega) ?_
            refine k_sub [7, 0, 1, 2, 3, 8, 9, 10, 11, 12, 13, 14, 15, 16] rfl ?_
            exact kk an tn
    ·
      refine k_aload_n C dL_law_731 13 rfl ?_
      refine k_iload C dL_law_732 3 rfl ?_
      refine k_bipush C 6 (by decide) dL_law_734 ?_
      have hM21 : kCX l D cI cJ yX2_flight (.code yX2_flight cX2_flight 3 (some .int)) { frames := 6, cells := 1, slots := 6, locals := 127 } [.ref a0, .int (nI k), .int 6] (wC a0 a1 a2 a3 a4 a5 a6 (XX X B t)) 0 B.2.2.2.2.2.2.1 (wC a0 a1 a2 a3 a4 a5 a6 (XX X B t)) := by
        have h9 := x_X2_flight_6 l hl D cI cJ a0 a1 a2 a3 a4 a5 a6 (nI k) (XX X B t)
        rw [(f6 B t)] at h9
        exact h9
      refine k_callX0 C T hM21 (cwV 2 C.2.2.2.2.1 (kGV q276 q277 q278 q35 q279) rfl rfl rfl ⟨rfl, hdX2_flight⟩ ⟨Nat.le_of_ble_eq_true rfl, Nat.le_of_ble_eq_true rfl⟩) [0, 1, 2, 3, 4, 5, 6] [7, 8, 9, 10, 11] [5, 6, 7, 8, 9, 10, 11, 0, 1, 2, 3, 4] [(z0, cZ (.ref z4) z1 Z.2.2), (z1, cQ cJ z2 z3), (z2, cA4 cI Z.1), (z3, cA4 cI Z.2.1), (z4, cL b)] [(a0, cF a1 a2 a3 a4 a5 a6 X.2.2.2.2.2.2), (a1, cS X.1), (a2, cS X.2.1), (a3, cB X.2.2.1), (a4, cB X.2.2.2.1), (a5, cB B), (a6, cB t), (z0, cZ (.ref z4) z1 Z.2.2), (z1, cQ cJ z2 z3), (z2, cA4 cI Z.1), (z3, cA4 cI Z.2.1), (z4, cL b)] rfl rfl rfl rfl (by decide) [a0, a1, a2, a3, a4, a5, a6] rfl rfl rfl rfl 0 2 rfl rfl rfl (Nat.le_of_ble_eq_true rfl) ⟨by show _ ≤ 600104; omega, by show _ ≤ 7301314; omega⟩ rfl dL_law_736 rfl ?_
      refine k_if_ne C 744 (by decide) dL_law_739 (fun _ => ?_) (fun h => absurd h (hB1 c13))
      refine k_aload_n C dL_law_744 13 rfl ?_
      refine k_iload C dL_law_745 3 rfl ?_
      refine k_bipush C 6 (by decide) dL_law_747 ?_
      have hM22 : kCX l D cI cJ yX2_flight (.code yX2_flight cX2_flight 3 (some .int)) { frames := 6, cells := 1, slots := 6, locals := 127 } [.ref a0, .int (nI k), .int 6] (wC a0 a1 a2 a3 a4 a5 a6 (XX X B t)) 0 B.2.2.2.2.2.2.1 (wC a0 a1 a2 a3 a4 a5 a6 (XX X B t)) := by
        have h9 := x_X2_flight_6 l hl D cI cJ a0 a1 a2 a3 a4 a5 a6 (nI k) (XX X B t)
        rw [(f6 B t)] at h9
        exact h9
      refine k_callX0 C T hM22 (cwV 2 C.2.2.2.2.1 (kGV q276 q277 q278 q35 q279) rfl rfl rfl ⟨rfl, hdX2_flight⟩ ⟨Nat.le_of_ble_eq_true rfl, Nat.le_of_ble_eq_true rfl⟩) [0, 1, 2, 3, 4, 5, 6] [7, 8, 9, 10, 11] [5, 6, 7, 8, 9, 10, 11, 0, 1, 2, 3, 4] [(z0, cZ (.ref z4) z1 Z.2.2), (z1, cQ cJ z2 z3), (z2, cA4 cI Z.1), (z3, cA4 cI Z.2.1), (z4, cL b)] [(a0, cF a1 a2 a3 a4 a5 a6 X.2.2.2.2.2.2), (a1, cS X.1), (a2, cS X.2.1), (a3, cB X.2.2.1), (a4, cB X.2.2.2.1), (a5, cB B), (a6, cB t), (z0, cZ (.ref z4) z1 Z.2.2), (z1, cQ cJ z2 z3), (z2, cA4 cI Z.1), (z3, cA4 cI Z.2.1), (z4, cL b)] rfl rfl rfl rfl (by decide) [a0, a1, a2, a3, a4, a5, a6] rfl rfl rfl rfl 0 2 rfl rfl rfl (Nat.le_of_ble_eq_true rfl) ⟨by show _ ≤ 600104; omega, by show _ ≤ 7301314; omega⟩ rfl dL_law_749 rfl ?_
      refine k_istore C [(15, .int B.2.2.2.2.2.2.1), (22, .int B.2.1), (21, .int B.1), (20, .int 0), (19, .int (nI k)), (18, .int ro), (17, .int tu), (16, .int bo), (14, .int (fX2_end_1 X)), (13, .int (fX2_end_0 X)), (11, .long dg), (5, .int x), (0, .ref sc), (1, .ref a0), (2, .ref z0), (3, .int ia), (4, .int ti)] (by decide) rfl dL_law_752 ?_
      refine k_aload_n C dL_law_754 13 rfl ?_
      refine k_iload C dL_law_755 4 rfl ?_
      refine k_bipush C 7 (by decide) dL_law_757 ?_
      have hM23 : kCX l D cI cJ yX2_flight (.code yX2_flight cX2_flight 3 (some .int)) { frames := 6, cells := 1, slots := 6, locals := 127 } [.ref a0, .int (nI k), .int 7] (wC a0 a1 a2 a3 a4 a5 a6 (XX X B t)) 0 B.2.2.2.2.2.2.2.1 (wC a0 a1 a2 a3 a4 a5 a6 (XX X B t)) := by
        have h9 := x_X2_flight_7 l hl D cI cJ a0 a1 a2 a3 a4 a5 a6 (nI k) (XX X B t)
        rw [(f7 B t)] at h9
        exact h9
      refine k_callX0 C T hM23 (cwV 2 C.2.2.2.2.1 (kGV q276 q277 q278 q35 q279) rfl rfl rfl ⟨rfl, hdX2_flight⟩ ⟨Nat.le_of_ble_eq_true rfl, Nat.le_of_ble_eq_true rfl⟩) [0, 1, 2, 3, 4, 5, 6] [7, 8, 9, 10, 11] [5, 6, 7, 8, 9, 10, 11, 0, 1, 2, 3, 4] [(z0, cZ (.ref z4) z1 Z.2.2), (z1, cQ cJ z2 z3), (z2, cA4 cI Z.1), (z3, cA4 cI Z.2.1), (z4, cL b)] [(a0, cF a1 a2 a3 a4 a5 a6 X.2.2.2.2.2.2), (a1, cS X.1), (a2, cS X.2.1), (a3, cB X.2.2.1), (a4, cB X.2.2.2.1), (a5, cB B), (a6, cB t), (z0, cZ (.ref z4) z1 Z.2.2), (z1, cQ cJ z2 z3), (z2, cA4 cI Z.1), (z3, cA4 cI Z.2.1), (z4, cL b)] rfl rfl rfl rfl (by decide) [a0, a1, a2, a3, a4, a5, a6] rfl rfl rfl rfl 0 2 rfl rfl rfl (Nat.le_of_ble_eq_true rfl) ⟨by show _ ≤ 600104; omega, by show _ ≤ 7301314; omega⟩ rfl dL_law_759 rfl ?_
      refine k_istore C [(16, .int B.2.2.2.2.2.2.2.1), (15, .int B.2.2.2.2.2.2.1), (22, .int B.2.1), (21, .int B.1), (20, .int 0), (19, .int (nI k)), (18, .int ro), (17, .int tu), (14, .int (fX2_end_1 X)), (13, .int (fX2_end_0 X)), (11, .long dg), (5, .int x), (0, .ref sc), (1, .ref a0), (2, .ref z0), (3, .int ia), (4, .int ti)] (by decide) rfl dL_law_762 ?_
      refine k_aload_n C dL_law_764 13 rfl ?_
      refine k_iload C dL_law_765 5 rfl ?_
      refine k_bipush C 8 (by decide) dL_law_767 ?_
      have hM24 : kCX l D cI cJ yX2_flight (.code yX2_flight cX2_flight 3 (some .int)) { frames := 6, cells := 1, slots := 6, locals := 127 } [.ref a0, .int (nI k), .int 8] (wC a0 a1 a2 a3 a4 a5 a6 (XX X B t)) 0 B.2.2.2.2.2.2.2.2.1 (wC a0 a1 a2 a3 a4 a5 a6 (XX X B t)) := by
        have h9 := x_X2_flight_8 l hl D cI cJ a0 a1 a2 a3 a4 a5 a6 (nI k) (XX X B t)
        rw [(f8 B t)] at h9
        exact h9
      refine k_callX0 C T hM24 (cwV 2 C.2.2.2.2.1 (kGV q276 q277 q278 q35 q279) rfl rfl rfl ⟨rfl, hdX2_flight⟩ ⟨Nat.le_of_ble_eq_true rfl, Nat.le_of_ble_eq_true rfl⟩) [0, 1, 2, 3, 4, 5, 6] [7, 8, 9, 10, 11] [5, 6, 7, 8, 9, 10, 11, 0, 1, 2, 3, 4] [(z0, cZ (.ref z4) z1 Z.2.2), (z1, cQ cJ z2 z3), (z2, cA4 cI Z.1), (z3, cA4 cI Z.2.1), (z4, cL b)] [(a0, cF a1 a2 a3 a4 a5 a6 X.2.2.2.2.2.2), (a1, cS X.1), (a2, cS X.2.1), (a3, cB X.2.2.1), (a4, cB X.2.2.2.1), (a5, cB B), (a6, cB t), (z0, cZ (.ref z4) z1 Z.2.2), (z1, cQ cJ z2 z3), (z2, cA4 cI Z.1), (z3, cA4 cI Z.2.1), (z4, cL b)] rfl rfl rfl rfl (by decide) [a0, a1, a2, a3, a4, a5, a6] rfl rfl rfl rfl 0 2 rfl rfl rfl (Nat.le_of_ble_eq_true rfl) ⟨by show _ ≤ 600104; omega, by show _ ≤ 7301314; omega⟩ rfl dL_law_769 rfl ?_
      refine k_istore C [(17, .int B.2.2.2.2.2.2.2.2.1), (16, .int B.2.2.2.2.2.2.2.1), (15, .int B.2.2.2.2.2.2.1), (22, .int B.2.1), (21, .int B.1), (20, .int 0), (19, .int (nI k)), (18, .int ro), (14, .int (fX2_end_1 X)), (13, .int (fX2_end_0 X)), (11, .long dg), (5, .int x), (0, .ref sc), (1, .ref a0), (2, .ref z0), (3, .int ia), (4, .int ti)] (by decide) rfl dL_law_772 ?_
      refine k_iload C dL_law_774 3 rfl ?_
      refine k_istore C [(18, .int B.2.1), (17, .int B.2.2.2.2.2.2.2.2.1), (16, .int B.2.2.2.2.2.2.2.1), (15, .int B.2.2.2.2.2.2.1), (22, .int B.2.1), (21, .int B.1), (20, .int 0), (19, .int (nI k)), (14, .int (fX2_end_1 X)), (13, .int (fX2_end_0 X)), (11, .long dg), (5, .int x), (0, .ref sc), (1, .ref a0), (2, .ref z0), (3, .int ia), (4, .int ti)] (by decide) rfl dL_law_776 ?_
      refine k_iload C dL_law_778 7 rfl ?_
      refine k_if_le C 826 (by decide) dL_law_780 (fun c25 => ?_) (fun c25 => ?_)
      ·
        refine k_widen (k' := K + 16) (n' := N + 96) (by omega) (by omega) ?_
        refine k_sub [7, 0, 1, 2, 3, 8, 9, 10, 11, 12, 13, 14, 15, 16] rfl ?_
        exact kk B t
      ·
        refine k_iload C dL_law_783 7 rfl ?_
        refine k_bipush C 7 (by decide) dL_law_785 ?_
        refine k_irem C (by decide) dL_law_787 ?_
        refine k_iconst C 3 (by decide) dL_law_788 ?_
        refine k_icmp_ne C 826 (by decide) dL_law_789 (fun c26 => ?_) (fun c26 => ?_)
        ·
          refine k_widen (k' := K + 16) (n' := N + 96) (by omega) (by omega) ?_
          refine k_sub [7, 0, 1, 2, 3, 8, 9, 10, 11, 12, 13, 14, 15, 16] rfl ?_
          exact kk B t
        ·
          refine k_aload_n C dL_law_792 13 rfl ?_
          refine k_iload C dL_law_793 7 rfl ?_
          refine k_iconst C 0 (by decide) dL_law_795 ?_
          refine k_bipush C (-2) (by decide) dL_law_796 ?_
          refine k_bipush C 9 (by decide) dL_law_798 ?_
          obtain ⟨an, tn, ew⟩ := hW c25 B t
          have hM27 : kCX l D cI cJ yX2_would (.code yX2_would cX2_would 5 (some .int)) { frames := 7, cells := 1, slots := 6, locals := 148 } [.ref a0, .int (nI k), .int 0, .int (-2), .int 9] (wC a0 a1 a2 a3 a4 a5 a6 (XX X B t)) 0 w (wC a0 a1 a2 a3 a4 a5 a6 (XX X an tn)) := by
            have h9 := x_X2_would l hl D cI cJ a0 a1 a2 a3 a4 a5 a6 (nI k) 0 (-2) 9 (XX X B t)
            rw [ew] at h9
            exact h9
          refine k_callX0 C T hM27 (cwV 4 C.2.2.2.2.1 (kGV q362 q363 q364 q35 q365) rfl rfl rfl ⟨rfl, hdX2_would⟩ ⟨Nat.le_of_ble_eq_true rfl, Nat.le_of_ble_eq_true rfl⟩) [0, 1, 2, 3, 4, 5, 6] [7, 8, 9, 10, 11] [5, 6, 7, 8, 9, 10, 11, 0, 1, 2, 3, 4] [(z0, cZ (.ref z4) z1 Z.2.2), (z1, cQ cJ z2 z3), (z2, cA4 cI Z.1), (z3, cA4 cI Z.2.1), (z4, cL b)] [(a0, cF a1 a2 a3 a4 a5 a6 X.2.2.2.2.2.2), (a1, cS X.1), (a2, cS X.2.1), (a3, cB X.2.2.1), (a4, cB X.2.2.2.1), (a5, cB an), (a6, cB tn), (z0, cZ (.ref z4) z1 Z.2.2), (z1, cQ cJ z2 z3), (z2, cA4 cI Z.1), (z3, cA4 cI Z.2.1), (z4, cL b)] rfl rfl rfl rfl (by decide) [a0, a1, a2, a3, a4, a5, a6] rfl rfl rfl rfl 0 2 rfl rfl rfl (Nat.le_of_ble_eq_true rfl) ⟨by show _ ≤ 600104; omega, by show _ ≤ 7301314; omega⟩ rfl dL_law_800 rfl ?_
          refine k_if_le C 810 (by decide) dL_law_803 (fun c28 => ?_) (fun c28 => ?_)
          ·
            refine k_iconst C 0 (by decide) dL_law_810 ?_
            refine k_iload C dL_law_811 3 rfl ?_
            refine k_if_le C 820 (by decide) dL_law_813 (fun _ => ?_) (fun h => absurd ((hWf c25).mp c28) h)
            refine k_iconst C 0 (by decide) dL_law_820 ?_
            refine k_icmp_eq C 826 (by decide) dL_law_821 (fun _ => ?_) (fun h => absurd (by decide) h)
            refine k_widen (k' := K + 16) (n' := N + 96) (by omega) (by omega) ?_
            refine k_sub [7, 0, 1, 2, 3, 8, 9, 10, 11, 12, 13, 14, 15, 16] rfl ?_
            exact kk an tn
          ·
            refine k_iconst C 1 (by decide) dL_law_806 ?_
            refine k_goto C 811 (by decide) dL_law_807 ?_
            refine k_iload C dL_law_811 3 rfl ?_
            refine k_if_le C 820 (by decide) dL_law_813 (fun h => absurd h (fun h9 => c28 ((hWf c25).mpr h9))) (fun _ => ?_)
            refine k_iconst C 1 (by decide) dL_law_816 ?_
            refine k_goto C 821 (by decide) dL_law_817 ?_
            refine k_icmp_eq C 826 (by decide) dL_law_821 (fun _ => ?_) (fun h => absurd (by decide) h)
            refine k_widen (k' := K + 16) (n' := N + 96) (by omega) (by omega) ?_
            refine k_sub [7, 0, 1, 2, 3, 8, 9, 10, 11, 12, 13, 14, 15, 16] rfl ?_
            exact kk an tn
  ·
    refine k_iload C dL_law_588 0 rfl ?_
    refine k_bipush C 9 (by decide) dL_law_590 ?_
    refine k_icmp_le C 602 (by decide) dL_law_592 (fun c29 => ?_) (fun c29 => ?_)
    ·
      refine k_aload_n C dL_law_602 13 rfl ?_
      refine k_iload C dL_law_603 3 rfl ?_
      refine k_iconst C 2 (by decide) dL_law_605 ?_
      have hM30 : kCX l D cI cJ yX2_flight (.code yX2_flight cX2_flight 3 (some .int)) { frames := 6, cells := 1, slots := 6, locals := 127 } [.ref a0, .int (nI k), .int 2] (wC a0 a1 a2 a3 a4 a5 a6 (XX X B t)) 0 B.2.2.1 (wC a0 a1 a2 a3 a4 a5 a6 (XX X B t)) := by
        have h9 := x_X2_flight_2 l hl D cI cJ a0 a1 a2 a3 a4 a5 a6 (nI k) (XX X B t)
        rw [(f2 B t)] at h9
        exact h9
      refine k_callX0 C T hM30 (cwV 2 C.2.2.2.2.1 (kGV q276 q277 q278 q35 q279) rfl rfl rfl ⟨rfl, hdX2_flight⟩ ⟨Nat.le_of_ble_eq_true rfl, Nat.le_of_ble_eq_true rfl⟩) [0, 1, 2, 3, 4, 5, 6] [7, 8, 9, 10, 11] [5, 6, 7, 8, 9, 10, 11, 0, 1, 2, 3, 4] [(z0, cZ (.ref z4) z1 Z.2.2), (z1, cQ cJ z2 z3), (z2, cA4 cI Z.1), (z3, cA4 cI Z.2.1), (z4, cL b)] [(a0, cF a1 a2 a3 a4 a5 a6 X.2.2.2.2.2.2), (a1, cS X.1), (a2, cS X.2.1), (a3, cB X.2.2.1), (a4, cB X.2.2.2.1), (a5, cB B), (a6, cB t), (z0, cZ (.ref z4) z1 Z.2.2), (z1, cQ cJ z2 z3), (z2, cA4 cI Z.1), (z3, cA4 cI Z.2.1), (z4, cL b)] rfl rfl rfl rfl (by decide) [a0, a1, a2, a3, a4, a5, a6] rfl rfl rfl rfl 0 2 rfl rfl rfl (Nat.le_of_ble_eq_true rfl) ⟨by show _ ≤ 600104; omega, by show _ ≤ 7301314; omega⟩ rfl dL_law_606 rfl ?_
      refine k_if_lt C 666 (by decide) dL_law_609 (fun h => absurd h h609) (fun _ => ?_)
      refine k_iload C dL_law_612 0 rfl ?_
      refine k_iload C dL_law_614 4 rfl ?_
      refine k_isub C dL_law_616 ?_
      refine k_abs C q677 q325 q45 q326 (Nat.le_of_ble_eq_true rfl) (Nat.le_of_ble_eq_true rfl) (by show _ ≤ 600104; omega) (by show _ ≤ 7301314; omega) dL_law_617 ?_
      refine k_iconst C 2 (by decide) dL_law_620 ?_
      refine k_icmp_gt C 666 (by decide) dL_law_621 (fun h => absurd h h621) (fun _ => ?_)
      refine k_aload_n C dL_law_624 13 rfl ?_
      refine k_iload C dL_law_625 3 rfl ?_
      refine k_iconst C 3 (by decide) dL_law_627 ?_
      have hM31 : kCX l D cI cJ yX2_flight (.code yX2_flight cX2_flight 3 (some .int)) { frames := 6, cells := 1, slots := 6, locals := 127 } [.ref a0, .int (nI k), .int 3] (wC a0 a1 a2 a3 a4 a5 a6 (XX X B t)) 0 B.2.2.2.1 (wC a0 a1 a2 a3 a4 a5 a6 (XX X B t)) := by
        have h9 := x_X2_flight_3 l hl D cI cJ a0 a1 a2 a3 a4 a5 a6 (nI k) (XX X B t)
        rw [(f3 B t)] at h9
        exact h9
      refine k_callX0 C T hM31 (cwV 2 C.2.2.2.2.1 (kGV q276 q277 q278 q35 q279) rfl rfl rfl ⟨rfl, hdX2_flight⟩ ⟨Nat.le_of_ble_eq_true rfl, Nat.le_of_ble_eq_true rfl⟩) [0, 1, 2, 3, 4, 5, 6] [7, 8, 9, 10, 11] [5, 6, 7, 8, 9, 10, 11, 0, 1, 2, 3, 4] [(z0, cZ (.ref z4) z1 Z.2.2), (z1, cQ cJ z2 z3), (z2, cA4 cI Z.1), (z3, cA4 cI Z.2.1), (z4, cL b)] [(a0, cF a1 a2 a3 a4 a5 a6 X.2.2.2.2.2.2), (a1, cS X.1), (a2, cS X.2.1), (a3, cB X.2.2.1), (a4, cB X.2.2.2.1), (a5, cB B), (a6, cB t), (z0, cZ (.ref z4) z1 Z.2.2), (z1, cQ cJ z2 z3), (z2, cA4 cI Z.1), (z3, cA4 cI Z.2.1), (z4, cL b)] rfl rfl rfl rfl (by decide) [a0, a1, a2, a3, a4, a5, a6] rfl rfl rfl rfl 0 2 rfl rfl rfl (Nat.le_of_ble_eq_true rfl) ⟨by show _ ≤ 600104; omega, by show _ ≤ 7301314; omega⟩ rfl dL_law_628 rfl ?_
      refine k_abs C q677 q325 q45 q326 (Nat.le_of_ble_eq_true rfl) (Nat.le_of_ble_eq_true rfl) (by show _ ≤ 600104; omega) (by show _ ≤ 7301314; omega) dL_law_631 ?_
      refine k_aload_n C dL_law_634 13 rfl ?_
      refine k_iconst C 3 (by decide) dL_law_635 ?_
      refine k_callV_i C (mX2_ball_3 l D cI cJ a0 a1 a2 a3 a4 a5 a6 (X.1, X.2.1, X.2.2.1, X.2.2.2.1, B, t, X.2.2.2.2.2.2)) (cwV 1 C.2.2.2.2.1 (kGV q168 q169 q170 q35 q171) rfl rfl rfl ⟨rfl, hdX2_ball⟩ ⟨Nat.le_of_ble_eq_true rfl, Nat.le_of_ble_eq_true rfl⟩) [0, 1, 2, 3, 4, 5, 6] [7, 8, 9, 10, 11] [5, 6, 7, 8, 9, 10, 11, 0, 1, 2, 3, 4] [(z0, cZ (.ref z4) z1 Z.2.2), (z1, cQ cJ z2 z3), (z2, cA4 cI Z.1), (z3, cA4 cI Z.2.1), (z4, cL b)] ([(a0, cF a1 a2 a3 a4 a5 a6 X.2.2.2.2.2.2), (a1, cS X.1), (a2, cS X.2.1), (a3, cB X.2.2.1), (a4, cB X.2.2.2.1), (a5, cB B), (a6, cB t), (z0, cZ (.ref z4) z1 Z.2.2), (z1, cQ cJ z2 z3), (z2, cA4 cI Z.1), (z3, cA4 cI Z.2.1), (z4, cL b)]) rfl rfl rfl rfl (by decide) [a0, a1, a2, a3, a4, a5, a6] rfl rfl rfl rfl 0 2 rfl rfl rfl (Nat.le_of_ble_eq_true rfl) ⟨by show _ ≤ 600104; omega, by show _ ≤ 7301314; omega⟩ rfl dL_law_636 ?_
      refine k_abs C q677 q325 q45 q326 (Nat.le_of_ble_eq_true rfl) (Nat.le_of_ble_eq_true rfl) (by show _ ≤ 600104; omega) (by show _ ≤ 7301314; omega) dL_law_639 ?_
      refine k_icmp_ne C 666 (by decide) dL_law_642 (fun h => absurd h642 h) (fun _ => ?_)
      refine k_aload_n C dL_law_645 13 rfl ?_
      refine k_iload C dL_law_646 3 rfl ?_
      refine k_iconst C 4 (by decide) dL_law_648 ?_
      have hM32 : kCX l D cI cJ yX2_flight (.code yX2_flight cX2_flight 3 (some .int)) { frames := 6, cells := 1, slots := 6, locals := 127 } [.ref a0, .int (nI k), .int 4] (wC a0 a1 a2 a3 a4 a5 a6 (XX X B t)) 0 B.2.2.2.2.1 (wC a0 a1 a2 a3 a4 a5 a6 (XX X B t)) := by
        have h9 := x_X2_flight_4 l hl D cI cJ a0 a1 a2 a3 a4 a5 a6 (nI k) (XX X B t)
        rw [(f4 B t)] at h9
        exact h9
      refine k_callX0 C T hM32 (cwV 2 C.2.2.2.2.1 (kGV q276 q277 q278 q35 q279) rfl rfl rfl ⟨rfl, hdX2_flight⟩ ⟨Nat.le_of_ble_eq_true rfl, Nat.le_of_ble_eq_true rfl⟩) [0, 1, 2, 3, 4, 5, 6] [7, 8, 9, 10, 11] [5, 6, 7, 8, 9, 10, 11, 0, 1, 2, 3, 4] [(z0, cZ (.ref z4) z1 Z.2.2), (z1, cQ cJ z2 z3), (z2, cA4 cI Z.1), (z3, cA4 cI Z.2.1), (z4, cL b)] [(a0, cF a1 a2 a3 a4 a5 a6 X.2.2.2.2.2.2), (a1, cS X.1), (a2, cS X.2.1), (a3, cB X.2.2.1), (a4, cB X.2.2.2.1), (a5, cB B), (a6, cB t), (z0, cZ (.ref z4) z1 Z.2.2), (z1, cQ cJ z2 z3), (z2, cA4 cI Z.1), (z3, cA4 cI Z.2.1), (z4, cL b)] rfl rfl rfl rfl (by decide) [a0, a1, a2, a3, a4, a5, a6] rfl rfl rfl rfl 0 2 rfl rfl rfl (Nat.le_of_ble_eq_true rfl) ⟨by show _ ≤ 600104; omega, by show _ ≤ 7301314; omega⟩ rfl dL_law_649 rfl ?_
      refine k_abs C q677 q325 q45 q326 (Nat.le_of_ble_eq_true rfl) (Nat.le_of_ble_eq_true rfl) (by show _ ≤ 600104; omega) (by show _ ≤ 7301314; omega) dL_law_652 ?_
      refine k_aload_n C dL_law_655 13 rfl ?_
      refine k_iconst C 4 (by decide) dL_law_656 ?_
      refine k_callV_i C (mX2_ball_4 l D cI cJ a0 a1 a2 a3 a4 a5 a6 (X.1, X.2.1, X.2.2.1, X.2.2.2.1, B, t, X.2.2.2.2.2.2)) (cwV 1 C.2.2.2.2.1 (kGV q168 q169 q170 q35 q171) rfl rfl rfl ⟨rfl, hdX2_ball⟩ ⟨Nat.le_of_ble_eq_true rfl, Nat.le_of_ble_eq_true rfl⟩) [0, 1, 2, 3, 4, 5, 6] [7, 8, 9, 10, 11] [5, 6, 7, 8, 9, 10, 11, 0, 1, 2, 3, 4] [(z0, cZ (.ref z4) z1 Z.2.2), (z1, cQ cJ z2 z3), (z2, cA4 cI Z.1), (z3, cA4 cI Z.2.1), (z4, cL b)] ([(a0, cF a1 a2 a3 a4 a5 a6 X.2.2.2.2.2.2), (a1, cS X.1), (a2, cS X.2.1), (a3, cB X.2.2.1), (a4, cB X.2.2.2.1), (a5, cB B), (a6, cB t), (z0, cZ (.ref z4) z1 Z.2.2), (z1, cQ cJ z2 z3), (z2, cA4 cI Z.1), (z3, cA4 cI Z.2.1), (z4, cL b)]) rfl rfl rfl rfl (by decide) [a0, a1, a2, a3, a4, a5, a6] rfl rfl rfl rfl 0 2 rfl rfl rfl (Nat.le_of_ble_eq_true rfl) ⟨by show _ ≤ 600104; omega, by show _ ≤ 7301314; omega⟩ rfl dL_law_657 ?_
      refine k_abs C q677 q325 q45 q326 (Nat.le_of_ble_eq_true rfl) (Nat.le_of_ble_eq_true rfl) (by show _ ≤ 600104; omega) (by show _ ≤ 7301314; omega) dL_law_660 ?_
      refine k_icmp_eq C 668 (by decide) dL_law_663 (fun _ => ?_) (fun h => absurd h663 h)
      refine k_aload_n C dL_law_668 13 rfl ?_
      refine k_iload C dL_law_669 3 rfl ?_
      refine k_bipush C 6 (by decide) dL_law_671 ?_
      have hM33 : kCX l D cI cJ yX2_flight (.code yX2_flight cX2_flight 3 (some .int)) { frames := 6, cells := 1, slots := 6, locals := 127 } [.ref a0, .int (nI k), .int 6] (wC a0 a1 a2 a3 a4 a5 a6 (XX X B t)) 0 B.2.2.2.2.2.2.1 (wC a0 a1 a2 a3 a4 a5 a6 (XX X B t)) := by
        have h9 := x_X2_flight_6 l hl D cI cJ a0 a1 a2 a3 a4 a5 a6 (nI k) (XX X B t)
        rw [(f6 B t)] at h9
        exact h9
      refine k_callX0 C T hM33 (cwV 2 C.2.2.2.2.1 (kGV q276 q277 q278 q35 q279) rfl rfl rfl ⟨rfl, hdX2_flight⟩ ⟨Nat.le_of_ble_eq_true rfl, Nat.le_of_ble_eq_true rfl⟩) [0, 1, 2, 3, 4, 5, 6] [7, 8, 9, 10, 11] [5, 6, 7, 8, 9, 10, 11, 0, 1, 2, 3, 4] [(z0, cZ (.ref z4) z1 Z.2.2), (z1, cQ cJ z2 z3), (z2, cA4 cI Z.1), (z3, cA4 cI Z.2.1), (z4, cL b)] [(a0, cF a1 a2 a3 a4 a5 a6 X.2.2.2.2.2.2), (a1, cS X.1), (a2, cS X.2.1), (a3, cB X.2.2.1), (a4, cB X.2.2.2.1), (a5, cB B), (a6, cB t), (z0, cZ (.ref z4) z1 Z.2.2), (z1, cQ cJ z2 z3), (z2, cA4 cI Z.1), (z3, cA4 cI Z.2.1), (z4, cL b)] rfl rfl rfl rfl (by decide) [a0, a1, a2, a3, a4, a5, a6] rfl rfl rfl rfl 0 2 rfl rfl rfl (Nat.le_of_ble_eq_true rfl) ⟨by show _ ≤ 600104; omega, by show _ ≤ 7301314; omega⟩ rfl dL_law_673 rfl ?_
      refine k_iload C dL_law_676 7 rfl ?_
      refine k_icmp_lt C 742 (by decide) dL_law_678 (fun h => absurd h h678) (fun _ => ?_)
      refine k_aload_n C dL_law_681 13 rfl ?_
      refine k_iload C dL_law_682 3 rfl ?_
      refine k_bipush C 7 (by decide) dL_law_684 ?_
      have hM34 : kCX l D cI cJ yX2_flight (.code yX2_flight cX2_flight 3 (some .int)) { frames := 6, cells := 1, slots := 6, locals := 127 } [.ref a0, .int (nI k), .int 7] (wC a0 a1 a2 a3 a4 a5 a6 (XX X B t)) 0 B.2.2.2.2.2.2.2.1 (wC a0 a1 a2 a3 a4 a5 a6 (XX X B t)) := by
        have h9 := x_X2_flight_7 l hl D cI cJ a0 a1 a2 a3 a4 a5 a6 (nI k) (XX X B t)
        rw [(f7 B t)] at h9
        exact h9
      refine k_callX0 C T hM34 (cwV 2 C.2.2.2.2.1 (kGV q276 q277 q278 q35 q279) rfl rfl rfl ⟨rfl, hdX2_flight⟩ ⟨Nat.le_of_ble_eq_true rfl, Nat.le_of_ble_eq_true rfl⟩) [0, 1, 2, 3, 4, 5, 6] [7, 8, 9, 10, 11] [5, 6, 7, 8, 9, 10, 11, 0, 1, 2, 3, 4] [(z0, cZ (.ref z4) z1 Z.2.2), (z1, cQ cJ z2 z3), (z2, cA4 cI Z.1), (z3, cA4 cI Z.2.1), (z4, cL b)] [(a0, cF a1 a2 a3 a4 a5 a6 X.2.2.2.2.2.2), (a1, cS X.1), (a2, cS X.2.1), (a3, cB X.2.2.1), (a4, cB X.2.2.2.1), (a5, cB B), (a6, cB t), (z0, cZ (.ref z4) z1 Z.2.2), (z1, cQ cJ z2 z3), (z2, cA4 cI Z.1), (z3, cA4 cI Z.2.1), (z4, cL b)] rfl rfl rfl rfl (by decide) [a0, a1, a2, a3, a4, a5, a6] rfl rfl rfl rfl 0 2 rfl rfl rfl (Nat.le_of_ble_eq_true rfl) ⟨by show _ ≤ 600104; omega, by show _ ≤ 7301314; omega⟩ rfl dL_law_686 rfl ?_
      refine k_iload C dL_law_689 6 rfl ?_
      refine k_icmp_lt C 742 (by decide) dL_law_691 (fun h => absurd h h691) (fun _ => ?_)
      refine k_aload_n C dL_law_694 13 rfl ?_
      refine k_iload C dL_law_695 3 rfl ?_
      refine k_bipush C 8 (by decide) dL_law_697 ?_
      have hM35 : kCX l D cI cJ yX2_flight (.code yX2_flight cX2_flight 3 (some .int)) { frames := 6, cells := 1, slots := 6, locals := 127 } [.ref a0, .int (nI k), .int 8] (wC a0 a1 a2 a3 a4 a5 a6 (XX X B t)) 0 B.2.2.2.2.2.2.2.2.1 (wC a0 a1 a2 a3 a4 a5 a6 (XX X B t)) := by
        have h9 := x_X2_flight_8 l hl D cI cJ a0 a1 a2 a3 a4 a5 a6 (nI k) (XX X B t)
        rw [(f8 B t)] at h9
        exact h9
      refine k_callX0 C T hM35 (cwV 2 C.2.2.2.2.1 (kGV q276 q277 q278 q35 q279) rfl rfl rfl ⟨rfl, hdX2_flight⟩ ⟨Nat.le_of_ble_eq_true rfl, Nat.le_of_ble_eq_true rfl⟩) [0, 1, 2, 3, 4, 5, 6] [7, 8, 9, 10, 11] [5, 6, 7, 8, 9, 10, 11, 0, 1, 2, 3, 4] [(z0, cZ (.ref z4) z1 Z.2.2), (z1, cQ cJ z2 z3), (z2, cA4 cI Z.1), (z3, cA4 cI Z.2.1), (z4, cL b)] [(a0, cF a1 a2 a3 a4 a5 a6 X.2.2.2.2.2.2), (a1, cS X.1), (a2, cS X.2.1), (a3, cB X.2.2.1), (a4, cB X.2.2.2.1), (a5, cB B), (a6, cB t), (z0, cZ (.ref z4) z1 Z.2.2), (z1, cQ cJ z2 z3), (z2, cA4 cI Z.1), (z3, cA4 cI Z.2.1), (z4, cL b)] rfl rfl rfl rfl (by decide) [a0, a1, a2, a3, a4, a5, a6] rfl rfl rfl rfl 0 2 rfl rfl rfl (Nat.le_of_ble_eq_true rfl) ⟨by show _ ≤ 600104; omega, by show _ ≤ 7301314; omega⟩ rfl dL_law_699 rfl ?_
      refine k_iload C dL_law_702 5 rfl ?_
      refine k_icmp_lt C 742 (by decide) dL_law_704 (fun h => absurd h h704) (fun _ => ?_)
      refine k_aload_n C dL_law_707 13 rfl ?_
      refine k_iload C dL_law_708 3 rfl ?_
      refine k_bipush C 7 (by decide) dL_law_710 ?_
      have hM36 : kCX l D cI cJ yX2_flight (.code yX2_flight cX2_flight 3 (some .int)) { frames := 6, cells := 1, slots := 6, locals := 127 } [.ref a0, .int (nI k), .int 7] (wC a0 a1 a2 a3 a4 a5 a6 (XX X B t)) 0 B.2.2.2.2.2.2.2.1 (wC a0 a1 a2 a3 a4 a5 a6 (XX X B t)) := by
        have h9 := x_X2_flight_7 l hl D cI cJ a0 a1 a2 a3 a4 a5 a6 (nI k) (XX X B t)
        rw [(f7 B t)] at h9
        exact h9
      refine k_callX0 C T hM36 (cwV 2 C.2.2.2.2.1 (kGV q276 q277 q278 q35 q279) rfl rfl rfl ⟨rfl, hdX2_flight⟩ ⟨Nat.le_of_ble_eq_true rfl, Nat.le_of_ble_eq_true rfl⟩) [0, 1, 2, 3, 4, 5, 6] [7, 8, 9, 10, 11] [5, 6, 7, 8, 9, 10, 11, 0, 1, 2, 3, 4] [(z0, cZ (.ref z4) z1 Z.2.2), (z1, cQ cJ z2 z3), (z2, cA4 cI Z.1), (z3, cA4 cI Z.2.1), (z4, cL b)] [(a0, cF a1 a2 a3 a4 a5 a6 X.2.2.2.2.2.2), (a1, cS X.1), (a2, cS X.2.1), (a3, cB X.2.2.1), (a4, cB X.2.2.2.1), (a5, cB B), (a6, cB t), (z0, cZ (.ref z4) z1 Z.2.2), (z1, cQ cJ z2 z3), (z2, cA4 cI Z.1), (z3, cA4 cI Z.2.1), (z4, cL b)] rfl rfl rfl rfl (by decide) [a0, a1, a2, a3, a4, a5, a6] rfl rfl rfl rfl 0 2 rfl rfl rfl (Nat.le_of_ble_eq_true rfl) ⟨by show _ ≤ 600104; omega, by show _ ≤ 7301314; omega⟩ rfl dL_law_712 rfl ?_
      refine k_iconst C 1 (by decide) dL_law_715 ?_
      refine k_icmp_gt C 742 (by decide) dL_law_716 (fun h => absurd h h716) (fun _ => ?_)
      refine k_aload_n C dL_law_719 13 rfl ?_
      refine k_iload C dL_law_720 3 rfl ?_
      refine k_bipush C 7 (by decide) dL_law_722 ?_
      have hM37 : kCX l D cI cJ yX2_flight (.code yX2_flight cX2_flight 3 (some .int)) { frames := 6, cells := 1, slots := 6, locals := 127 } [.ref a0, .int (nI k), .int 7] (wC a0 a1 a2 a3 a4 a5 a6 (XX X B t)) 0 B.2.2.2.2.2.2.2.1 (wC a0 a1 a2 a3 a4 a5 a6 (XX X B t)) := by
        have h9 := x_X2_flight_7 l hl D cI cJ a0 a1 a2 a3 a4 a5 a6 (nI k) (XX X B t)
        rw [(f7 B t)] at h9
        exact h9
      refine k_callX0 C T hM37 (cwV 2 C.2.2.2.2.1 (kGV q276 q277 q278 q35 q279) rfl rfl rfl ⟨rfl, hdX2_flight⟩ ⟨Nat.le_of_ble_eq_true rfl, Nat.le_of_ble_eq_true rfl⟩) [0, 1, 2, 3, 4, 5, 6] [7, 8, 9, 10, 11] [5, 6, 7, 8, 9, 10, 11, 0, 1, 2, 3, 4] [(z0, cZ (.ref z4) z1 Z.2.2), (z1, cQ cJ z2 z3), (z2, cA4 cI Z.1), (z3, cA4 cI Z.2.1), (z4, cL b)] [(a0, cF a1 a2 a3 a4 a5 a6 X.2.2.2.2.2.2), (a1, cS X.1), (a2, cS X.2.1), (a3, cB X.2.2.1), (a4, cB X.2.2.2.1), (a5, cB B), (a6, cB t), (z0, cZ (.ref z4) z1 Z.2.2), (z1, cQ cJ z2 z3), (z2, cA4 cI Z.1), (z3, cA4 cI Z.2.1), (z4, cL b)] rfl rfl rfl rfl (by decide) [a0, a1, a2, a3, a4, a5, a6] rfl rfl rfl rfl 0 2 rfl rfl rfl (Nat.le_of_ble_eq_true rfl) ⟨by show _ ≤ 600104; omega, by show _ ≤ 7301314; omega⟩ rfl dL_law_724 rfl ?_
      refine k_iconst C 1 (by decide) dL_law_727 ?_
      refine k_icmp_ne C 744 (by decide) dL_law_728 (fun c38 => ?_) (fun c38 => ?_)
      ·
        refine k_aload_n C dL_law_744 13 rfl ?_
        refine k_iload C dL_law_745 3 rfl ?_
        refine k_bipush C 6 (by decide) dL_law_747 ?_
        have hM39 : kCX l D cI cJ yX2_flight (.code yX2_flight cX2_flight 3 (some .int)) { frames := 6, cells := 1, slots := 6, locals := 127 } [.ref a0, .int (nI k), .int 6] (wC a0 a1 a2 a3 a4 a5 a6 (XX X B t)) 0 B.2.2.2.2.2.2.1 (wC a0 a1 a2 a3 a4 a5 a6 (XX X B t)) := by
          have h9 := x_X2_flight_6 l hl D cI cJ a0 a1 a2 a3 a4 a5 a6 (nI k) (XX X B t)
          rw [(f6 B t)] at h9
          exact h9
        refine k_callX0 C T hM39 (cwV 2 C.2.2.2.2.1 (kGV q276 q277 q278 q35 q279) rfl rfl rfl ⟨rfl, hdX2_flight⟩ ⟨Nat.le_of_ble_eq_true rfl, Nat.le_of_ble_eq_true rfl⟩) [0, 1, 2, 3, 4, 5, 6] [7, 8, 9, 10, 11] [5, 6, 7, 8, 9, 10, 11, 0, 1, 2, 3, 4] [(z0, cZ (.ref z4) z1 Z.2.2), (z1, cQ cJ z2 z3), (z2, cA4 cI Z.1), (z3, cA4 cI Z.2.1), (z4, cL b)] [(a0, cF a1 a2 a3 a4 a5 a6 X.2.2.2.2.2.2), (a1, cS X.1), (a2, cS X.2.1), (a3, cB X.2.2.1), (a4, cB X.2.2.2.1), (a5, cB B), (a6, cB t), (z0, cZ (.ref z4) z1 Z.2.2), (z1, cQ cJ z2 z3), (z2, cA4 cI Z.1), (z3, cA4 cI Z.2.1), (z4, cL b)] rfl rfl rfl rfl (by decide) [a0, a1, a2, a3, a4, a5, a6] rfl rfl rfl rfl 0 2 rfl rfl rfl (Nat.le_of_ble_eq_true rfl) ⟨by show _ ≤ 600104; omega, by show _ ≤ 7301314; omega⟩ rfl dL_law_749 rfl ?_
        refine k_istore C [(15, .int B.2.2.2.2.2.2.1), (22, .int B.2.1), (21, .int B.1), (20, .int 0), (19, .int (nI k)), (18, .int ro), (17, .int tu), (16, .int bo), (14, .int (fX2_end_1 X)), (13, .int (fX2_end_0 X)), (11, .long dg), (5, .int x), (0, .ref sc), (1, .ref a0), (2, .ref z0), (3, .int ia), (4, .int ti)] (by decide) rfl dL_law_752 ?_
        refine k_aload_n C dL_law_754 13 rfl ?_
        refine k_iload C dL_law_755 4 rfl ?_
        refine k_bipush C 7 (by decide) dL_law_757 ?_
        have hM40 : kCX l D cI cJ yX2_flight (.code yX2_flight cX2_flight 3 (some .int)) { frames := 6, cells := 1, slots := 6, locals := 127 } [.ref a0, .int (nI k), .int 7] (wC a0 a1 a2 a3 a4 a5 a6 (XX X B t)) 0 B.2.2.2.2.2.2.2.1 (wC a0 a1 a2 a3 a4 a5 a6 (XX X B t)) := by
          have h9 := x_X2_flight_7 l hl D cI cJ a0 a1 a2 a3 a4 a5 a6 (nI k) (XX X B t)
          rw [(f7 B t)] at h9
          exact h9
        refine k_callX0 C T hM40 (cwV 2 C.2.2.2.2.1 (kGV q276 q277 q278 q35 q279) rfl rfl rfl ⟨rfl, hdX2_flight⟩ ⟨Nat.le_of_ble_eq_true rfl, Nat.le_of_ble_eq_true rfl⟩) [0, 1, 2, 3, 4, 5, 6] [7, 8, 9, 10, 11] [5, 6, 7, 8, 9, 10, 11, 0, 1, 2, 3, 4] [(z0, cZ (.ref z4) z1 Z.2.2), (z1, cQ cJ z2 z3), (z2, cA4 cI Z.1), (z3, cA4 cI Z.2.1), (z4, cL b)] [(a0, cF a1 a2 a3 a4 a5 a6 X.2.2.2.2.2.2), (a1, cS X.1), (a2, cS X.2.1), (a3, cB X.2.2.1), (a4, cB X.2.2.2.1), (a5, cB B), (a6, cB t), (z0, cZ (.ref z4) z1 Z.2.2), (z1, cQ cJ z2 z3), (z2, cA4 cI Z.1), (z3, cA4 cI Z.2.1), (z4, cL b)] rfl rfl rfl rfl (by decide) [a0, a1, a2, a3, a4, a5, a6] rfl rfl rfl rfl 0 2 rfl rfl rfl (Nat.le_of_ble_eq_true rfl) ⟨by show _ ≤ 600104; omega, by show _ ≤ 7301314; omega⟩ rfl dL_law_759 rfl ?_
        refine k_istore C [(16, .int B.2.2.2.2.2.2.2.1), (15, .int B.2.2.2.2.2.2.1), (22, .int B.2.1), (21, .int B.1), (20, .int 0), (19, .int (nI k)), (18, .int ro), (17, .int tu), (14, .int (fX2_end_1 X)), (13, .int (fX2_end_0 X)), (11, .long dg), (5, .int x), (0, .ref sc), (1, .ref a0), (2, .ref z0), (3, .int ia), (4, .int ti)] (by decide) rfl dL_law_762 ?_
        refine k_aload_n C dL_law_764 13 rfl ?_
        refine k_iload C dL_law_765 5 rfl ?_
        refine k_bipush C 8 (by decide) dL_law_767 ?_
        have hM41 : kCX l D cI cJ yX2_flight (.code yX2_flight cX2_flight 3 (some .int)) { frames := 6, cells := 1, slots := 6, locals := 127 } [.ref a0, .int (nI k), .int 8] (wC a0 a1 a2 a3 a4 a5 a6 (XX X B t)) 0 B.2.2.2.2.2.2.2.2.1 (wC a0 a1 a2 a3 a4 a5 a6 (XX X B t)) := by
          have h9 := x_X2_flight_8 l hl D cI cJ a0 a1 a2 a3 a4 a5 a6 (nI k) (XX X B t)
          rw [(f8 B t)] at h9
          exact h9
        refine k_callX0 C T hM41 (cwV 2 C.2.2.2.2.1 (kGV q276 q277 q278 q35 q279) rfl rfl rfl ⟨rfl, hdX2_flight⟩ ⟨Nat.le_of_ble_eq_true rfl, Nat.le_of_ble_eq_true rfl⟩) [0, 1, 2, 3, 4, 5, 6] [7, 8, 9, 10, 11] [5, 6, 7, 8, 9, 10, 11, 0, 1, 2, 3, 4] [(z0, cZ (.ref z4) z1 Z.2.2), (z1, cQ cJ z2 z3), (z2, cA4 cI Z.1), (z3, cA4 cI Z.2.1), (z4, cL b)] [(a0, cF a1 a2 a3 a4 a5 a6 X.2.2.2.2.2.2), (a1, cS X.1), (a2, cS X.2.1), (a3, cB X.2.2.1), (a4, cB X.2.2.2.1), (a5, cB B), (a6, cB t), (z0, cZ (.ref z4) z1 Z.2.2), (z1, cQ cJ z2 z3), (z2, cA4 cI Z.1), (z3, cA4 cI Z.2.1), (z4, cL b)] rfl rfl rfl rfl (by decide) [a0, a1, a2, a3, a4, a5, a6] rfl rfl rfl rfl 0 2 rfl rfl rfl (Nat.le_of_ble_eq_true rfl) ⟨by show _ ≤ 600104; omega, by show _ ≤ 7301314; omega⟩ rfl dL_law_769 rfl ?_
        refine k_istore C [(17, .int B.2.2.2.2.2.2.2.2.1), (16, .int B.2.2.2.2.2.2.2.1), (15, .int B.2.2.2.2.2.2.1), (22, .int B.2.1), (21, .int B.1), (20, .int 0), (19, .int (nI k)), (18, .int ro), (14, .int (fX2_end_1 X)), (13, .int (fX2_end_0 X)), (11, .long dg), (5, .int x), (0, .ref sc), (1, .ref a0), (2, .ref z0), (3, .int ia), (4, .int ti)] (by decide) rfl dL_law_772 ?_
        refine k_iload C dL_law_774 3 rfl ?_
        refine k_istore C [(18, .int B.2.1), (17, .int B.2.2.2.2.2.2.2.2.1), (16, .int B.2.2.2.2.2.2.2.1), (15, .int B.2.2.2.2.2.2.1), (22, .int B.2.1), (21, .int B.1), (20, .int 0), (19, .int (nI k)), (14, .int (fX2_end_1 X)), (13, .int (fX2_end_0 X)), (11, .long dg), (5, .int x), (0, .ref sc), (1, .ref a0), (2, .ref z0), (3, .int ia), (4, .int ti)] (by decide) rfl dL_law_776 ?_
        refine k_iload C dL_law_778 7 rfl ?_
        refine k_if_le C 826 (by decide) dL_law_780 (fun c42 => ?_) (fun c42 => ?_)
        ·
          refine k_widen (k' := K + 16) (n' := N + 96) (by omega) (by omega) ?_
          refine k_sub [7, 0, 1, 2, 3, 8, 9, 10, 11, 12, 13, 14, 15, 16] rfl ?_
          exact kk B t
        ·
          refine k_iload C dL_law_783 7 rfl ?_
          refine k_bipush C 7 (by decide) dL_law_785 ?_
          refine k_irem C (by decide) dL_law_787 ?_
          refine k_iconst C 3 (by decide) dL_law_788 ?_
          refine k_icmp_ne C 826 (by decide) dL_law_789 (fun c43 => ?_) (fun c43 => ?_)
          ·
            refine k_widen (k' := K + 16) (n' := N + 96) (by omega) (by omega) ?_
            refine k_sub [7, 0, 1, 2, 3, 8, 9, 10, 11, 12, 13, 14, 15, 16] rfl ?_
            exact kk B t
          ·
            refine k_aload_n C dL_law_792 13 rfl ?_
            refine k_iload C dL_law_793 7 rfl ?_
            refine k_iconst C 0 (by decide) dL_law_795 ?_
            refine k_bipush C (-2) (by decide) dL_law_796 ?_
            refine k_bipush C 9 (by decide) dL_law_798 ?_
            obtain ⟨an, tn, ew⟩ := hW c42 B t
            have hM44 : kCX l D cI cJ yX2_would (.code yX2_would cX2_would 5 (some .int)) { frames := 7, cells := 1, slots := 6, locals := 148 } [.ref a0, .int (nI k), .int 0, .int (-2), .int 9] (wC a0 a1 a2 a3 a4 a5 a6 (XX X B t)) 0 w (wC a0 a1 a2 a3 a4 a5 a6 (XX X an tn)) := by
              have h9 := x_X2_would l hl D cI cJ a0 a1 a2 a3 a4 a5 a6 (nI k) 0 (-2) 9 (XX X B t)
              rw [ew] at h9
              exact h9
            refine k_callX0 C T hM44 (cwV 4 C.2.2.2.2.1 (kGV q362 q363 q364 q35 q365) rfl rfl rfl ⟨rfl, hdX2_would⟩ ⟨Nat.le_of_ble_eq_true rfl, Nat.le_of_ble_eq_true rfl⟩) [0, 1, 2, 3, 4, 5, 6] [7, 8, 9, 10, 11] [5, 6, 7, 8, 9, 10, 11, 0, 1, 2, 3, 4] [(z0, cZ (.ref z4) z1 Z.2.2), (z1, cQ cJ z2 z3), (z2, cA4 cI Z.1), (z3, cA4 cI Z.2.1), (z4, cL b)] [(a0, cF a1 a2 a3 a4 a5 a6 X.2.2.2.2.2.2), (a1, cS X.1), (a2, cS X.2.1), (a3, cB X.2.2.1), (a4, cB X.2.2.2.1), (a5, cB an), (a6, cB tn), (z0, cZ (.ref z4) z1 Z.2.2), (z1, cQ cJ z2 z3), (z2, cA4 cI Z.1), (z3, cA4 cI Z.2.1), (z4, cL b)] rfl rfl rfl rfl (by decide) [a0, a1, a2, a3, a4, a5, a6] rfl rfl rfl rfl 0 2 rfl rfl rfl (Nat.le_of_ble_eq_true rfl) ⟨by show _ ≤ 600104; omega, by show _ ≤ 7301314; omega⟩ rfl dL_law_800 rfl ?_
            refine k_if_le C 810 (by decide) dL_law_803 (fun c45 => ?_) (fun c45 => ?_)
            ·
              refine k_iconst C 0 (by decide) dL_law_810 ?_
              refine k_iload C dL_law_811 3 rfl ?_
              refine k_if_le C 820 (by decide) dL_law_813 (fun _ => ?_) (fun h => absurd ((hWf c42).mp c45) h)
              refine k_iconst C 0 (by decide) dL_law_820 ?_
              refine k_icmp_eq C 826 (by decide) dL_law_821 (fun _ => ?_) (fun h => absurd (by decide) h)
              refine k_widen (k' := K + 16) (n' := N + 96) (by omega) (by omega) ?_
              refine k_sub [7, 0, 1, 2, 3, 8, 9, 10, 11, 12, 13, 14, 15, 16] rfl ?_
              exact kk an tn
            ·
              refine k_iconst C 1 (by decide) dL_law_806 ?_
              refine k_goto C 811 (by decide) dL_law_807 ?_
              refine k_iload C dL_law_811 3 rfl ?_
              refine k_if_le C 820 (by decide) dL_law_813 (fun h => absurd h (fun h9 => c45 ((hWf c42).mpr h9))) (fun _ => ?_)
              refine k_iconst C 1 (by decide) dL_law_816 ?_
              refine k_goto C 821 (by decide) dL_law_817 ?_
              refine k_icmp_eq C 826 (by decide) dL_law_821 (fun _ => ?_) (fun h => absurd (by decide) h)
              refine k_widen (k' := K + 16) (n' := N + 96) (by omega) (by omega) ?_
              refine k_sub [7, 0, 1, 2, 3, 8, 9, 10, 11, 12, 13, 14, 15, 16] rfl ?_
              exact kk an tn
      ·
        refine k_aload_n C dL_law_731 13 rfl ?_
        refine k_iload C dL_law_732 3 rfl ?_
        refine k_bipush C 6 (by decide) dL_law_734 ?_
        have hM46 : kCX l D cI cJ yX2_flight (.code yX2_flight cX2_flight 3 (some .int)) { frames := 6, cells := 1, slots := 6, locals := 127 } [.ref a0, .int (nI k), .int 6] (wC a0 a1 a2 a3 a4 a5 a6 (XX X B t)) 0 B.2.2.2.2.2.2.1 (wC a0 a1 a2 a3 a4 a5 a6 (XX X B t)) := by
          have h9 := x_X2_flight_6 l hl D cI cJ a0 a1 a2 a3 a4 a5 a6 (nI k) (XX X B t)
          rw [(f6 B t)] at h9
          exact h9
        refine k_callX0 C T hM46 (cwV 2 C.2.2.2.2.1 (kGV q276 q277 q278 q35 q279) rfl rfl rfl ⟨rfl, hdX2_flight⟩ ⟨Nat.le_of_ble_eq_true rfl, Nat.le_of_ble_eq_true rfl⟩) [0, 1, 2, 3, 4, 5, 6] [7, 8, 9, 10, 11] [5, 6, 7, 8, 9, 10, 11, 0, 1, 2, 3, 4] [(z0, cZ (.ref z4) z1 Z.2.2), (z1, cQ cJ z2 z3), (z2, cA4 cI Z.1), (z3, cA4 cI Z.2.1), (z4, cL b)] [(a0, cF a1 a2 a3 a4 a5 a6 X.2.2.2.2.2.2), (a1, cS X.1), (a2, cS X.2.1), (a3, cB X.2.2.1), (a4, cB X.2.2.2.1), (a5, cB B), (a6, cB t), (z0, cZ (.ref z4) z1 Z.2.2), (z1, cQ cJ z2 z3), (z2, cA4 cI Z.1), (z3, cA4 cI Z.2.1), (z4, cL b)] rfl rfl rfl rfl (by decide) [a0, a1, a2, a3, a4, a5, a6] rfl rfl rfl rfl 0 2 rfl rfl rfl (Nat.le_of_ble_eq_true rfl) ⟨by show _ ≤ 600104; omega, by show _ ≤ 7301314; omega⟩ rfl dL_law_736 rfl ?_
        refine k_if_ne C 744 (by decide) dL_law_739 (fun _ => ?_) (fun h => absurd h (hB1 c38))
        refine k_aload_n C dL_law_744 13 rfl ?_
        refine k_iload C dL_law_745 3 rfl ?_
        refine k_bipush C 6 (by decide) dL_law_747 ?_
        have hM47 : kCX l D cI cJ yX2_flight (.code yX2_flight cX2_flight 3 (some .int)) { frames := 6, cells := 1, slots := 6, locals := 127 } [.ref a0, .int (nI k), .int 6] (wC a0 a1 a2 a3 a4 a5 a6 (XX X B t)) 0 B.2.2.2.2.2.2.1 (wC a0 a1 a2 a3 a4 a5 a6 (XX X B t)) := by
          have h9 := x_X2_flight_6 l hl D cI cJ a0 a1 a2 a3 a4 a5 a6 (nI k) (XX X B t)
          rw [(f6 B t)] at h9
          exact h9
        refine k_callX0 C T hM47 (cwV 2 C.2.2.2.2.1 (kGV q276 q277 q278 q35 q279) rfl rfl rfl ⟨rfl, hdX2_flight⟩ ⟨Nat.le_of_ble_eq_true rfl, Nat.le_of_ble_eq_true rfl⟩) [0, 1, 2, 3, 4, 5, 6] [7, 8, 9, 10, 11] [5, 6, 7, 8, 9, 10, 11, 0, 1, 2, 3, 4] [(z0, cZ (.ref z4) z1 Z.2.2), (z1, cQ cJ z2 z3), (z2, cA4 cI Z.1), (z3, cA4 cI Z.2.1), (z4, cL b)] [(a0, cF a1 a2 a3 a4 a5 a6 X.2.2.2.2.2.2), (a1, cS X.1), (a2, cS X.2.1), (a3, cB X.2.2.1), (a4, cB X.2.2.2.1), (a5, cB B), (a6, cB t), (z0, cZ (.ref z4) z1 Z.2.2), (z1, cQ cJ z2 z3), (z2, cA4 cI Z.1), (z3, cA4 cI Z.2.1), (z4, cL b)] rfl rfl rfl rfl (by decide) [a0, a1, a2, a3, a4, a5, a6] rfl rfl rfl rfl 0 2 rfl rfl rfl (Nat.le_of_ble_eq_true rfl) ⟨by show _ ≤ 600104; omega, by show _ ≤ 7301314; omega⟩ rfl dL_law_749 rfl ?_
        refine k_istore C [(15, .int B.2.2.2.2.2.2.1), (22, .int B.2.1), (21, .int B.1), (20, .int 0), (19, .int (nI k)), (18, .int ro), (17, .int tu), (16, .int bo), (14, .int (fX2_end_1 X)), (13, .int (fX2_end_0 X)), (11, .long dg), (5, .int x), (0, .ref sc), (1, .ref a0), (2, .ref z0), (3, .int ia), (4, .int ti)] (by decide) rfl dL_law_752 ?_
        refine k_aload_n C dL_law_754 13 rfl ?_
        refine k_iload C dL_law_755 4 rfl ?_
        refine k_bipush C 7 (by decide) dL_law_757 ?_
        have hM48 : kCX l D cI cJ yX2_flight (.code yX2_flight cX2_flight 3 (some .int)) { frames := 6, cells := 1, slots := 6, locals := 127 } [.ref a0, .int (nI k), .int 7] (wC a0 a1 a2 a3 a4 a5 a6 (XX X B t)) 0 B.2.2.2.2.2.2.2.1 (wC a0 a1 a2 a3 a4 a5 a6 (XX X B t)) := by
          have h9 := x_X2_flight_7 l hl D cI cJ a0 a1 a2 a3 a4 a5 a6 (nI k) (XX X B t)
          rw [(f7 B t)] at h9
          exact h9
        refine k_callX0 C T hM48 (cwV 2 C.2.2.2.2.1 (kGV q276 q277 q278 q35 q279) rfl rfl rfl ⟨rfl, hdX2_flight⟩ ⟨Nat.le_of_ble_eq_true rfl, Nat.le_of_ble_eq_true rfl⟩) [0, 1, 2, 3, 4, 5, 6] [7, 8, 9, 10, 11] [5, 6, 7, 8, 9, 10, 11, 0, 1, 2, 3, 4] [(z0, cZ (.ref z4) z1 Z.2.2), (z1, cQ cJ z2 z3), (z2, cA4 cI Z.1), (z3, cA4 cI Z.2.1), (z4, cL b)] [(a0, cF a1 a2 a3 a4 a5 a6 X.2.2.2.2.2.2), (a1, cS X.1), (a2, cS X.2.1), (a3, cB X.2.2.1), (a4, cB X.2.2.2.1), (a5, cB B), (a6, cB t), (z0, cZ (.ref z4) z1 Z.2.2), (z1, cQ cJ z2 z3), (z2, cA4 cI Z.1), (z3, cA4 cI Z.2.1), (z4, cL b)] rfl rfl rfl rfl (by decide) [a0, a1, a2, a3, a4, a5, a6] rfl rfl rfl rfl 0 2 rfl rfl rfl (Nat.le_of_ble_eq_true rfl) ⟨by show _ ≤ 600104; omega, by show _ ≤ 7301314; omega⟩ rfl dL_law_759 rfl ?_
        refine k_istore C [(16, .int B.2.2.2.2.2.2.2.1), (15, .int B.2.2.2.2.2.2.1), (22, .int B.2.1), (21, .int B.1), (20, .int 0), (19, .int (nI k)), (18, .int ro), (17, .int tu), (14, .int (fX2_end_1 X)), (13, .int (fX2_end_0 X)), (11, .long dg), (5, .int x), (0, .ref sc), (1, .ref a0), (2, .ref z0), (3, .int ia), (4, .int ti)] (by decide) rfl dL_law_762 ?_
        refine k_aload_n C dL_law_764 13 rfl ?_
        refine k_iload C dL_law_765 5 rfl ?_
        refine k_bipush C 8 (by decide) dL_law_767 ?_
        have hM49 : kCX l D cI cJ yX2_flight (.code yX2_flight cX2_flight 3 (some .int)) { frames := 6, cells := 1, slots := 6, locals := 127 } [.ref a0, .int (nI k), .int 8] (wC a0 a1 a2 a3 a4 a5 a6 (XX X B t)) 0 B.2.2.2.2.2.2.2.2.1 (wC a0 a1 a2 a3 a4 a5 a6 (XX X B t)) := by
          have h9 := x_X2_flight_8 l hl D cI cJ a0 a1 a2 a3 a4 a5 a6 (nI k) (XX X B t)
          rw [(f8 B t)] at h9
          exact h9
        refine k_callX0 C T hM49 (cwV 2 C.2.2.2.2.1 (kGV q276 q277 q278 q35 q279) rfl rfl rfl ⟨rfl, hdX2_flight⟩ ⟨Nat.le_of_ble_eq_true rfl, Nat.le_of_ble_eq_true rfl⟩) [0, 1, 2, 3, 4, 5, 6] [7, 8, 9, 10, 11] [5, 6, 7, 8, 9, 10, 11, 0, 1, 2, 3, 4] [(z0, cZ (.ref z4) z1 Z.2.2), (z1, cQ cJ z2 z3), (z2, cA4 cI Z.1), (z3, cA4 cI Z.2.1), (z4, cL b)] [(a0, cF a1 a2 a3 a4 a5 a6 X.2.2.2.2.2.2), (a1, cS X.1), (a2, cS X.2.1), (a3, cB X.2.2.1), (a4, cB X.2.2.2.1), (a5, cB B), (a6, cB t), (z0, cZ (.ref z4) z1 Z.2.2), (z1, cQ cJ z2 z3), (z2, cA4 cI Z.1), (z3, cA4 cI Z.2.1), (z4, cL b)] rfl rfl rfl rfl (by decide) [a0, a1, a2, a3, a4, a5, a6] rfl rfl rfl rfl 0 2 rfl rfl rfl (Nat.le_of_ble_eq_true rfl) ⟨by show _ ≤ 600104; omega, by show _ ≤ 7301314; omega⟩ rfl dL_law_769 rfl ?_
        refine k_istore C [(17, .int B.2.2.2.2.2.2.2.2.1), (16, .int B.2.2.2.2.2.2.2.1), (15, .int B.2.2.2.2.2.2.1), (22, .int B.2.1), (21, .int B.1), (20, .int 0), (19, .int (nI k)), (18, .int ro), (14, .int (fX2_end_1 X)), (13, .int (fX2_end_0 X)), (11, .long dg), (5, .int x), (0, .ref sc), (1, .ref a0), (2, .ref z0), (3, .int ia), (4, .int ti)] (by decide) rfl dL_law_772 ?_
        refine k_iload C dL_law_774 3 rfl ?_
        refine k_istore C [(18, .int B.2.1), (17, .int B.2.2.2.2.2.2.2.2.1), (16, .int B.2.2.2.2.2.2.2.1), (15, .int B.2.2.2.2.2.2.1), (22, .int B.2.1), (21, .int B.1), (20, .int 0), (19, .int (nI k)), (14, .int (fX2_end_1 X)), (13, .int (fX2_end_0 X)), (11, .long dg), (5, .int x), (0, .ref sc), (1, .ref a0), (2, .ref z0), (3, .int ia), (4, .int ti)] (by decide) rfl dL_law_776 ?_
        refine k_iload C dL_law_778 7 rfl ?_
        refine k_if_le C 826 (by decide) dL_law_780 (fun c50 => ?_) (fun c50 => ?_)
        ·
          refine k_widen (k' := K + 16) (n' := N + 96) (by omega) (by omega) ?_
          refine k_sub [7, 0, 1, 2, 3, 8, 9, 10, 11, 12, 13, 14, 15, 16] rfl ?_
          exact kk B t
        ·
          refine k_iload C dL_law_783 7 rfl ?_
          refine k_bipush C 7 (by decide) dL_law_785 ?_
          refine k_irem C (by decide) dL_law_787 ?_
          refine k_iconst C 3 (by decide) dL_law_788 ?_
          refine k_icmp_ne C 826 (by decide) dL_law_789 (fun c51 => ?_) (fun c51 => ?_)
          ·
            refine k_widen (k' := K + 16) (n' := N + 96) (by omega) (by omega) ?_
            refine k_sub [7, 0, 1, 2, 3, 8, 9, 10, 11, 12, 13, 14, 15, 16] rfl ?_
            exact kk B t
          ·
            refine k_aload_n C dL_law_792 13 rfl ?_
            refine k_iload C dL_law_793 7 rfl ?_
            refine k_iconst C 0 (by decide) dL_law_795 ?_
            refine k_bipush C (-2) (by decide) dL_law_796 ?_
            refine k_bipush C 9 (by decide) dL_law_798 ?_
            obtain ⟨an, tn, ew⟩ := hW c50 B t
            have hM52 : kCX l D cI cJ yX2_would (.code yX2_would cX2_would 5 (some .int)) { frames := 7, cells := 1, slots := 6, locals := 148 } [.ref a0, .int (nI k), .int 0, .int (-2), .int 9] (wC a0 a1 a2 a3 a4 a5 a6 (XX X B t)) 0 w (wC a0 a1 a2 a3 a4 a5 a6 (XX X an tn)) := by
              have h9 := x_X2_would l hl D cI cJ a0 a1 a2 a3 a4 a5 a6 (nI k) 0 (-2) 9 (XX X B t)
              rw [ew] at h9
              exact h9
            refine k_callX0 C T hM52 (cwV 4 C.2.2.2.2.1 (kGV q362 q363 q364 q35 q365) rfl rfl rfl ⟨rfl, hdX2_would⟩ ⟨Nat.le_of_ble_eq_true rfl, Nat.le_of_ble_eq_true rfl⟩) [0, 1, 2, 3, 4, 5, 6] [7, 8, 9, 10, 11] [5, 6, 7, 8, 9, 10, 11, 0, 1, 2, 3, 4] [(z0, cZ (.ref z4) z1 Z.2.2), (z1, cQ cJ z2 z3), (z2, cA4 cI Z.1), (z3, cA4 cI Z.2.1), (z4, cL b)] [(a0, cF a1 a2 a3 a4 a5 a6 X.2.2.2.2.2.2), (a1, cS X.1), (a2, cS X.2.1), (a3, cB X.2.2.1), (a4, cB X.2.2.2.1), (a5, cB an), (a6, cB tn), (z0, cZ (.ref z4) z1 Z.2.2), (z1, cQ cJ z2 z3), (z2, cA4 cI Z.1), (z3, cA4 cI Z.2.1), (z4, cL b)] rfl rfl rfl rfl (by decide) [a0, a1, a2, a3, a4, a5, a6] rfl rfl rfl rfl 0 2 rfl rfl rfl (Nat.le_of_ble_eq_true rfl) ⟨by show _ ≤ 600104; omega, by show _ ≤ 7301314; omega⟩ rfl dL_law_800 rfl ?_
            refine k_if_le C 810 (by decide) dL_law_803 (fun c53 => ?_) (fun c53 => ?_)
            ·
              refine k_iconst C 0 (by decide) dL_law_810 ?_
              refine k_iload C dL_law_811 3 rfl ?_
              refine k_if_le C 820 (by decide) dL_law_813 (fun _ => ?_) (fun h => absurd ((hWf c50).mp c53) h)
              refine k_iconst C 0 (by decide) dL_law_820 ?_
              refine k_icmp_eq C 826 (by decide) dL_law_821 (fun _ => ?_) (fun h => absurd (by decide) h)
              refine k_widen (k' := K + 16) (n' := N + 96) (by omega) (by omega) ?_
              refine k_sub [7, 0, 1, 2, 3, 8, 9, 10, 11, 12, 13, 14, 15, 16] rfl ?_
              exact kk an tn
            ·
              refine k_iconst C 1 (by decide) dL_law_806 ?_
              refine k_goto C 811 (by decide) dL_law_807 ?_
              refine k_iload C dL_law_811 3 rfl ?_
              refine k_if_le C 820 (by decide) dL_law_813 (fun h => absurd h (fun h9 => c53 ((hWf c50).mpr h9))) (fun _ => ?_)
              refine k_iconst C 1 (by decide) dL_law_816 ?_
              refine k_goto C 821 (by decide) dL_law_817 ?_
              refine k_icmp_eq C 826 (by decide) dL_law_821 (fun _ => ?_) (fun h => absurd (by decide) h)
              refine k_widen (k' := K + 16) (n' := N + 96) (by omega) (by omega) ?_
              refine k_sub [7, 0, 1, 2, 3, 8, 9, 10, 11, 12, 13, 14, 15, 16] rfl ?_
              exact kk an tn
    ·
      refine k_iload C dL_law_595 0 rfl ?_
      refine k_bipush C 13 (by decide) dL_law_597 ?_
      refine k_icmp_lt C 666 (by decide) dL_law_599 (fun h => absurd h (hBt c4 c29)) (fun _ => ?_)
      refine k_aload_n C dL_law_602 13 rfl ?_
      refine k_iload C dL_law_603 3 rfl ?_
      refine k_iconst C 2 (by decide) dL_law_605 ?_
      have hM54 : kCX l D cI cJ yX2_flight (.code yX2_flight cX2_flight 3 (some .int)) { frames := 6, cells := 1, slots := 6, locals := 127 } [.ref a0, .int (nI k), .int 2] (wC a0 a1 a2 a3 a4 a5 a6 (XX X B t)) 0 B.2.2.1 (wC a0 a1 a2 a3 a4 a5 a6 (XX X B t)) := by
        have h9 := x_X2_flight_2 l hl D cI cJ a0 a1 a2 a3 a4 a5 a6 (nI k) (XX X B t)
        rw [(f2 B t)] at h9
        exact h9
      refine k_callX0 C T hM54 (cwV 2 C.2.2.2.2.1 (kGV q276 q277 q278 q35 q279) rfl rfl rfl ⟨rfl, hdX2_flight⟩ ⟨Nat.le_of_ble_eq_true rfl, Nat.le_of_ble_eq_true rfl⟩) [0, 1, 2, 3, 4, 5, 6] [7, 8, 9, 10, 11] [5, 6, 7, 8, 9, 10, 11, 0, 1, 2, 3, 4] [(z0, cZ (.ref z4) z1 Z.2.2), (z1, cQ cJ z2 z3), (z2, cA4 cI Z.1), (z3, cA4 cI Z.2.1), (z4, cL b)] [(a0, cF a1 a2 a3 a4 a5 a6 X.2.2.2.2.2.2), (a1, cS X.1), (a2, cS X.2.1), (a3, cB X.2.2.1), (a4, cB X.2.2.2.1), (a5, cB B), (a6, cB t), (z0, cZ (.ref z4) z1 Z.2.2), (z1, cQ cJ z2 z3), (z2, cA4 cI Z.1), (z3, cA4 cI Z.2.1), (z4, cL b)] rfl rfl rfl rfl (by decide) [a0, a1, a2, a3, a4, a5, a6] rfl rfl rfl rfl 0 2 rfl rfl rfl (Nat.le_of_ble_eq_true rfl) ⟨by show _ ≤ 600104; omega, by show _ ≤ 7301314; omega⟩ rfl dL_law_606 rfl ?_
      refine k_if_lt C 666 (by decide) dL_law_609 (fun h => absurd h h609) (fun _ => ?_)
      refine k_iload C dL_law_612 0 rfl ?_
      refine k_iload C dL_law_614 4 rfl ?_
      refine k_isub C dL_law_616 ?_
      refine k_abs C q677 q325 q45 q326 (Nat.le_of_ble_eq_true rfl) (Nat.le_of_ble_eq_true rfl) (by show _ ≤ 600104; omega) (by show _ ≤ 7301314; omega) dL_law_617 ?_
      refine k_iconst C 2 (by decide) dL_law_620 ?_
      refine k_icmp_gt C 666 (by decide) dL_law_621 (fun h => absurd h h621) (fun _ => ?_)
      refine k_aload_n C dL_law_624 13 rfl ?_
      refine k_iload C dL_law_625 3 rfl ?_
      refine k_iconst C 3 (by decide) dL_law_627 ?_
      have hM55 : kCX l D cI cJ yX2_flight (.code yX2_flight cX2_flight 3 (some .int)) { frames := 6, cells := 1, slots := 6, locals := 127 } [.ref a0, .int (nI k), .int 3] (wC a0 a1 a2 a3 a4 a5 a6 (XX X B t)) 0 B.2.2.2.1 (wC a0 a1 a2 a3 a4 a5 a6 (XX X B t)) := by
        have h9 := x_X2_flight_3 l hl D cI cJ a0 a1 a2 a3 a4 a5 a6 (nI k) (XX X B t)
        rw [(f3 B t)] at h9
        exact h9
      refine k_callX0 C T hM55 (cwV 2 C.2.2.2.2.1 (kGV q276 q277 q278 q35 q279) rfl rfl rfl ⟨rfl, hdX2_flight⟩ ⟨Nat.le_of_ble_eq_true rfl, Nat.le_of_ble_eq_true rfl⟩) [0, 1, 2, 3, 4, 5, 6] [7, 8, 9, 10, 11] [5, 6, 7, 8, 9, 10, 11, 0, 1, 2, 3, 4] [(z0, cZ (.ref z4) z1 Z.2.2), (z1, cQ cJ z2 z3), (z2, cA4 cI Z.1), (z3, cA4 cI Z.2.1), (z4, cL b)] [(a0, cF a1 a2 a3 a4 a5 a6 X.2.2.2.2.2.2), (a1, cS X.1), (a2, cS X.2.1), (a3, cB X.2.2.1), (a4, cB X.2.2.2.1), (a5, cB B), (a6, cB t), (z0, cZ (.ref z4) z1 Z.2.2), (z1, cQ cJ z2 z3), (z2, cA4 cI Z.1), (z3, cA4 cI Z.2.1), (z4, cL b)] rfl rfl rfl rfl (by decide) [a0, a1, a2, a3, a4, a5, a6] rfl rfl rfl rfl 0 2 rfl rfl rfl (Nat.le_of_ble_eq_true rfl) ⟨by show _ ≤ 600104; omega, by show _ ≤ 7301314; omega⟩ rfl dL_law_628 rfl ?_
      refine k_abs C q677 q325 q45 q326 (Nat.le_of_ble_eq_true rfl) (Nat.le_of_ble_eq_true rfl) (by show _ ≤ 600104; omega) (by show _ ≤ 7301314; omega) dL_law_631 ?_
      refine k_aload_n C dL_law_634 13 rfl ?_
      refine k_iconst C 3 (by decide) dL_law_635 ?_
      refine k_callV_i C (mX2_ball_3 l D cI cJ a0 a1 a2 a3 a4 a5 a6 (X.1, X.2.1, X.2.2.1, X.2.2.2.1, B, t, X.2.2.2.2.2.2)) (cwV 1 C.2.2.2.2.1 (kGV q168 q169 q170 q35 q171) rfl rfl rfl ⟨rfl, hdX2_ball⟩ ⟨Nat.le_of_ble_eq_true rfl, Nat.le_of_ble_eq_true rfl⟩) [0, 1, 2, 3, 4, 5, 6] [7, 8, 9, 10, 11] [5, 6, 7, 8, 9, 10, 11, 0, 1, 2, 3, 4] [(z0, cZ (.ref z4) z1 Z.2.2), (z1, cQ cJ z2 z3), (z2, cA4 cI Z.1), (z3, cA4 cI Z.2.1), (z4, cL b)] ([(a0, cF a1 a2 a3 a4 a5 a6 X.2.2.2.2.2.2), (a1, cS X.1), (a2, cS X.2.1), (a3, cB X.2.2.1), (a4, cB X.2.2.2.1), (a5, cB B), (a6, cB t), (z0, cZ (.ref z4) z1 Z.2.2), (z1, cQ cJ z2 z3), (z2, cA4 cI Z.1), (z3, cA4 cI Z.2.1), (z4, cL b)]) rfl rfl rfl rfl (by decide) [a0, a1, a2, a3, a4, a5, a6] rfl rfl rfl rfl 0 2 rfl rfl rfl (Nat.le_of_ble_eq_true rfl) ⟨by show _ ≤ 600104; omega, by show _ ≤ 7301314; omega⟩ rfl dL_law_636 ?_
      refine k_abs C q677 q325 q45 q326 (Nat.le_of_ble_eq_true rfl) (Nat.le_of_ble_eq_true rfl) (by show _ ≤ 600104; omega) (by show _ ≤ 7301314; omega) dL_law_639 ?_
      refine k_icmp_ne C 666 (by decide) dL_law_642 (fun h => absurd h642 h) (fun _ => ?_)
      refine k_aload_n C dL_law_645 13 rfl ?_
      refine k_iload C dL_law_646 3 rfl ?_
      refine k_iconst C 4 (by decide) dL_law_648 ?_
      have hM56 : kCX l D cI cJ yX2_flight (.code yX2_flight cX2_flight 3 (some .int)) { frames := 6, cells := 1, slots := 6, locals := 127 } [.ref a0, .int (nI k), .int 4] (wC a0 a1 a2 a3 a4 a5 a6 (XX X B t)) 0 B.2.2.2.2.1 (wC a0 a1 a2 a3 a4 a5 a6 (XX X B t)) := by
        have h9 := x_X2_flight_4 l hl D cI cJ a0 a1 a2 a3 a4 a5 a6 (nI k) (XX X B t)
        rw [(f4 B t)] at h9
        exact h9
      refine k_callX0 C T hM56 (cwV 2 C.2.2.2.2.1 (kGV q276 q277 q278 q35 q279) rfl rfl rfl ⟨rfl, hdX2_flight⟩ ⟨Nat.le_of_ble_eq_true rfl, Nat.le_of_ble_eq_true rfl⟩) [0, 1, 2, 3, 4, 5, 6] [7, 8, 9, 10, 11] [5, 6, 7, 8, 9, 10, 11, 0, 1, 2, 3, 4] [(z0, cZ (.ref z4) z1 Z.2.2), (z1, cQ cJ z2 z3), (z2, cA4 cI Z.1), (z3, cA4 cI Z.2.1), (z4, cL b)] [(a0, cF a1 a2 a3 a4 a5 a6 X.2.2.2.2.2.2), (a1, cS X.1), (a2, cS X.2.1), (a3, cB X.2.2.1), (a4, cB X.2.2.2.1), (a5, cB B), (a6, cB t), (z0, cZ (.ref z4) z1 Z.2.2), (z1, cQ cJ z2 z3), (z2, cA4 cI Z.1), (z3, cA4 cI Z.2.1), (z4, cL b)] rfl rfl rfl rfl (by decide) [a0, a1, a2, a3, a4, a5, a6] rfl rfl rfl rfl 0 2 rfl rfl rfl (Nat.le_of_ble_eq_true rfl) ⟨by show _ ≤ 600104; omega, by show _ ≤ 7301314; omega⟩ rfl dL_law_649 rfl ?_
      refine k_abs C q677 q325 q45 q326 (Nat.le_of_ble_eq_true rfl) (Nat.le_of_ble_eq_true rfl) (by show _ ≤ 600104; omega) (by show _ ≤ 7301314; omega) dL_law_652 ?_
      refine k_aload_n C dL_law_655 13 rfl ?_
      refine k_iconst C 4 (by decide) dL_law_656 ?_
      refine k_callV_i C (mX2_ball_4 l D cI cJ a0 a1 a2 a3 a4 a5 a6 (X.1, X.2.1, X.2.2.1, X.2.2.2.1, B, t, X.2.2.2.2.2.2)) (cwV 1 C.2.2.2.2.1 (kGV q168 q169 q170 q35 q171) rfl rfl rfl ⟨rfl, hdX2_ball⟩ ⟨Nat.le_of_ble_eq_true rfl, Nat.le_of_ble_eq_true rfl⟩) [0, 1, 2, 3, 4, 5, 6] [7, 8, 9, 10, 11] [5, 6, 7, 8, 9, 10, 11, 0, 1, 2, 3, 4] [(z0, cZ (.ref z4) z1 Z.2.2), (z1, cQ cJ z2 z3), (z2, cA4 cI Z.1), (z3, cA4 cI Z.2.1), (z4, cL b)] ([(a0, cF a1 a2 a3 a4 a5 a6 X.2.2.2.2.2.2), (a1, cS X.1), (a2, cS X.2.1), (a3, cB X.2.2.1), (a4, cB X.2.2.2.1), (a5, cB B), (a6, cB t), (z0, cZ (.ref z4) z1 Z.2.2), (z1, cQ cJ z2 z3), (z2, cA4 cI Z.1), (z3, cA4 cI Z.2.1), (z4, cL b)]) rfl rfl rfl rfl (by decide) [a0, a1, a2, a3, a4, a5, a6] rfl rfl rfl rfl 0 2 rfl rfl rfl (Nat.le_of_ble_eq_true rfl) ⟨by show _ ≤ 600104; omega, by show _ ≤ 7301314; omega⟩ rfl dL_law_657 ?_
      refine k_abs C q677 q325 q45 q326 (Nat.le_of_ble_eq_true rfl) (Nat.le_of_ble_eq_true rfl) (by show _ ≤ 600104; omega) (by show _ ≤ 7301314; omega) dL_law_660 ?_
      refine k_icmp_eq C 668 (by decide) dL_law_663 (fun _ => ?_) (fun h => absurd h663 h)
      refine k_aload_n C dL_law_668 13 rfl ?_
      refine k_iload C dL_law_669 3 rfl ?_
      refine k_bipush C 6 (by decide) dL_law_671 ?_
      have hM57 : kCX l D cI cJ yX2_flight (.code yX2_flight cX2_flight 3 (some .int)) { frames := 6, cells := 1, slots := 6, locals := 127 } [.ref a0, .int (nI k), .int 6] (wC a0 a1 a2 a3 a4 a5 a6 (XX X B t)) 0 B.2.2.2.2.2.2.1 (wC a0 a1 a2 a3 a4 a5 a6 (XX X B t)) := by
        have h9 := x_X2_flight_6 l hl D cI cJ a0 a1 a2 a3 a4 a5 a6 (nI k) (XX X B t)
        rw [(f6 B t)] at h9
        exact h9
      refine k_callX0 C T hM57 (cwV 2 C.2.2.2.2.1 (kGV q276 q277 q278 q35 q279) rfl rfl rfl ⟨rfl, hdX2_flight⟩ ⟨Nat.le_of_ble_eq_true rfl, Nat.le_of_ble_eq_true rfl⟩) [0, 1, 2, 3, 4, 5, 6] [7, 8, 9, 10, 11] [5, 6, 7, 8, 9, 10, 11, 0, 1, 2, 3, 4] [(z0, cZ (.ref z4) z1 Z.2.2), (z1, cQ cJ z2 z3), (z2, cA4 cI Z.1), (z3, cA4 cI Z.2.1), (z4, cL b)] [(a0, cF a1 a2 a3 a4 a5 a6 X.2.2.2.2.2.2), (a1, cS X.1), (a2, cS X.2.1), (a3, cB X.2.2.1), (a4, cB X.2.2.2.1), (a5, cB B), (a6, cB t), (z0, cZ (.ref z4) z1 Z.2.2), (z1, cQ cJ z2 z3), (z2, cA4 cI Z.1), (z3, cA4 cI Z.2.1), (z4, cL b)] rfl rfl rfl rfl (by decide) [a0, a1, a2, a3, a4, a5, a6] rfl rfl rfl rfl 0 2 rfl rfl rfl (Nat.le_of_ble_eq_true rfl) ⟨by show _ ≤ 600104; omega, by show _ ≤ 7301314; omega⟩ rfl dL_law_673 rfl ?_
      refine k_iload C dL_law_676 7 rfl ?_
      refine k_icmp_lt C 742 (by decide) dL_law_678 (fun h => absurd h h678) (fun _ => ?_)
      refine k_aload_n C dL_law_681 13 rfl ?_
      refine k_iload C dL_law_682 3 rfl ?_
      refine k_bipush C 7 (by decide) dL_law_684 ?_
      have hM58 : kCX l D cI cJ yX2_flight (.code yX2_flight cX2_flight 3 (some .int)) { frames := 6, cells := 1, slots := 6, locals := 127 } [.ref a0, .int (nI k), .int 7] (wC a0 a1 a2 a3 a4 a5 a6 (XX X B t)) 0 B.2.2.2.2.2.2.2.1 (wC a0 a1 a2 a3 a4 a5 a6 (XX X B t)) := by
        have h9 := x_X2_flight_7 l hl D cI cJ a0 a1 a2 a3 a4 a5 a6 (nI k) (XX X B t)
        rw [(f7 B t)] at h9
        exact h9
      refine k_callX0 C T hM58 (cwV 2 C.2.2.2.2.1 (kGV q276 q277 q278 q35 q279) rfl rfl rfl ⟨rfl, hdX2_flight⟩ ⟨Nat.le_of_ble_eq_true rfl, Nat.le_of_ble_eq_true rfl⟩) [0, 1, 2, 3, 4, 5, 6] [7, 8, 9, 10, 11] [5, 6, 7, 8, 9, 10, 11, 0, 1, 2, 3, 4] [(z0, cZ (.ref z4) z1 Z.2.2), (z1, cQ cJ z2 z3), (z2, cA4 cI Z.1), (z3, cA4 cI Z.2.1), (z4, cL b)] [(a0, cF a1 a2 a3 a4 a5 a6 X.2.2.2.2.2.2), (a1, cS X.1), (a2, cS X.2.1), (a3, cB X.2.2.1), (a4, cB X.2.2.2.1), (a5, cB B), (a6, cB t), (z0, cZ (.ref z4) z1 Z.2.2), (z1, cQ cJ z2 z3), (z2, cA4 cI Z.1), (z3, cA4 cI Z.2.1), (z4, cL b)] rfl rfl rfl rfl (by decide) [a0, a1, a2, a3, a4, a5, a6] rfl rfl rfl rfl 0 2 rfl rfl rfl (Nat.le_of_ble_eq_true rfl) ⟨by show _ ≤ 600104; omega, by show _ ≤ 7301314; omega⟩ rfl dL_law_686 rfl ?_
      refine k_iload C dL_law_689 6 rfl ?_
      refine k_icmp_lt C 742 (by decide) dL_law_691 (fun h => absurd h h691) (fun _ => ?_)
      refine k_aload_n C dL_law_694 13 rfl ?_
      refine k_iload C dL_law_695 3 rfl ?_
      refine k_bipush C 8 (by decide) dL_law_697 ?_
      have hM59 : kCX l D cI cJ yX2_flight (.code yX2_flight cX2_flight 3 (some .int)) { frames := 6, cells := 1, slots := 6, locals := 127 } [.ref a0, .int (nI k), .int 8] (wC a0 a1 a2 a3 a4 a5 a6 (XX X B t)) 0 B.2.2.2.2.2.2.2.2.1 (wC a0 a1 a2 a3 a4 a5 a6 (XX X B t)) := by
        have h9 := x_X2_flight_8 l hl D cI cJ a0 a1 a2 a3 a4 a5 a6 (nI k) (XX X B t)
        rw [(f8 B t)] at h9
        exact h9
      refine k_callX0 C T hM59 (cwV 2 C.2.2.2.2.1 (kGV q276 q277 q278 q35 q279) rfl rfl rfl ⟨rfl, hdX2_flight⟩ ⟨Nat.le_of_ble_eq_true rfl, Nat.le_of_ble_eq_true rfl⟩) [0, 1, 2, 3, 4, 5, 6] [7, 8, 9, 10, 11] [5, 6, 7, 8, 9, 10, 11, 0, 1, 2, 3, 4] [(z0, cZ (.ref z4) z1 Z.2.2), (z1, cQ cJ z2 z3), (z2, cA4 cI Z.1), (z3, cA4 cI Z.2.1), (z4, cL b)] [(a0, cF a1 a2 a3 a4 a5 a6 X.2.2.2.2.2.2), (a1, cS X.1), (a2, cS X.2.1), (a3, cB X.2.2.1), (a4, cB X.2.2.2.1), (a5, cB B), (a6, cB t), (z0, cZ (.ref z4) z1 Z.2.2), (z1, cQ cJ z2 z3), (z2, cA4 cI Z.1), (z3, cA4 cI Z.2.1), (z4, cL b)] rfl rfl rfl rfl (by decide) [a0, a1, a2, a3, a4, a5, a6] rfl rfl rfl rfl 0 2 rfl rfl rfl (Nat.le_of_ble_eq_true rfl) ⟨by show _ ≤ 600104; omega, by show _ ≤ 7301314; omega⟩ rfl dL_law_699 rfl ?_
      refine k_iload C dL_law_702 5 rfl ?_
      refine k_icmp_lt C 742 (by decide) dL_law_704 (fun h => absurd h h704) (fun _ => ?_)
      refine k_aload_n C dL_law_707 13 rfl ?_
      refine k_iload C dL_law_708 3 rfl ?_
      refine k_bipush C 7 (by decide) dL_law_710 ?_
      have hM60 : kCX l D cI cJ yX2_flight (.code yX2_flight cX2_flight 3 (some .int)) { frames := 6, cells := 1, slots := 6, locals := 127 } [.ref a0, .int (nI k), .int 7] (wC a0 a1 a2 a3 a4 a5 a6 (XX X B t)) 0 B.2.2.2.2.2.2.2.1 (wC a0 a1 a2 a3 a4 a5 a6 (XX X B t)) := by
        have h9 := x_X2_flight_7 l hl D cI cJ a0 a1 a2 a3 a4 a5 a6 (nI k) (XX X B t)
        rw [(f7 B t)] at h9
        exact h9
      refine k_callX0 C T hM60 (cwV 2 C.2.2.2.2.1 (kGV q276 q277 q278 q35 q279) rfl rfl rfl ⟨rfl, hdX2_flight⟩ ⟨Nat.le_of_ble_eq_true rfl, Nat.le_of_ble_eq_true rfl⟩) [0, 1, 2, 3, 4, 5, 6] [7, 8, 9, 10, 11] [5, 6, 7, 8, 9, 10, 11, 0, 1, 2, 3, 4] [(z0, cZ (.ref z4) z1 Z.2.2), (z1, cQ cJ z2 z3), (z2, cA4 cI Z.1), (z3, cA4 cI Z.2.1), (z4, cL b)] [(a0, cF a1 a2 a3 a4 a5 a6 X.2.2.2.2.2.2), (a1, cS X.1), (a2, cS X.2.1), (a3, cB X.2.2.1), (a4, cB X.2.2.2.1), (a5, cB B), (a6, cB t), (z0, cZ (.ref z4) z1 Z.2.2), (z1, cQ cJ z2 z3), (z2, cA4 cI Z.1), (z3, cA4 cI Z.2.1), (z4, cL b)] rfl rfl rfl rfl (by decide) [a0, a1, a2, a3, a4, a5, a6] rfl rfl rfl rfl 0 2 rfl rfl rfl (Nat.le_of_ble_eq_true rfl) ⟨by show _ ≤ 600104; omega, by show _ ≤ 7301314; omega⟩ rfl dL_law_712 rfl ?_
      refine k_iconst C 1 (by decide) dL_law_715 ?_
      refine k_icmp_gt C 742 (by decide) dL_law_716 (fun h => absurd h h716) (fun _ => ?_)
      refine k_aload_n C dL_law_719 13 rfl ?_
      refine k_iload C dL_law_720 3 rfl ?_
      refine k_bipush C 7 (by decide) dL_law_722 ?_
      have hM61 : kCX l D cI cJ yX2_flight (.code yX2_flight cX2_flight 3 (some .int)) { frames := 6, cells := 1, slots := 6, locals := 127 } [.ref a0, .int (nI k), .int 7] (wC a0 a1 a2 a3 a4 a5 a6 (XX X B t)) 0 B.2.2.2.2.2.2.2.1 (wC a0 a1 a2 a3 a4 a5 a6 (XX X B t)) := by
        have h9 := x_X2_flight_7 l hl D cI cJ a0 a1 a2 a3 a4 a5 a6 (nI k) (XX X B t)
        rw [(f7 B t)] at h9
        exact h9
      refine k_callX0 C T hM61 (cwV 2 C.2.2.2.2.1 (kGV q276 q277 q278 q35 q279) rfl rfl rfl ⟨rfl, hdX2_flight⟩ ⟨Nat.le_of_ble_eq_true rfl, Nat.le_of_ble_eq_true rfl⟩) [0, 1, 2, 3, 4, 5, 6] [7, 8, 9, 10, 11] [5, 6, 7, 8, 9, 10, 11, 0, 1, 2, 3, 4] [(z0, cZ (.ref z4) z1 Z.2.2), (z1, cQ cJ z2 z3), (z2, cA4 cI Z.1), (z3, cA4 cI Z.2.1), (z4, cL b)] [(a0, cF a1 a2 a3 a4 a5 a6 X.2.2.2.2.2.2), (a1, cS X.1), (a2, cS X.2.1), (a3, cB X.2.2.1), (a4, cB X.2.2.2.1), (a5, cB B), (a6, cB t), (z0, cZ (.ref z4) z1 Z.2.2), (z1, cQ cJ z2 z3), (z2, cA4 cI Z.1), (z3, cA4 cI Z.2.1), (z4, cL b)] rfl rfl rfl rfl (by decide) [a0, a1, a2, a3, a4, a5, a6] rfl rfl rfl rfl 0 2 rfl rfl rfl (Nat.le_of_ble_eq_true rfl) ⟨by show _ ≤ 600104; omega, by show _ ≤ 7301314; omega⟩ rfl dL_law_724 rfl ?_
      refine k_iconst C 1 (by decide) dL_law_727 ?_
      refine k_icmp_ne C 744 (by decide) dL_law_728 (fun c62 => ?_) (fun c62 => ?_)
      ·
        refine k_aload_n C dL_law_744 13 rfl ?_
        refine k_iload C dL_law_745 3 rfl ?_
        refine k_bipush C 6 (by decide) dL_law_747 ?_
        have hM63 : kCX l D cI cJ yX2_flight (.code yX2_flight cX2_flight 3 (some .int)) { frames := 6, cells := 1, slots := 6, locals := 127 } [.ref a0, .int (nI k), .int 6] (wC a0 a1 a2 a3 a4 a5 a6 (XX X B t)) 0 B.2.2.2.2.2.2.1 (wC a0 a1 a2 a3 a4 a5 a6 (XX X B t)) := by
          have h9 := x_X2_flight_6 l hl D cI cJ a0 a1 a2 a3 a4 a5 a6 (nI k) (XX X B t)
          rw [(f6 B t)] at h9
          exact h9
        refine k_callX0 C T hM63 (cwV 2 C.2.2.2.2.1 (kGV q276 q277 q278 q35 q279) rfl rfl rfl ⟨rfl, hdX2_flight⟩ ⟨Nat.le_of_ble_eq_true rfl, Nat.le_of_ble_eq_true rfl⟩) [0, 1, 2, 3, 4, 5, 6] [7, 8, 9, 10, 11] [5, 6, 7, 8, 9, 10, 11, 0, 1, 2, 3, 4] [(z0, cZ (.ref z4) z1 Z.2.2), (z1, cQ cJ z2 z3), (z2, cA4 cI Z.1), (z3, cA4 cI Z.2.1), (z4, cL b)] [(a0, cF a1 a2 a3 a4 a5 a6 X.2.2.2.2.2.2), (a1, cS X.1), (a2, cS X.2.1), (a3, cB X.2.2.1), (a4, cB X.2.2.2.1), (a5, cB B), (a6, cB t), (z0, cZ (.ref z4) z1 Z.2.2), (z1, cQ cJ z2 z3), (z2, cA4 cI Z.1), (z3, cA4 cI Z.2.1), (z4, cL b)] rfl rfl rfl rfl (by decide) [a0, a1, a2, a3, a4, a5, a6] rfl rfl rfl rfl 0 2 rfl rfl rfl (Nat.le_of_ble_eq_true rfl) ⟨by show _ ≤ 600104; omega, by show _ ≤ 7301314; omega⟩ rfl dL_law_749 rfl ?_
        refine k_istore C [(15, .int B.2.2.2.2.2.2.1), (22, .int B.2.1), (21, .int B.1), (20, .int 0), (19, .int (nI k)), (18, .int ro), (17, .int tu), (16, .int bo), (14, .int (fX2_end_1 X)), (13, .int (fX2_end_0 X)), (11, .long dg), (5, .int x), (0, .ref sc), (1, .ref a0), (2, .ref z0), (3, .int ia), (4, .int ti)] (by decide) rfl dL_law_752 ?_
        refine k_aload_n C dL_law_754 13 rfl ?_
        refine k_iload C dL_law_755 4 rfl ?_
        refine k_bipush C 7 (by decide) dL_law_757 ?_
        have hM64 : kCX l D cI cJ yX2_flight (.code yX2_flight cX2_flight 3 (some .int)) { frames := 6, cells := 1, slots := 6, locals := 127 } [.ref a0, .int (nI k), .int 7] (wC a0 a1 a2 a3 a4 a5 a6 (XX X B t)) 0 B.2.2.2.2.2.2.2.1 (wC a0 a1 a2 a3 a4 a5 a6 (XX X B t)) := by
          have h9 := x_X2_flight_7 l hl D cI cJ a0 a1 a2 a3 a4 a5 a6 (nI k) (XX X B t)
          rw [(f7 B t)] at h9
          exact h9
        refine k_callX0 C T hM64 (cwV 2 C.2.2.2.2.1 (kGV q276 q277 q278 q35 q279) rfl rfl rfl ⟨rfl, hdX2_flight⟩ ⟨Nat.le_of_ble_eq_true rfl, Nat.le_of_ble_eq_true rfl⟩) [0, 1, 2, 3, 4, 5, 6] [7, 8, 9, 10, 11] [5, 6, 7, 8, 9, 10, 11, 0, 1, 2, 3, 4] [(z0, cZ (.ref z4) z1 Z.2.2), (z1, cQ cJ z2 z3), (z2, cA4 cI Z.1), (z3, cA4 cI Z.2.1), (z4, cL b)] [(a0, cF a1 a2 a3 a4 a5 a6 X.2.2.2.2.2.2), (a1, cS X.1), (a2, cS X.2.1), (a3, cB X.2.2.1), (a4, cB X.2.2.2.1), (a5, cB B), (a6, cB t), (z0, cZ (.ref z4) z1 Z.2.2), (z1, cQ cJ z2 z3), (z2, cA4 cI Z.1), (z3, cA4 cI Z.2.1), (z4, cL b)] rfl rfl rfl rfl (by decide) [a0, a1, a2, a3, a4, a5, a6] rfl rfl rfl rfl 0 2 rfl rfl rfl (Nat.le_of_ble_eq_true rfl) ⟨by show _ ≤ 600104; omega, by show _ ≤ 7301314; omega⟩ rfl dL_law_759 rfl ?_
        refine k_istore C [(16, .int B.2.2.2.2.2.2.2.1), (15, .int B.2.2.2.2.2.2.1), (22, .int B.2.1), (21, .int B.1), (20, .int 0), (19, .int (nI k)), (18, .int ro), (17, .int tu), (14, .int (fX2_end_1 X)), (13, .int (fX2_end_0 X)), (11, .long dg), (5, .int x), (0, .ref sc), (1, .ref a0), (2, .ref z0), (3, .int ia), (4, .int ti)] (by decide) rfl dL_law_762 ?_
        refine k_aload_n C dL_law_764 13 rfl ?_
        refine k_iload C dL_law_765 5 rfl ?_
        refine k_bipush C 8 (by decide) dL_law_767 ?_
        have hM65 : kCX l D cI cJ yX2_flight (.code yX2_flight cX2_flight 3 (some .int)) { frames := 6, cells := 1, slots := 6, locals := 127 } [.ref a0, .int (nI k), .int 8] (wC a0 a1 a2 a3 a4 a5 a6 (XX X B t)) 0 B.2.2.2.2.2.2.2.2.1 (wC a0 a1 a2 a3 a4 a5 a6 (XX X B t)) := by
          have h9 := x_X2_flight_8 l hl D cI cJ a0 a1 a2 a3 a4 a5 a6 (nI k) (XX X B t)
          rw [(f8 B t)] at h9
          exact h9
        refine k_callX0 C T hM65 (cwV 2 C.2.2.2.2.1 (kGV q276 q277 q278 q35 q279) rfl rfl rfl ⟨rfl, hdX2_flight⟩ ⟨Nat.le_of_ble_eq_true rfl, Nat.le_of_ble_eq_true rfl⟩) [0, 1, 2, 3, 4, 5, 6] [7, 8, 9, 10, 11] [5, 6, 7, 8, 9, 10, 11, 0, 1, 2, 3, 4] [(z0, cZ (.ref z4) z1 Z.2.2), (z1, cQ cJ z2 z3), (z2, cA4 cI Z.1), (z3, cA4 cI Z.2.1), (z4, cL b)] [(a0, cF a1 a2 a3 a4 a5 a6 X.2.2.2.2.2.2), (a1, cS X.1), (a2, cS X.2.1), (a3, cB X.2.2.1), (a4, cB X.2.2.2.1), (a5, cB B), (a6, cB t), (z0, cZ (.ref z4) z1 Z.2.2), (z1, cQ cJ z2 z3), (z2, cA4 cI Z.1), (z3, cA4 cI Z.2.1), (z4, cL b)] rfl rfl rfl rfl (by decide) [a0, a1, a2, a3, a4, a5, a6] rfl rfl rfl rfl 0 2 rfl rfl rfl (Nat.le_of_ble_eq_true rfl) ⟨by show _ ≤ 600104; omega, by show _ ≤ 7301314; omega⟩ rfl dL_law_769 rfl ?_
        refine k_istore C [(17, .int B.2.2.2.2.2.2.2.2.1), (16, .int B.2.2.2.2.2.2.2.1), (15, .int B.2.2.2.2.2.2.1), (22, .int B.2.1), (21, .int B.1), (20, .int 0), (19, .int (nI k)), (18, .int ro), (14, .int (fX2_end_1 X)), (13, .int (fX2_end_0 X)), (11, .long dg), (5, .int x), (0, .ref sc), (1, .ref a0), (2, .ref z0), (3, .int ia), (4, .int ti)] (by decide) rfl dL_law_772 ?_
        refine k_iload C dL_law_774 3 rfl ?_
        refine k_istore C [(18, .int B.2.1), (17, .int B.2.2.2.2.2.2.2.2.1), (16, .int B.2.2.2.2.2.2.2.1), (15, .int B.2.2.2.2.2.2.1), (22, .int B.2.1), (21, .int B.1), (20, .int 0), (19, .int (nI k)), (14, .int (fX2_end_1 X)), (13, .int (fX2_end_0 X)), (11, .long dg), (5, .int x), (0, .ref sc), (1, .ref a0), (2, .ref z0), (3, .int ia), (4, .int ti)] (by decide) rfl dL_law_776 ?_
        refine k_iload C dL_law_778 7 rfl ?_
        refine k_if_le C 826 (by decide) dL_law_780 (fun c66 => ?_) (fun c66 => ?_)
        ·
          refine k_widen (k' := K + 16) (n' := N + 96) (by omega) (by omega) ?_
          refine k_sub [7, 0, 1, 2, 3, 8, 9, 10, 11, 12, 13, 14, 15, 16] rfl ?_
          exact kk B t
        ·
          refine k_iload C dL_law_783 7 rfl ?_
          refine k_bipush C 7 (by decide) dL_law_785 ?_
          refine k_irem C (by decide) dL_law_787 ?_
          refine k_iconst C 3 (by decide) dL_law_788 ?_
          refine k_icmp_ne C 826 (by decide) dL_law_789 (fun c67 => ?_) (fun c67 => ?_)
          ·
            refine k_widen (k' := K + 16) (n' := N + 96) (by omega) (by omega) ?_
            refine k_sub [7, 0, 1, 2, 3, 8, 9, 10, 11, 12, 13, 14, 15, 16] rfl ?_
            exact kk B t
          ·
            refine k_aload_n C dL_law_792 13 rfl ?_
            refine k_iload C dL_law_793 7 rfl ?_
            refine k_iconst C 0 (by decide) dL_law_795 ?_
            refine k_bipush C (-2) (by decide) dL_law_796 ?_
            refine k_bipush C 9 (by decide) dL_law_798 ?_
            obtain ⟨an, tn, ew⟩ := hW c66 B t
            have hM68 : kCX l D cI cJ yX2_would (.code yX2_would cX2_would 5 (some .int)) { frames := 7, cells := 1, slots := 6, locals := 148 } [.ref a0, .int (nI k), .int 0, .int (-2), .int 9] (wC a0 a1 a2 a3 a4 a5 a6 (XX X B t)) 0 w (wC a0 a1 a2 a3 a4 a5 a6 (XX X an tn)) := by
              have h9 := x_X2_would l hl D cI cJ a0 a1 a2 a3 a4 a5 a6 (nI k) 0 (-2) 9 (XX X B t)
              rw [ew] at h9
              exact h9
            refine k_callX0 C T hM68 (cwV 4 C.2.2.2.2.1 (kGV q362 q363 q364 q35 q365) rfl rfl rfl ⟨rfl, hdX2_would⟩ ⟨Nat.le_of_ble_eq_true rfl, Nat.le_of_ble_eq_true rfl⟩) [0, 1, 2, 3, 4, 5, 6] [7, 8, 9, 10, 11] [5, 6, 7, 8, 9, 10, 11, 0, 1, 2, 3, 4] [(z0, cZ (.ref z4) z1 Z.2.2), (z1, cQ cJ z2 z3), (z2, cA4 cI Z.1), (z3, cA4 cI Z.2.1), (z4, cL b)] [(a0, cF a1 a2 a3 a4 a5 a6 X.2.2.2.2.2.2), (a1, cS X.1), (a2, cS X.2.1), (a3, cB X.2.2.1), (a4, cB X.2.2.2.1), (a5, cB an), (a6, cB tn), (z0, cZ (.ref z4) z1 Z.2.2), (z1, cQ cJ z2 z3), (z2, cA4 cI Z.1), (z3, cA4 cI Z.2.1), (z4, cL b)] rfl rfl rfl rfl (by decide) [a0, a1, a2, a3, a4, a5, a6] rfl rfl rfl rfl 0 2 rfl rfl rfl (Nat.le_of_ble_eq_true rfl) ⟨by show _ ≤ 600104; omega, by show _ ≤ 7301314; omega⟩ rfl dL_law_800 rfl ?_
            refine k_if_le C 810 (by decide) dL_law_803 (fun c69 => ?_) (fun c69 => ?_)
            ·
              refine k_iconst C 0 (by decide) dL_law_810 ?_
              refine k_iload C dL_law_811 3 rfl ?_
              refine k_if_le C 820 (by decide) dL_law_813 (fun _ => ?_) (fun h => absurd ((hWf c66).mp c69) h)
              refine k_iconst C 0 (by decide) dL_law_820 ?_
              refine k_icmp_eq C 826 (by decide) dL_law_821 (fun _ => ?_) (fun h => absurd (by decide) h)
              refine k_widen (k' := K + 16) (n' := N + 96) (by omega) (by omega) ?_
              refine k_sub [7, 0, 1, 2, 3, 8, 9, 10, 11, 12, 13, 14, 15, 16] rfl ?_
              exact kk an tn
            ·
              refine k_iconst C 1 (by decide) dL_law_806 ?_
              refine k_goto C 811 (by decide) dL_law_807 ?_
              refine k_iload C dL_law_811 3 rfl ?_
              refine k_if_le C 820 (by decide) dL_law_813 (fun h => absurd h (fun h9 => c69 ((hWf c66).mpr h9))) (fun _ => ?_)
              refine k_iconst C 1 (by decide) dL_law_816 ?_
              refine k_goto C 821 (by decide) dL_law_817 ?_
              refine k_icmp_eq C 826 (by decide) dL_law_821 (fun _ => ?_) (fun h => absurd (by decide) h)
              refine k_widen (k' := K + 16) (n' := N + 96) (by omega) (by omega) ?_
              refine k_sub [7, 0, 1, 2, 3, 8, 9, 10, 11, 12, 13, 14, 15, 16] rfl ?_
              exact kk an tn
      ·
        refine k_aload_n C dL_law_731 13 rfl ?_
        refine k_iload C dL_law_732 3 rfl ?_
        refine k_bipush C 6 (by decide) dL_law_734 ?_
        have hM70 : kCX l D cI cJ yX2_flight (.code yX2_flight cX2_flight 3 (some .int)) { frames := 6, cells := 1, slots := 6, locals := 127 } [.ref a0, .int (nI k), .int 6] (wC a0 a1 a2 a3 a4 a5 a6 (XX X B t)) 0 B.2.2.2.2.2.2.1 (wC a0 a1 a2 a3 a4 a5 a6 (XX X B t)) := by
          have h9 := x_X2_flight_6 l hl D cI cJ a0 a1 a2 a3 a4 a5 a6 (nI k) (XX X B t)
          rw [(f6 B t)] at h9
          exact h9
        refine k_callX0 C T hM70 (cwV 2 C.2.2.2.2.1 (kGV q276 q277 q278 q35 q279) rfl rfl rfl ⟨rfl, hdX2_flight⟩ ⟨Nat.le_of_ble_eq_true rfl, Nat.le_of_ble_eq_true rfl⟩) [0, 1, 2, 3, 4, 5, 6] [7, 8, 9, 10, 11] [5, 6, 7, 8, 9, 10, 11, 0, 1, 2, 3, 4] [(z0, cZ (.ref z4) z1 Z.2.2), (z1, cQ cJ z2 z3), (z2, cA4 cI Z.1), (z3, cA4 cI Z.2.1), (z4, cL b)] [(a0, cF a1 a2 a3 a4 a5 a6 X.2.2.2.2.2.2), (a1, cS X.1), (a2, cS X.2.1), (a3, cB X.2.2.1), (a4, cB X.2.2.2.1), (a5, cB B), (a6, cB t), (z0, cZ (.ref z4) z1 Z.2.2), (z1, cQ cJ z2 z3), (z2, cA4 cI Z.1), (z3, cA4 cI Z.2.1), (z4, cL b)] rfl rfl rfl rfl (by decide) [a0, a1, a2, a3, a4, a5, a6] rfl rfl rfl rfl 0 2 rfl rfl rfl (Nat.le_of_ble_eq_true rfl) ⟨by show _ ≤ 600104; omega, by show _ ≤ 7301314; omega⟩ rfl dL_law_736 rfl ?_
        refine k_if_ne C 744 (by decide) dL_law_739 (fun _ => ?_) (fun h => absurd h (hB1 c62))
        refine k_aload_n C dL_law_744 13 rfl ?_
        refine k_iload C dL_law_745 3 rfl ?_
        refine k_bipush C 6 (by decide) dL_law_747 ?_
        have hM71 : kCX l D cI cJ yX2_flight (.code yX2_flight cX2_flight 3 (some .int)) { frames := 6, cells := 1, slots := 6, locals := 127 } [.ref a0, .int (nI k), .int 6] (wC a0 a1 a2 a3 a4 a5 a6 (XX X B t)) 0 B.2.2.2.2.2.2.1 (wC a0 a1 a2 a3 a4 a5 a6 (XX X B t)) := by
          have h9 := x_X2_flight_6 l hl D cI cJ a0 a1 a2 a3 a4 a5 a6 (nI k) (XX X B t)
          rw [(f6 B t)] at h9
          exact h9
        refine k_callX0 C T hM71 (cwV 2 C.2.2.2.2.1 (kGV q276 q277 q278 q35 q279) rfl rfl rfl ⟨rfl, hdX2_flight⟩ ⟨Nat.le_of_ble_eq_true rfl, Nat.le_of_ble_eq_true rfl⟩) [0, 1, 2, 3, 4, 5, 6] [7, 8, 9, 10, 11] [5, 6, 7, 8, 9, 10, 11, 0, 1, 2, 3, 4] [(z0, cZ (.ref z4) z1 Z.2.2), (z1, cQ cJ z2 z3), (z2, cA4 cI Z.1), (z3, cA4 cI Z.2.1), (z4, cL b)] [(a0, cF a1 a2 a3 a4 a5 a6 X.2.2.2.2.2.2), (a1, cS X.1), (a2, cS X.2.1), (a3, cB X.2.2.1), (a4, cB X.2.2.2.1), (a5, cB B), (a6, cB t), (z0, cZ (.ref z4) z1 Z.2.2), (z1, cQ cJ z2 z3), (z2, cA4 cI Z.1), (z3, cA4 cI Z.2.1), (z4, cL b)] rfl rfl rfl rfl (by decide) [a0, a1, a2, a3, a4, a5, a6] rfl rfl rfl rfl 0 2 rfl rfl rfl (Nat.le_of_ble_eq_true rfl) ⟨by show _ ≤ 600104; omega, by show _ ≤ 7301314; omega⟩ rfl dL_law_749 rfl ?_
        refine k_istore C [(15, .int B.2.2.2.2.2.2.1), (22, .int B.2.1), (21, .int B.1), (20, .int 0), (19, .int (nI k)), (18, .int ro), (17, .int tu), (16, .int bo), (14, .int (fX2_end_1 X)), (13, .int (fX2_end_0 X)), (11, .long dg), (5, .int x), (0, .ref sc), (1, .ref a0), (2, .ref z0), (3, .int ia), (4, .int ti)] (by decide) rfl dL_law_752 ?_
        refine k_aload_n C dL_law_754 13 rfl ?_
        refine k_iload C dL_law_755 4 rfl ?_
        refine k_bipush C 7 (by decide) dL_law_757 ?_
        have hM72 : kCX l D cI cJ yX2_flight (.code yX2_flight cX2_flight 3 (some .int)) { frames := 6, cells := 1, slots := 6, locals := 127 } [.ref a0, .int (nI k), .int 7] (wC a0 a1 a2 a3 a4 a5 a6 (XX X B t)) 0 B.2.2.2.2.2.2.2.1 (wC a0 a1 a2 a3 a4 a5 a6 (XX X B t)) := by
          have h9 := x_X2_flight_7 l hl D cI cJ a0 a1 a2 a3 a4 a5 a6 (nI k) (XX X B t)
          rw [(f7 B t)] at h9
          exact h9
        refine k_callX0 C T hM72 (cwV 2 C.2.2.2.2.1 (kGV q276 q277 q278 q35 q279) rfl rfl rfl ⟨rfl, hdX2_flight⟩ ⟨Nat.le_of_ble_eq_true rfl, Nat.le_of_ble_eq_true rfl⟩) [0, 1, 2, 3, 4, 5, 6] [7, 8, 9, 10, 11] [5, 6, 7, 8, 9, 10, 11, 0, 1, 2, 3, 4] [(z0, cZ (.ref z4) z1 Z.2.2), (z1, cQ cJ z2 z3), (z2, cA4 cI Z.1), (z3, cA4 cI Z.2.1), (z4, cL b)] [(a0, cF a1 a2 a3 a4 a5 a6 X.2.2.2.2.2.2), (a1, cS X.1), (a2, cS X.2.1), (a3, cB X.2.2.1), (a4, cB X.2.2.2.1), (a5, cB B), (a6, cB t), (z0, cZ (.ref z4) z1 Z.2.2), (z1, cQ cJ z2 z3), (z2, cA4 cI Z.1), (z3, cA4 cI Z.2.1), (z4, cL b)] rfl rfl rfl rfl (by decide) [a0, a1, a2, a3, a4, a5, a6] rfl rfl rfl rfl 0 2 rfl rfl rfl (Nat.le_of_ble_eq_true rfl) ⟨by show _ ≤ 600104; omega, by show _ ≤ 7301314; omega⟩ rfl dL_law_759 rfl ?_
        refine k_istore C [(16, .int B.2.2.2.2.2.2.2.1), (15, .int B.2.2.2.2.2.2.1), (22, .int B.2.1), (21, .int B.1), (20, .int 0), (19, .int (nI k)), (18, .int ro), (17, .int tu), (14, .int (fX2_end_1 X)), (13, .int (fX2_end_0 X)), (11, .long dg), (5, .int x), (0, .ref sc), (1, .ref a0), (2, .ref z0), (3, .int ia), (4, .int ti)] (by decide) rfl dL_law_762 ?_
        refine k_aload_n C dL_law_764 13 rfl ?_
        refine k_iload C dL_law_765 5 rfl ?_
        refine k_bipush C 8 (by decide) dL_law_767 ?_
        have hM73 : kCX l D cI cJ yX2_flight (.code yX2_flight cX2_flight 3 (some .int)) { frames := 6, cells := 1, slots := 6, locals := 127 } [.ref a0, .int (nI k), .int 8] (wC a0 a1 a2 a3 a4 a5 a6 (XX X B t)) 0 B.2.2.2.2.2.2.2.2.1 (wC a0 a1 a2 a3 a4 a5 a6 (XX X B t)) := by
          have h9 := x_X2_flight_8 l hl D cI cJ a0 a1 a2 a3 a4 a5 a6 (nI k) (XX X B t)
          rw [(f8 B t)] at h9
          exact h9
        refine k_callX0 C T hM73 (cwV 2 C.2.2.2.2.1 (kGV q276 q277 q278 q35 q279) rfl rfl rfl ⟨rfl, hdX2_flight⟩ ⟨Nat.le_of_ble_eq_true rfl, Nat.le_of_ble_eq_true rfl⟩) [0, 1, 2, 3, 4, 5, 6] [7, 8, 9, 10, 11] [5, 6, 7, 8, 9, 10, 11, 0, 1, 2, 3, 4] [(z0, cZ (.ref z4) z1 Z.2.2), (z1, cQ cJ z2 z3), (z2, cA4 cI Z.1), (z3, cA4 cI Z.2.1), (z4, cL b)] [(a0, cF a1 a2 a3 a4 a5 a6 X.2.2.2.2.2.2), (a1, cS X.1), (a2, cS X.2.1), (a3, cB X.2.2.1), (a4, cB X.2.2.2.1), (a5, cB B), (a6, cB t), (z0, cZ (.ref z4) z1 Z.2.2), (z1, cQ cJ z2 z3), (z2, cA4 cI Z.1), (z3, cA4 cI Z.2.1), (z4, cL b)] rfl rfl rfl rfl (by decide) [a0, a1, a2, a3, a4, a5, a6] rfl rfl rfl rfl 0 2 rfl rfl rfl (Nat.le_of_ble_eq_true rfl) ⟨by show _ ≤ 600104; omega, by show _ ≤ 7301314; omega⟩ rfl dL_law_769 rfl ?_
        refine k_istore C [(17, .int B.2.2.2.2.2.2.2.2.1), (16, .int B.2.2.2.2.2.2.2.1), (15, .int B.2.2.2.2.2.2.1), (22, .int B.2.1), (21, .int B.1), (20, .int 0), (19, .int (nI k)), (18, .int ro), (14, .int (fX2_end_1 X)), (13, .int (fX2_end_0 X)), (11, .long dg), (5, .int x), (0, .ref sc), (1, .ref a0), (2, .ref z0), (3, .int ia), (4, .int ti)] (by decide) rfl dL_law_772 ?_
        refine k_iload C dL_law_774 3 rfl ?_
        refine k_istore C [(18, .int B.2.1), (17, .int B.2.2.2.2.2.2.2.2.1), (16, .int B.2.2.2.2.2.2.2.1), (15, .int B.2.2.2.2.2.2.1), (22, .int B.2.1), (21, .int B.1), (20, .int 0), (19, .int (nI k)), (14, .int (fX2_end_1 X)), (13, .int (fX2_end_0 X)), (11, .long dg), (5, .int x), (0, .ref sc), (1, .ref a0), (2, .ref z0), (3, .int ia), (4, .int ti)] (by decide) rfl dL_law_776 ?_
        refine k_iload C dL_law_778 7 rfl ?_
        refine k_if_le C 826 (by decide) dL_law_780 (fun c74 => ?_) (fun c74 => ?_)
        ·
          refine k_widen (k' := K + 16) (n' := N + 96) (by omega) (by omega) ?_
          refine k_sub [7, 0, 1, 2, 3, 8, 9, 10, 11, 12, 13, 14, 15, 16] rfl ?_
          exact kk B t
        ·
          refine k_iload C dL_law_783 7 rfl ?_
          refine k_bipush C 7 (by decide) dL_law_785 ?_
          refine k_irem C (by decide) dL_law_787 ?_
          refine k_iconst C 3 (by decide) dL_law_788 ?_
          refine k_icmp_ne C 826 (by decide) dL_law_789 (fun c75 => ?_) (fun c75 => ?_)
          ·
            refine k_widen (k' := K + 16) (n' := N + 96) (by omega) (by omega) ?_
            refine k_sub [7, 0, 1, 2, 3, 8, 9, 10, 11, 12, 13, 14, 15, 16] rfl ?_
            exact kk B t
          ·
            refine k_aload_n C dL_law_792 13 rfl ?_
            refine k_iload C dL_law_793 7 rfl ?_
            refine k_iconst C 0 (by decide) dL_law_795 ?_
            refine k_bipush C (-2) (by decide) dL_law_796 ?_
            refine k_bipush C 9 (by decide) dL_law_798 ?_
            obtain ⟨an, tn, ew⟩ := hW c74 B t
            have hM76 : kCX l D cI cJ yX2_would (.code yX2_would cX2_would 5 (some .int)) { frames := 7, cells := 1, slots := 6, locals := 148 } [.ref a0, .int (nI k), .int 0, .int (-2), .int 9] (wC a0 a1 a2 a3 a4 a5 a6 (XX X B t)) 0 w (wC a0 a1 a2 a3 a4 a5 a6 (XX X an tn)) := by
              have h9 := x_X2_would l hl D cI cJ a0 a1 a2 a3 a4 a5 a6 (nI k) 0 (-2) 9 (XX X B t)
              rw [ew] at h9
              exact h9
            refine k_callX0 C T hM76 (cwV 4 C.2.2.2.2.1 (kGV q362 q363 q364 q35 q365) rfl rfl rfl ⟨rfl, hdX2_would⟩ ⟨Nat.le_of_ble_eq_true rfl, Nat.le_of_ble_eq_true rfl⟩) [0, 1, 2, 3, 4, 5, 6] [7, 8, 9, 10, 11] [5, 6, 7, 8, 9, 10, 11, 0, 1, 2, 3, 4] [(z0, cZ (.ref z4) z1 Z.2.2), (z1, cQ cJ z2 z3), (z2, cA4 cI Z.1), (z3, cA4 cI Z.2.1), (z4, cL b)] [(a0, cF a1 a2 a3 a4 a5 a6 X.2.2.2.2.2.2), (a1, cS X.1), (a2, cS X.2.1), (a3, cB X.2.2.1), (a4, cB X.2.2.2.1), (a5, cB an), (a6, cB tn), (z0, cZ (.ref z4) z1 Z.2.2), (z1, cQ cJ z2 z3), (z2, cA4 cI Z.1), (z3, cA4 cI Z.2.1), (z4, cL b)] rfl rfl rfl rfl (by decide) [a0, a1, a2, a3, a4, a5, a6] rfl rfl rfl rfl 0 2 rfl rfl rfl (Nat.le_of_ble_eq_true rfl) ⟨by show _ ≤ 600104; omega, by show _ ≤ 7301314; omega⟩ rfl dL_law_800 rfl ?_
            refine k_if_le C 810 (by decide) dL_law_803 (fun c77 => ?_) (fun c77 => ?_)
            ·
              refine k_iconst C 0 (by decide) dL_law_810 ?_
              refine k_iload C dL_law_811 3 rfl ?_
              refine k_if_le C 820 (by decide) dL_law_813 (fun _ => ?_) (fun h => absurd ((hWf c74).mp c77) h)
              refine k_iconst C 0 (by decide) dL_law_820 ?_
              refine k_icmp_eq C 826 (by decide) dL_law_821 (fun _ => ?_) (fun h => absurd (by decide) h)
              refine k_widen (k' := K + 16) (n' := N + 96) (by omega) (by omega) ?_
              refine k_sub [7, 0, 1, 2, 3, 8, 9, 10, 11, 12, 13, 14, 15, 16] rfl ?_
              exact kk an tn
            ·
              refine k_iconst C 1 (by decide) dL_law_806 ?_
              refine k_goto C 811 (by decide) dL_law_807 ?_
              refine k_iload C dL_law_811 3 rfl ?_
              refine k_if_le C 820 (by decide) dL_law_813 (fun h => absurd h (fun h9 => c77 ((hWf c74).mpr h9))) (fun _ => ?_)
              refine k_iconst C 1 (by decide) dL_law_816 ?_
              refine k_goto C 821 (by decide) dL_law_817 ?_
              refine k_icmp_eq C 826 (by decide) dL_law_821 (fun _ => ?_) (fun h => absurd (by decide) h)
              refine k_widen (k' := K + 16) (n' := N + 96) (by omega) (by omega) ?_
              refine k_sub [7, 0, 1, 2, 3, 8, 9, 10, 11, 12, 13, 14, 15, 16] rfl ?_
              exact kk an tn