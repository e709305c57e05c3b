/-! the law: one round -/
set_option maxHeartbeats 4000000 in
set_option maxRecDepth 100000 in
theorem law_step_n {p : Program} {l : Launch} {e : Env} {s : State} {m : MethodId} {args : Array Value} {below : List Frame} {meth : Method} {c : Code} {D : va_G} {cI cJ : ClassId} {A : Nat → Prop} {Q : State → Prop} {a0 a1 a2 a3 a4 a5 a6 z0 z1 z2 z3 sc : Nat} {X : Co} {Z : Zs} {K N : Nat} (C : kCx p s m args meth c RL cL_law 23 ret D cI cJ A) (hK : K + 7000 ≤ 600104) (hN : N + 70000 ≤ 7301314) (hl : l.stackTraces = false) (T : kTE A s s.heap) {L i : Nat} {xs : Nat → Int32} (hX : va_X sc L xs s s.heap) (hbl : sc < s.heap.size) (hbA : ¬ A sc) (hL : L < 2 ^ 31) (hi : i < 16) {ia : Int32} (h : Rel i X Z none) (kk : ∀ (ib : Int32) (X' : Co) (Z' : Zs) (β' : Option Lb) (U : va_W), wSim cI cJ z0 Z' β' U → Rel (i + 1) X' Z' β' → kW p l e room_1 s m args below meth c D A 23 (K + 1000) (N + 6000) Q (wC a0 a1 a2 a3 a4 a5 a6 X' ++ U) 21 [(0, .ref sc), (1, .ref a0), (2, .ref z0), (3, .int ib), (4, .int (nI (i + 1)))] []) : kW p l e room_1 s m args below meth c D A 23 K N Q (wC a0 a1 a2 a3 a4 a5 a6 X ++ wZ cI cJ z0 z1 z2 z3 .null Z) 21 [(0, .ref sc), (1, .ref a0), (2, .ref z0), (3, .int ia), (4, .int (nI i))] [] := by
  refine S0_n C (by omega) (by omega) hX hbl hbA hL hi (fun r nw => ?_)
  refine k_callGH C T (mL_act_n l hl D cI cJ a0 a1 a2 a3 a4 a5 a6 z0 z1 z2 z3 X Z _ (i := i) (by omega) h) (vx_cwSW 3 C.2.2.2.2.1 (kGS q560 q561 q34 q562) rfl rfl rfl hdL_act ⟨Nat.le_of_ble_eq_true rfl, Nat.le_of_ble_eq_true rfl⟩) [0, 1, 2, 3, 4, 5, 6, 7, 8, 9, 10] [] [] rfl rfl rfl rfl (by decide) (Nat.le_of_ble_eq_true rfl) ⟨by show _ ≤ 600104; omega, by show _ ≤ 7301314; omega⟩ rfl dL_law_96 (fun r2 W hW => ?_)
  obtain ⟨rfl, X', Z', β', U, rfl, hS, hR, ht⟩ := hW
  refine k_if_ne C 104 (by decide) dL_law_99 (fun _ => ?_) (fun h => absurd h (by decide))
  rcases hS with ⟨rfl, z1', z2', z3', rfl⟩ | ⟨b', rfl, z1', z2', z3', z4', rfl⟩
  · refine law_after_n C (by omega) (by omega) hl T hi h hR ht (fun ib X2 Z2 β2 U2 h1 h2 => ?_)
    exact k_widen (by omega) (by omega) (kk ib X2 Z2 β2 U2 h1 h2)
  · refine law_after_r C (by omega) (by omega) hl T hi h hR ht (fun ib X2 Z2 β2 U2 h1 h2 => ?_)
    exact k_widen (by omega) (by omega) (kk ib X2 Z2 β2 U2 h1 h2)
set_option maxHeartbeats 4000000 in
set_option maxRecDepth 100000 in
theorem law_step_r {p : Program} {l : Launch} {e : Env} {s : State} {m : MethodId} {args : Array Value} {below : List Frame} {meth : Method} {c : Code} {D : va_G} {cI cJ : ClassId} {A : Nat → Prop} {Q : State → Prop} {a0 a1 a2 a3 a4 a5 a6 z0 z1 z2 z3 z4 sc : Nat} {b : Lb} {X : Co} {Z : Zs} {K N : Nat} (C : kCx p s m args meth c RL cL_law 23 ret D cI cJ A) (hK : K + 7000 ≤ 600104) (hN : N + 70000 ≤ 7301314) (hl : l.stackTraces = false) (T : kTE A s s.heap) {L i : Nat} {xs : Nat → Int32} (hX : va_X sc L xs s s.heap) (hbl : sc < s.heap.size) (hbA : ¬ A sc) (hL : L < 2 ^ 31) (hi : i < 16) {ia : Int32} (h : Rel i X Z (some b)) (kk : ∀ (ib : Int32) (X' : Co) (Z' : Zs) (β' : Option Lb) (U : va_W), wSim cI cJ z0 Z' β' U → Rel (i + 1) X' Z' β' → kW p l e room_1 s m args below meth c D A 23 (K + 1000) (N + 6000) Q (wC a0 a1 a2 a3 a4 a5 a6 X' ++ U) 21 [(0, .ref sc), (1, .ref a0), (2, .ref z0), (3, .int ib), (4, .int (nI (i + 1)))] []) : kW p l e room_1 s m args below meth c D A 23 K N Q (wC a0 a1 a2 a3 a4 a5 a6 X ++ (wZ cI cJ z0 z1 z2 z3 (.ref z4) Z ++ [(z4, cL b)])) 21 [(0, .ref sc), (1, .ref a0), (2, .ref z0), (3, .int ia), (4, .int (nI i))] [] := by
  refine S0_r C (by omega) (by omega) hX hbl hbA hL hi (fun r nw => ?_)
  refine k_callGH C T (mL_act_r l hl D cI cJ a0 a1 a2 a3 a4 a5 a6 z0 z1 z2 z3 z4 X Z b _ (i := i) (by omega) h) (vx_cwSW 3 C.2.2.2.2.1 (kGS q560 q561 q34 q562) rfl rfl rfl hdL_act ⟨Nat.le_of_ble_eq_true rfl, Nat.le_of_ble_eq_true rfl⟩) [0, 1, 2, 3, 4, 5, 6, 7, 8, 9, 10, 11] [] [] rfl rfl rfl rfl (by decide) (Nat.le_of_ble_eq_true rfl) ⟨by show _ ≤ 600104; omega, by show _ ≤ 7301314; omega⟩ rfl dL_law_96 (fun r2 W hW => ?_)
  obtain ⟨rfl, X', Z', β', U, rfl, hS, hR, ht⟩ := hW
  refine k_if_ne C 104 (by decide) dL_law_99 (fun _ => ?_) (fun h => absurd h (by decide))
  rcases hS with ⟨rfl, z1', z2', z3', rfl⟩ | ⟨b', rfl, z1', z2', z3', z4', rfl⟩
  · refine law_after_n C (by omega) (by omega) hl T hi h hR ht (fun ib X2 Z2 β2 U2 h1 h2 => ?_)
    exact k_widen (by omega) (by omega) (kk ib X2 Z2 β2 U2 h1 h2)
  · refine law_after_r C (by omega) (by omega) hl T hi h hR ht (fun ib X2 Z2 β2 U2 h1 h2 => ?_)
    exact k_widen (by omega) (by omega) (kk ib X2 Z2 β2 U2 h1 h2)