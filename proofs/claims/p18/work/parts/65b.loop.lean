/-! the law: its loop and its end -/
theorem law_out {p : Program} {e : Env} {s : State} {m : MethodId} {below : List Frame} {meth : Method} {c : Code} {D : va_G} {cI cJ : ClassId} (l : Launch) (hl : l.stackTraces = false) {b L : Nat} {xs : Nat → Int32} (hX : va_X b L xs s s.heap) (hbl : b < s.heap.size) (C : kCx p s m #[Value.ref b] meth c RL cL_law 23 ret D cI cJ (fun q => s.heap.size ≤ q)) (T : kTE (fun q => s.heap.size ≤ q) s s.heap) {K N : Nat} (hK : K ≤ 600104) (hN : N ≤ 7301314) {w : va_W} {lv : List (Nat × Value)} : kW p l e room_1 s m #[Value.ref b] below meth c D (fun q => s.heap.size ≤ q) 23 K N (lw_Z below #[Value.ref b] s) w 1028 lv [.int 1] := by
  intro H locs ls hP hD hS hl0
  refine va_forget (s := s) (fun q hq => hS.2.2 q hq) ?_
  refine W.widen (k := 600104) (n := 7301314) (by omega) (by omega) ?_
  exact lw_ret (d0 := s.drawn) (Drawn.sameBut.refl s.drawn lw_cs) C.1 C.2.1 C.2.2.2.2.2.2.2.2.1 C.2.2.2.2.2.2.2.2.2 dL_law_1028
set_option maxHeartbeats 4000000 in
set_option maxRecDepth 100000 in
theorem law_last_n {p : Program} {e : Env} {s : State} {m : MethodId} {below : List Frame} {meth : Method} {c : Code} {D : va_G} {cI cJ : ClassId} (l : Launch) (hl : l.stackTraces = false) {b L : Nat} {xs : Nat → Int32} (hX : va_X b L xs s s.heap) (hbl : b < s.heap.size) (C : kCx p s m #[Value.ref b] meth c RL cL_law 23 ret D cI cJ (fun q => s.heap.size ≤ q)) (T : kTE (fun q => s.heap.size ≤ q) s s.heap) {a0 a1 a2 a3 a4 a5 a6 z0 z1 z2 z3 : Nat} {ia : Int32} {X : Co} {Z : Zs} (h : Rel 16 X Z none) : kW p l e room_1 s m #[Value.ref b] below meth c D (fun q => s.heap.size ≤ q) 23 (20 + 1000 * 16) (120 + 6000 * 16) (lw_Z below #[Value.ref b] s) (wC a0 a1 a2 a3 a4 a5 a6 X ++ wZ cI cJ z0 z1 z2 z3 .null Z) 21 [(0, .ref b), (1, .ref a0), (2, .ref z0), (3, .int ia), (4, .int (nI 16))] [] := by
  have hb : _ := ft_same_n h
  have ht := ft_told h
  have hm := ft_mean (by omega) h
  refine k_iload C dL_law_21 4 rfl ?_
  refine k_bipush C 16 (by decide) dL_law_23 ?_
  refine k_icmp_ge C 1023 (by decide) dL_law_25 (fun _ => ?_) (fun h => absurd (by decide) h)
  refine k_aload_n C dL_law_1023 2 rfl ?_
  refine k_aload_n C dL_law_1024 1 rfl ?_
  refine k_callGV_i C (mX4_isSame_n l D cI cJ a0 a1 a2 a3 a4 a5 a6 z0 z1 z2 z3 X Z hb.1.1 hb.1.2.1 hb.1.2.2.1 hb.1.2.2.2.1 hb.1.2.2.2.2.1 hb.1.2.2.2.2.2.1 hb.1.2.2.2.2.2.2.1 hb.1.2.2.2.2.2.2.2.1 hb.1.2.2.2.2.2.2.2.2 ht.1 ht.2.1 ht.2.2.1 ht.2.2.2.1 ht.2.2.2.2.1 ht.2.2.2.2.2.1 ht.2.2.2.2.2.2.1 ht.2.2.2.2.2.2.2 hb.2.1 hb.2.2.1 hb.2.2.2.1 hb.2.2.2.2.1 hb.2.2.2.2.2.1 hb.2.2.2.2.2.2 hm.1 hm.2.1 hm.2.2) (cwV 1 C.2.2.2.2.1 (kGV q466 q467 q468 q38 q469) rfl rfl rfl ⟨rfl, hdX4_isSame⟩ ⟨Nat.le_of_ble_eq_true rfl, Nat.le_of_ble_eq_true rfl⟩) [0, 1, 2, 3, 4, 5, 6, 7, 8, 9, 10] [] [] rfl rfl rfl rfl (by decide) 7 4 rfl rfl rfl (Nat.le_of_ble_eq_true rfl) ⟨Nat.le_of_ble_eq_true rfl, Nat.le_of_ble_eq_true rfl⟩ rfl dL_law_1025 (fun r U hU => ?_)
  obtain ⟨rfl, rfl⟩ := hU
  exact law_out l hl hX hbl C T (by omega) (by omega)
set_option maxHeartbeats 4000000 in
set_option maxRecDepth 100000 in
theorem law_last_r {p : Program} {e : Env} {s : State} {m : MethodId} {below : List Frame} {meth : Method} {c : Code} {D : va_G} {cI cJ : ClassId} (l : Launch) (hl : l.stackTraces = false) {b L : Nat} {xs : Nat → Int32} (hX : va_X b L xs s s.heap) (hbl : b < s.heap.size) (C : kCx p s m #[Value.ref b] meth c RL cL_law 23 ret D cI cJ (fun q => s.heap.size ≤ q)) (T : kTE (fun q => s.heap.size ≤ q) s s.heap) {a0 a1 a2 a3 a4 a5 a6 z0 z1 z2 z3 z4 : Nat} {ia : Int32} {X : Co} {Z : Zs} {b4 : Lb} (h : Rel 16 X Z (some b4)) : kW p l e room_1 s m #[Value.ref b] below meth c D (fun q => s.heap.size ≤ q) 23 (20 + 1000 * 16) (120 + 6000 * 16) (lw_Z below #[Value.ref b] s) (wC a0 a1 a2 a3 a4 a5 a6 X ++ (wZ cI cJ z0 z1 z2 z3 (.ref z4) Z ++ [(z4, cL b4)])) 21 [(0, .ref b), (1, .ref a0), (2, .ref z0), (3, .int ia), (4, .int (nI 16))] [] := by
  have hb : _ := ft_same_r (by omega) h
  have ht := ft_told h
  have hm := ft_mean (by omega) h
  refine k_iload C dL_law_21 4 rfl ?_
  refine k_bipush C 16 (by decide) dL_law_23 ?_
  refine k_icmp_ge C 1023 (by decide) dL_law_25 (fun _ => ?_) (fun h => absurd (by decide) h)
  refine k_aload_n C dL_law_1023 2 rfl ?_
  refine k_aload_n C dL_law_1024 1 rfl ?_
  refine k_callGV_i C (mX4_isSame_r l D cI cJ a0 a1 a2 a3 a4 a5 a6 z0 z1 z2 z3 z4 X Z b4 hb.1.1 hb.1.2.1 hb.1.2.2.1 hb.1.2.2.2.1 hb.1.2.2.2.2.1 hb.1.2.2.2.2.2.1 hb.1.2.2.2.2.2.2.1 hb.1.2.2.2.2.2.2.2.1 hb.1.2.2.2.2.2.2.2.2 ht.1 ht.2.1 ht.2.2.1 ht.2.2.2.1 ht.2.2.2.2.1 ht.2.2.2.2.2.1 ht.2.2.2.2.2.2.1 ht.2.2.2.2.2.2.2 hb.2.1 hb.2.2.1 hb.2.2.2.1 hb.2.2.2.2.1 hb.2.2.2.2.2.1 hb.2.2.2.2.2.2 hm.1 hm.2.1 hm.2.2) (cwV 1 C.2.2.2.2.1 (kGV q466 q467 q468 q38 q469) rfl rfl rfl ⟨rfl, hdX4_isSame⟩ ⟨Nat.le_of_ble_eq_true rfl, Nat.le_of_ble_eq_true rfl⟩) [0, 1, 2, 3, 4, 5, 6, 7, 8, 9, 10, 11] [] [] rfl rfl rfl rfl (by decide) 7 4 rfl rfl rfl (Nat.le_of_ble_eq_true rfl) ⟨Nat.le_of_ble_eq_true rfl, Nat.le_of_ble_eq_true rfl⟩ rfl dL_law_1025 (fun r U hU => ?_)
  obtain ⟨rfl, rfl⟩ := hU
  exact law_out l hl hX hbl C T (by omega) (by omega)
set_option maxHeartbeats 4000000 in
set_option maxRecDepth 100000 in
theorem law_loop {p : Program} {e : Env} {s : State} {m : MethodId} {below : List Frame} {meth : Method} {c : Code} {D : va_G} {cI cJ : ClassId} (l : Launch) (hl : l.stackTraces = false) {b L : Nat} {xs : Nat → Int32} (hX : va_X b L xs s s.heap) (hbl : b < s.heap.size) (C : kCx p s m #[Value.ref b] meth c RL cL_law 23 ret D cI cJ (fun q => s.heap.size ≤ q)) (T : kTE (fun q => s.heap.size ≤ q) s s.heap) (hL : L ≤ 260) (a0 a1 a2 a3 a4 a5 a6 z0 : Nat) : ∀ (n i0 : Nat) (ia : Int32) (X : Co) (Z : Zs) (β : Option Lb) (U : va_W), i0 + n = 16 → wSim cI cJ z0 Z β U → Rel i0 X Z β → kW p l e room_1 s m #[Value.ref b] below meth c D (fun q => s.heap.size ≤ q) 23 (20 + 1000 * i0) (120 + 6000 * i0) (lw_Z below #[Value.ref b] s) (wC a0 a1 a2 a3 a4 a5 a6 X ++ U) 21 [(0, .ref b), (1, .ref a0), (2, .ref z0), (3, .int ia), (4, .int (nI i0))] [] := by
  have hbA : ¬ (fun q : Nat => s.heap.size ≤ q) b := Nat.not_le.mpr hbl
  intro n
  induction n with
  | zero =>
    intro i0 ia X Z β U hn hS hR
    obtain rfl : i0 = 16 := by omega
    rcases hS with ⟨rfl, z1, z2, z3, rfl⟩ | ⟨b4, rfl, z1, z2, z3, z4, rfl⟩
    · exact law_last_n l hl hX hbl C T hR
    · exact law_last_r l hl hX hbl C T hR
  | succ n ih =>
    intro i0 ia X Z β U hn hS hR
    rcases hS with ⟨rfl, z1, z2, z3, rfl⟩ | ⟨b4, rfl, z1, z2, z3, z4, rfl⟩
    · refine law_step_n C (by omega) (by omega) hl T hX hbl hbA (by omega) (by omega) hR (fun ib X2 Z2 β2 U2 h1 h2 => ?_)
      exact k_widen (by omega) (by omega) (ih (i0 + 1) ib X2 Z2 β2 U2 (by omega) h1 h2)
    · refine law_step_r C (by omega) (by omega) hl T hX hbl hbA (by omega) (by omega) hR (fun ib X2 Z2 β2 U2 h1 h2 => ?_)
      exact k_widen (by omega) (by omega) (ih (i0 + 1) ib X2 Z2 β2 U2 (by omega) h1 h2)