/-! the law: the end, the advice, the digest -/
set_option maxHeartbeats 4000000 in
set_option maxRecDepth 100000 in
theorem S7 {p : Program} {l : Launch} {e : Env} {s : State} {m : MethodId} {args : Array Value} {below : List Frame} {meth : Method} {c : Code} {D : va_G} {cI cJ : ClassId} {A : Nat → Prop} {Q : State → Prop} {a0 a1 a2 a3 a4 a5 a6 z0 z1 z2 z3 z4 sc : Nat} {b : Lb} {X : Co} {Z : Zs} {K N : Nat} (C : kCx p s m args meth c RL cL_law 23 ret D cI cJ A) (hK : K + 3000 ≤ 600104) (hN : N + 30000 ≤ 7301314)  {x ia ti ro tu bo fr : Int32} {dg : Int64} {k : Nat} (a t : Ba) (hE3 : (fX2_end_0 X) = 3 → ¬ fX2_end_2 X = 0 ∧ ¬ fX2_end_3 X = 0) (hE2 : (fX2_end_0 X) = 2 → fX2_end_3 X = 0)  (h491 : (60 < (nI k))) (h839 : ¬ ((fX2_end_2 (X.1, X.2.1, X.2.2.1, X.2.2.2.1, a, t, X.2.2.2.2.2.2)) < fr)) (h849 : ¬ ((fX2_end_3 (X.1, X.2.1, X.2.2.1, X.2.2.2.1, a, t, X.2.2.2.2.2.2)) < bo)) (h859 : ¬ ((fX2_end_4 (X.1, X.2.1, X.2.2.1, X.2.2.2.1, a, t, X.2.2.2.2.2.2)) < tu)) (kk : kW p l e room_1 s m args below meth c D A 23 (K + 0) (N + 0) Q [(a0, cF a1 a2 a3 a4 a5 a6 X.2.2.2.2.2.2), (a1, cS X.1), (a2, cS X.2.1), (a3, cB X.2.2.1), (a4, cB X.2.2.2.1), (a5, cB a), (a6, cB t), (z0, cZ (.ref z4) z1 Z.2.2), (z1, cQ cJ z2 z3), (z2, cA4 cI Z.1), (z3, cA4 cI Z.2.1), (z4, cL b)] 900 [(11, .long dg), (5, .int x), (0, .ref sc), (1, .ref a0), (2, .ref z0), (3, .int ia), (4, .int ti)] []) : kW p l e room_1 s m args below meth c D A 23 K N Q [(a0, cF a1 a2 a3 a4 a5 a6 X.2.2.2.2.2.2), (a1, cS X.1), (a2, cS X.2.1), (a3, cB X.2.2.1), (a4, cB X.2.2.2.1), (a5, cB a), (a6, cB t), (z0, cZ (.ref z4) z1 Z.2.2), (z1, cQ cJ z2 z3), (z2, cA4 cI Z.1), (z3, cA4 cI Z.2.1), (z4, cL b)] 487 [(19, .int (nI k)), (18, .int ro), (17, .int tu), (16, .int bo), (15, .int fr), (14, .int (fX2_end_1 X)), (13, .int (fX2_end_0 X)), (11, .long dg), (5, .int x), (0, .ref sc), (1, .ref a0), (2, .ref z0), (3, .int ia), (4, .int ti)] [] := by
  refine k_iload C dL_law_487 0 rfl ?_
  refine k_bipush C 60 (by decide) dL_law_489 ?_
  refine k_icmp_gt C 832 (by decide) dL_law_491 (fun _ => ?_) (fun h => absurd h491 h)
  refine k_aload_n C dL_law_832 10 rfl ?_
  refine k_iconst C 2 (by decide) dL_law_833 ?_
  refine k_callV_i C (mX2_end_2 l D cI cJ a0 a1 a2 a3 a4 a5 a6 (X.1, X.2.1, X.2.2.1, X.2.2.2.1, a, t, X.2.2.2.2.2.2)) (cwV 1 C.2.2.2.2.1 (kGV q353 q354 q355 q35 q356) rfl rfl rfl ⟨rfl, hdX2_end⟩ ⟨Nat.le_of_ble_eq_true rfl, Nat.le_of_ble_eq_true rfl⟩) [0, 1, 2, 3, 4, 5, 6] [7, 8, 9, 10, 11] [5, 6, 7, 8, 9, 10, 11, 0, 1, 2, 3, 4] [(z0, cZ (.ref z4) z1 Z.2.2), (z1, cQ cJ z2 z3), (z2, cA4 cI Z.1), (z3, cA4 cI Z.2.1), (z4, cL b)] ([(a0, cF a1 a2 a3 a4 a5 a6 X.2.2.2.2.2.2), (a1, cS X.1), (a2, cS X.2.1), (a3, cB X.2.2.1), (a4, cB X.2.2.2.1), (a5, cB a), (a6, cB t), (z0, cZ (.ref z4) z1 Z.2.2), (z1, cQ cJ z2 z3), (z2, cA4 cI Z.1), (z3, cA4 cI Z.2.1), (z4, cL b)]) rfl rfl rfl rfl (by decide) [a0, a1, a2, a3, a4, a5, a6] rfl rfl rfl rfl 0 2 rfl rfl rfl (Nat.le_of_ble_eq_true rfl) ⟨by show _ ≤ 600104; omega, by show _ ≤ 7301314; omega⟩ rfl dL_law_834 ?_
  refine k_iload C dL_law_837 4 rfl ?_
  refine k_icmp_lt C 898 (by decide) dL_law_839 (fun h => absurd h h839) (fun _ => ?_)
  refine k_aload_n C dL_law_842 10 rfl ?_
  refine k_iconst C 3 (by decide) dL_law_843 ?_
  refine k_callV_i C (mX2_end_3 l D cI cJ a0 a1 a2 a3 a4 a5 a6 (X.1, X.2.1, X.2.2.1, X.2.2.2.1, a, t, X.2.2.2.2.2.2)) (cwV 1 C.2.2.2.2.1 (kGV q353 q354 q355 q35 q356) rfl rfl rfl ⟨rfl, hdX2_end⟩ ⟨Nat.le_of_ble_eq_true rfl, Nat.le_of_ble_eq_true rfl⟩) [0, 1, 2, 3, 4, 5, 6] [7, 8, 9, 10, 11] [5, 6, 7, 8, 9, 10, 11, 0, 1, 2, 3, 4] [(z0, cZ (.ref z4) z1 Z.2.2), (z1, cQ cJ z2 z3), (z2, cA4 cI Z.1), (z3, cA4 cI Z.2.1), (z4, cL b)] ([(a0, cF a1 a2 a3 a4 a5 a6 X.2.2.2.2.2.2), (a1, cS X.1), (a2, cS X.2.1), (a3, cB X.2.2.1), (a4, cB X.2.2.2.1), (a5, cB a), (a6, cB t), (z0, cZ (.ref z4) z1 Z.2.2), (z1, cQ cJ z2 z3), (z2, cA4 cI Z.1), (z3, cA4 cI Z.2.1), (z4, cL b)]) rfl rfl rfl rfl (by decide) [a0, a1, a2, a3, a4, a5, a6] rfl rfl rfl rfl 0 2 rfl rfl rfl (Nat.le_of_ble_eq_true rfl) ⟨by show _ ≤ 600104; omega, by show _ ≤ 7301314; omega⟩ rfl dL_law_844 ?_
  refine k_iload C dL_law_847 3 rfl ?_
  refine k_icmp_lt C 898 (by decide) dL_law_849 (fun h => absurd h h849) (fun _ => ?_)
  refine k_aload_n C dL_law_852 10 rfl ?_
  refine k_iconst C 4 (by decide) dL_law_853 ?_
  refine k_callV_i C (mX2_end_4 l D cI cJ a0 a1 a2 a3 a4 a5 a6 (X.1, X.2.1, X.2.2.1, X.2.2.2.1, a, t, X.2.2.2.2.2.2)) (cwV 1 C.2.2.2.2.1 (kGV q353 q354 q355 q35 q356) rfl rfl rfl ⟨rfl, hdX2_end⟩ ⟨Nat.le_of_ble_eq_true rfl, Nat.le_of_ble_eq_true rfl⟩) [0, 1, 2, 3, 4, 5, 6] [7, 8, 9, 10, 11] [5, 6, 7, 8, 9, 10, 11, 0, 1, 2, 3, 4] [(z0, cZ (.ref z4) z1 Z.2.2), (z1, cQ cJ z2 z3), (z2, cA4 cI Z.1), (z3, cA4 cI Z.2.1), (z4, cL b)] ([(a0, cF a1 a2 a3 a4 a5 a6 X.2.2.2.2.2.2), (a1, cS X.1), (a2, cS X.2.1), (a3, cB X.2.2.1), (a4, cB X.2.2.2.1), (a5, cB a), (a6, cB t), (z0, cZ (.ref z4) z1 Z.2.2), (z1, cQ cJ z2 z3), (z2, cA4 cI Z.1), (z3, cA4 cI Z.2.1), (z4, cL b)]) rfl rfl rfl rfl (by decide) [a0, a1, a2, a3, a4, a5, a6] rfl rfl rfl rfl 0 2 rfl rfl rfl (Nat.le_of_ble_eq_true rfl) ⟨by show _ ≤ 600104; omega, by show _ ≤ 7301314; omega⟩ rfl dL_law_854 ?_
  refine k_iload C dL_law_857 2 rfl ?_
  refine k_icmp_lt C 898 (by decide) dL_law_859 (fun h => absurd h h859) (fun _ => ?_)
  refine k_iload C dL_law_862 6 rfl ?_
  refine k_iconst C 3 (by decide) dL_law_864 ?_
  refine k_icmp_ne C 884 (by decide) dL_law_865 (fun c1 => ?_) (fun c1 => ?_)
  ·
    refine k_iload C dL_law_884 6 rfl ?_
    refine k_iconst C 2 (by decide) dL_law_886 ?_
    refine k_icmp_ne C 900 (by decide) dL_law_887 (fun c2 => ?_) (fun c2 => ?_)
    ·
      refine k_widen (k' := K + 0) (n' := N + 0) (by omega) (by omega) ?_
      refine k_sub [7, 8, 9, 10, 11, 12, 13] rfl ?_
      exact kk
    ·
      refine k_aload_n C dL_law_890 10 rfl ?_
      refine k_iconst C 3 (by decide) dL_law_891 ?_
      refine k_callV_i C (mX2_end_3 l D cI cJ a0 a1 a2 a3 a4 a5 a6 (X.1, X.2.1, X.2.2.1, X.2.2.2.1, a, t, X.2.2.2.2.2.2)) (cwV 1 C.2.2.2.2.1 (kGV q353 q354 q355 q35 q356) rfl rfl rfl ⟨rfl, hdX2_end⟩ ⟨Nat.le_of_ble_eq_true rfl, Nat.le_of_ble_eq_true rfl⟩) [0, 1, 2, 3, 4, 5, 6] [7, 8, 9, 10, 11] [5, 6, 7, 8, 9, 10, 11, 0, 1, 2, 3, 4] [(z0, cZ (.ref z4) z1 Z.2.2), (z1, cQ cJ z2 z3), (z2, cA4 cI Z.1), (z3, cA4 cI Z.2.1), (z4, cL b)] ([(a0, cF a1 a2 a3 a4 a5 a6 X.2.2.2.2.2.2), (a1, cS X.1), (a2, cS X.2.1), (a3, cB X.2.2.1), (a4, cB X.2.2.2.1), (a5, cB a), (a6, cB t), (z0, cZ (.ref z4) z1 Z.2.2), (z1, cQ cJ z2 z3), (z2, cA4 cI Z.1), (z3, cA4 cI Z.2.1), (z4, cL b)]) rfl rfl rfl rfl (by decide) [a0, a1, a2, a3, a4, a5, a6] rfl rfl rfl rfl 0 2 rfl rfl rfl (Nat.le_of_ble_eq_true rfl) ⟨by show _ ≤ 600104; omega, by show _ ≤ 7301314; omega⟩ rfl dL_law_892 ?_
      refine k_if_eq C 900 (by decide) dL_law_895 (fun _ => ?_) (fun h => absurd (hE2 c2) h)
      refine k_widen (k' := K + 0) (n' := N + 0) (by omega) (by omega) ?_
      refine k_sub [7, 8, 9, 10, 11, 12, 13] rfl ?_
      exact kk
  ·
    refine k_aload_n C dL_law_868 10 rfl ?_
    refine k_iconst C 2 (by decide) dL_law_869 ?_
    refine k_callV_i C (mX2_end_2 l D cI cJ a0 a1 a2 a3 a4 a5 a6 (X.1, X.2.1, X.2.2.1, X.2.2.2.1, a, t, X.2.2.2.2.2.2)) (cwV 1 C.2.2.2.2.1 (kGV q353 q354 q355 q35 q356) rfl rfl rfl ⟨rfl, hdX2_end⟩ ⟨Nat.le_of_ble_eq_true rfl, Nat.le_of_ble_eq_true rfl⟩) [0, 1, 2, 3, 4, 5, 6] [7, 8, 9, 10, 11] [5, 6, 7, 8, 9, 10, 11, 0, 1, 2, 3, 4] [(z0, cZ (.ref z4) z1 Z.2.2), (z1, cQ cJ z2 z3), (z2, cA4 cI Z.1), (z3, cA4 cI Z.2.1), (z4, cL b)] ([(a0, cF a1 a2 a3 a4 a5 a6 X.2.2.2.2.2.2), (a1, cS X.1), (a2, cS X.2.1), (a3, cB X.2.2.1), (a4, cB X.2.2.2.1), (a5, cB a), (a6, cB t), (z0, cZ (.ref z4) z1 Z.2.2), (z1, cQ cJ z2 z3), (z2, cA4 cI Z.1), (z3, cA4 cI Z.2.1), (z4, cL b)]) rfl rfl rfl rfl (by decide) [a0, a1, a2, a3, a4, a5, a6] rfl rfl rfl rfl 0 2 rfl rfl rfl (Nat.le_of_ble_eq_true rfl) ⟨by show _ ≤ 600104; omega, by show _ ≤ 7301314; omega⟩ rfl dL_law_870 ?_
    refine k_if_eq C 898 (by decide) dL_law_873 (fun h => absurd h (hE3 c1).1) (fun _ => ?_)
    refine k_aload_n C dL_law_876 10 rfl ?_
    refine k_iconst C 3 (by decide) dL_law_877 ?_
    refine k_callV_i C (mX2_end_3 l D cI cJ a0 a1 a2 a3 a4 a5 a6 (X.1, X.2.1, X.2.2.1, X.2.2.2.1, a, t, X.2.2.2.2.2.2)) (cwV 1 C.2.2.2.2.1 (kGV q353 q354 q355 q35 q356) rfl rfl rfl ⟨rfl, hdX2_end⟩ ⟨Nat.le_of_ble_eq_true rfl, Nat.le_of_ble_eq_true rfl⟩) [0, 1, 2, 3, 4, 5, 6] [7, 8, 9, 10, 11] [5, 6, 7, 8, 9, 10, 11, 0, 1, 2, 3, 4] [(z0, cZ (.ref z4) z1 Z.2.2), (z1, cQ cJ z2 z3), (z2, cA4 cI Z.1), (z3, cA4 cI Z.2.1), (z4, cL b)] ([(a0, cF a1 a2 a3 a4 a5 a6 X.2.2.2.2.2.2), (a1, cS X.1), (a2, cS X.2.1), (a3, cB X.2.2.1), (a4, cB X.2.2.2.1), (a5, cB a), (a6, cB t), (z0, cZ (.ref z4) z1 Z.2.2), (z1, cQ cJ z2 z3), (z2, cA4 cI Z.1), (z3, cA4 cI Z.2.1), (z4, cL b)]) rfl rfl rfl rfl (by decide) [a0, a1, a2, a3, a4, a5, a6] rfl rfl rfl rfl 0 2 rfl rfl rfl (Nat.le_of_ble_eq_true rfl) ⟨by show _ ≤ 600104; omega, by show _ ≤ 7301314; omega⟩ rfl dL_law_878 ?_
    refine k_if_eq C 898 (by decide) dL_law_881 (fun h => absurd h (hE3 c1).2) (fun _ => ?_)
    refine k_iload C dL_law_884 6 rfl ?_
    refine k_iconst C 2 (by decide) dL_law_886 ?_
    refine k_icmp_ne C 900 (by decide) dL_law_887 (fun c3 => ?_) (fun c3 => ?_)
    ·
      refine k_widen (k' := K + 0) (n' := N + 0) (by omega) (by omega) ?_
      refine k_sub [7, 8, 9, 10, 11, 12, 13] rfl ?_
      exact kk
    ·
      refine k_aload_n C dL_law_890 10 rfl ?_
      refine k_iconst C 3 (by decide) dL_law_891 ?_
      refine k_callV_i C (mX2_end_3 l D cI cJ a0 a1 a2 a3 a4 a5 a6 (X.1, X.2.1, X.2.2.1, X.2.2.2.1, a, t, X.2.2.2.2.2.2)) (cwV 1 C.2.2.2.2.1 (kGV q353 q354 q355 q35 q356) rfl rfl rfl ⟨rfl, hdX2_end⟩ ⟨Nat.le_of_ble_eq_true rfl, Nat.le_of_ble_eq_true rfl⟩) [0, 1, 2, 3, 4, 5, 6] [7, 8, 9, 10, 11] [5, 6, 7, 8, 9, 10, 11, 0, 1, 2, 3, 4] [(z0, cZ (.ref z4) z1 Z.2.2), (z1, cQ cJ z2 z3), (z2, cA4 cI Z.1), (z3, cA4 cI Z.2.1), (z4, cL b)] ([(a0, cF a1 a2 a3 a4 a5 a6 X.2.2.2.2.2.2), (a1, cS X.1), (a2, cS X.2.1), (a3, cB X.2.2.1), (a4, cB X.2.2.2.1), (a5, cB a), (a6, cB t), (z0, cZ (.ref z4) z1 Z.2.2), (z1, cQ cJ z2 z3), (z2, cA4 cI Z.1), (z3, cA4 cI Z.2.1), (z4, cL b)]) rfl rfl rfl rfl (by decide) [a0, a1, a2, a3, a4, a5, a6] rfl rfl rfl rfl 0 2 rfl rfl rfl (Nat.le_of_ble_eq_true rfl) ⟨by show _ ≤ 600104; omega, by show _ ≤ 7301314; omega⟩ rfl dL_law_892 ?_
      refine k_if_eq C 900 (by decide) dL_law_895 (fun _ => ?_) (fun h => absurd (hE2 c3) h)
      refine k_widen (k' := K + 0) (n' := N + 0) (by omega) (by omega) ?_
      refine k_sub [7, 8, 9, 10, 11, 12, 13] rfl ?_
      exact kk
/-- what is said of advice at some moment, and of the stroke that is advised -/
def AdW (r : Int32) (X : Co) : Prop := ∀ a t : Ba, ∃ (v : Int32) (a9 t9 : Ba), xX2_advise r (XX X a t) = (0, v, XX X a9 t9) ∧ v < 250 ∧
  ((¬ v < 0 ∧ ∀ a t : Ba, ∃ a9 t9 : Ba, xX2_would r ((v / 50) - 2) (((v / 10) - (v / 10) / 5 * 5) - 2) (v - v / 10 * 10) (XX X a t) = (0, 3, XX X a9 t9)) ∨
   (v < 0 ∧ ∃ w : Int32, ¬ w = 3 ∧ ∀ a t : Ba, ∃ a9 t9 : Ba, xX2_would r 0 (-2) 9 (XX X a t) = (0, w, XX X a9 t9)))
theorem nn_of {v : Int32} (h : ¬ v < 0) : 0 ≤ v := by rw [kltI, n0] at h; rw [kleI, n0]; omega
theorem nlt_of {v : Int32} (h : v < 0) : ¬ 0 ≤ v := by rw [kltI, n0] at h; rw [kleI, n0]; omega
set_option maxHeartbeats 4000000 in
set_option maxRecDepth 100000 in
theorem S8_n {p : Program} {l : Launch} {e : Env} {s : State} {m : MethodId} {args : Array Value} {below : List Frame} {meth : Method} {c : Code} {D : va_G} {cI cJ : ClassId} {A : Nat → Prop} {Q : State → Prop} {a0 a1 a2 a3 a4 a5 a6 z0 z1 z2 z3 sc : Nat} {X : Co} {Z : Zs} {K N : Nat} (C : kCx p s m args meth c RL cL_law 23 ret D cI cJ A) (hK : K + 3000 ≤ 600104) (hN : N + 30000 ≤ 7301314) (hl : l.stackTraces = false) (T : kTE A s s.heap) {x ia ti : Int32} {dg : Int64} (a t : Ba) (hA : AdW 0 X)  (h905 : ¬ (0 ≤ (fX2_count_1 (X.1, X.2.1, X.2.2.1, X.2.2.2.1, a, t, X.2.2.2.2.2.2)))) (kk : ∀ a9 t9 : Ba, kW p l e room_1 s m args below meth c D A 23 (K + 2) (N + 12) Q [(a0, cF a1 a2 a3 a4 a5 a6 X.2.2.2.2.2.2), (a1, cS X.1), (a2, cS X.2.1), (a3, cB X.2.2.1), (a4, cB X.2.2.2.1), (a5, cB a9), (a6, cB t9), (z0, cZ .null z1 Z.2.2), (z1, cQ cJ z2 z3), (z2, cA4 cI Z.1), (z3, cA4 cI Z.2.1)] 1005 [(11, .long dg), (5, .int x), (0, .ref sc), (1, .ref a0), (2, .ref z0), (3, .int ia), (4, .int ti)] []) : kW p l e room_1 s m args below meth c D A 23 K N Q [(a0, cF a1 a2 a3 a4 a5 a6 X.2.2.2.2.2.2), (a1, cS X.1), (a2, cS X.2.1), (a3, cB X.2.2.1), (a4, cB X.2.2.2.1), (a5, cB a), (a6, cB t), (z0, cZ .null z1 Z.2.2), (z1, cQ cJ z2 z3), (z2, cA4 cI Z.1), (z3, cA4 cI Z.2.1)] 900 [(11, .long dg), (5, .int x), (0, .ref sc), (1, .ref a0), (2, .ref z0), (3, .int ia), (4, .int ti)] [] := by
  refine k_aload_n C dL_law_900 3 rfl ?_
  refine k_iconst C 1 (by decide) dL_law_901 ?_
  refine k_callV_i C (mX2_count_1 l D cI cJ a0 a1 a2 a3 a4 a5 a6 (X.1, X.2.1, X.2.2.1, X.2.2.2.1, a, t, X.2.2.2.2.2.2)) (cwV 1 C.2.2.2.2.1 (kGV q260 q261 q262 q35 q263) rfl rfl rfl ⟨rfl, hdX2_count⟩ ⟨Nat.le_of_ble_eq_true rfl, Nat.le_of_ble_eq_true rfl⟩) [0, 1, 2, 3, 4, 5, 6] [7, 8, 9, 10] [4, 5, 6, 7, 8, 9, 10, 0, 1, 2, 3] [(z0, cZ .null z1 Z.2.2), (z1, cQ cJ z2 z3), (z2, cA4 cI Z.1), (z3, cA4 cI Z.2.1)] ([(a0, cF a1 a2 a3 a4 a5 a6 X.2.2.2.2.2.2), (a1, cS X.1), (a2, cS X.2.1), (a3, cB X.2.2.1), (a4, cB X.2.2.2.1), (a5, cB a), (a6, cB t), (z0, cZ .null z1 Z.2.2), (z1, cQ cJ z2 z3), (z2, cA4 cI Z.1), (z3, cA4 cI Z.2.1)]) rfl rfl rfl rfl (by decide) [a0, a1, a2, a3, a4, a5, a6] rfl rfl rfl rfl 0 2 rfl rfl rfl (Nat.le_of_ble_eq_true rfl) ⟨by show _ ≤ 600104; omega, by show _ ≤ 7301314; omega⟩ rfl dL_law_902 ?_
  refine k_if_ge C 912 (by decide) dL_law_905 (fun h => absurd h h905) (fun _ => ?_)
  refine k_iconst C 0 (by decide) dL_law_908 ?_
  refine k_goto C 920 (by decide) dL_law_909 ?_
  refine k_istore C [(15, .int 0), (11, .long dg), (5, .int x), (0, .ref sc), (1, .ref a0), (2, .ref z0), (3, .int ia), (4, .int ti)] (by decide) rfl dL_law_920 ?_
  refine k_iload C dL_law_922 7 rfl ?_
  refine k_iconst C 3 (by decide) dL_law_924 ?_
  refine k_irem C (by decide) dL_law_925 ?_
  refine k_if_ne C 1005 (by decide) dL_law_926 (fun c1 => ?_) (fun c1 => ?_)
  ·
    refine k_widen (k' := K + 2) (n' := N + 12) (by omega) (by omega) ?_
    refine k_sub [1, 2, 3, 4, 5, 6, 7] rfl ?_
    exact kk a t
  ·
    refine k_aload_n C dL_law_929 4 rfl ?_
    refine k_iload C dL_law_930 0 rfl ?_
    obtain ⟨v, a1_, t1_, ea, hv, hcase⟩ := hA a t
    have hM2 : kCX l D cI cJ yX2_advise (.code yX2_advise cX2_advise 2 (some .int)) { frames := 7, cells := 1, slots := 6, locals := 155 } [.ref a0, .int 0] (wC a0 a1 a2 a3 a4 a5 a6 (XX X a t)) 0 v (wC a0 a1 a2 a3 a4 a5 a6 (XX X a1_ t1_)) := by
      have h9 := x_X2_advise l hl D cI cJ a0 a1 a2 a3 a4 a5 a6 0 (XX X a t)
      rw [ea] at h9
      exact h9
    refine k_callX0 C T hM2 (cwV 1 C.2.2.2.2.1 (kGV q397 q398 q399 q35 q400) rfl rfl rfl ⟨rfl, hdX2_advise⟩ ⟨Nat.le_of_ble_eq_true rfl, Nat.le_of_ble_eq_true rfl⟩) [0, 1, 2, 3, 4, 5, 6] [7, 8, 9, 10] [4, 5, 6, 7, 8, 9, 10, 0, 1, 2, 3] [(z0, cZ .null z1 Z.2.2), (z1, cQ cJ z2 z3), (z2, cA4 cI Z.1), (z3, cA4 cI Z.2.1)] [(a0, cF a1 a2 a3 a4 a5 a6 X.2.2.2.2.2.2), (a1, cS X.1), (a2, cS X.2.1), (a3, cB X.2.2.1), (a4, cB X.2.2.2.1), (a5, cB a1_), (a6, cB t1_), (z0, cZ .null z1 Z.2.2), (z1, cQ cJ z2 z3), (z2, cA4 cI Z.1), (z3, cA4 cI Z.2.1)] rfl rfl rfl rfl (by decide) [a0, a1, a2, a3, a4, a5, a6] rfl rfl rfl rfl 0 2 rfl rfl rfl (Nat.le_of_ble_eq_true rfl) ⟨by show _ ≤ 600104; omega, by show _ ≤ 7301314; omega⟩ rfl dL_law_932 rfl ?_
    rcases hcase with ⟨hv0, hw⟩ | ⟨hv0, w, hw3, hw⟩
    ·
      refine k_istore C [(16, .int v), (15, .int 0), (11, .long dg), (5, .int x), (0, .ref sc), (1, .ref a0), (2, .ref z0), (3, .int ia), (4, .int ti)] (by decide) rfl dL_law_935 ?_
      refine k_iload C dL_law_937 0 rfl ?_
      refine k_if_lt C 973 (by decide) dL_law_939 (fun h => absurd h hv0) (fun _ => ?_)
      refine k_aload_n C dL_law_942 5 rfl ?_
      refine k_iload C dL_law_943 1 rfl ?_
      refine k_iload C dL_law_945 0 rfl ?_
      refine k_bipush C 50 (by decide) dL_law_947 ?_
      refine k_idiv C (by decide) dL_law_949 ?_
      refine k_iconst C 2 (by decide) dL_law_950 ?_
      refine k_isub C dL_law_951 ?_
      refine k_iload C dL_law_952 0 rfl ?_
      refine k_bipush C 10 (by decide) dL_law_954 ?_
      refine k_idiv C (by decide) dL_law_956 ?_
      refine k_iconst C 5 (by decide) dL_law_957 ?_
      refine k_irem C (by decide) dL_law_958 ?_
      refine k_iconst C 2 (by decide) dL_law_959 ?_
      refine k_isub C dL_law_960 ?_
      refine k_iload C dL_law_961 0 rfl ?_
      refine k_bipush C 10 (by decide) dL_law_963 ?_
      refine k_irem C (by decide) dL_law_965 ?_
      obtain ⟨a2_, t2_, ew⟩ := hw a1_ t1_
      have hM3 : kCX l D cI cJ yX2_would (.code yX2_would cX2_would 5 (some .int)) { frames := 7, cells := 1, slots := 6, locals := 148 } [.ref a0, .int 0, .int ((v / 50) - 2), .int (((v / 10) - (v / 10) / 5 * 5) - 2), .int (v - v / 10 * 10)] (wC a0 a1 a2 a3 a4 a5 a6 (XX X a1_ t1_)) 0 3 (wC a0 a1 a2 a3 a4 a5 a6 (XX X a2_ t2_)) := by
        have h9 := x_X2_would l hl D cI cJ a0 a1 a2 a3 a4 a5 a6 0 ((v / 50) - 2) (((v / 10) - (v / 10) / 5 * 5) - 2) (v - v / 10 * 10) (XX X a1_ t1_)
        rw [ew] at h9
        exact h9
      refine k_callX0 C T hM3 (cwV 4 C.2.2.2.2.1 (kGV q362 q363 q364 q35 q365) rfl rfl rfl ⟨rfl, hdX2_would⟩ ⟨Nat.le_of_ble_eq_true rfl, Nat.le_of_ble_eq_true rfl⟩) [0, 1, 2, 3, 4, 5, 6] [7, 8, 9, 10] [4, 5, 6, 7, 8, 9, 10, 0, 1, 2, 3] [(z0, cZ .null z1 Z.2.2), (z1, cQ cJ z2 z3), (z2, cA4 cI Z.1), (z3, cA4 cI Z.2.1)] [(a0, cF a1 a2 a3 a4 a5 a6 X.2.2.2.2.2.2), (a1, cS X.1), (a2, cS X.2.1), (a3, cB X.2.2.1), (a4, cB X.2.2.2.1), (a5, cB a2_), (a6, cB t2_), (z0, cZ .null z1 Z.2.2), (z1, cQ cJ z2 z3), (z2, cA4 cI Z.1), (z3, cA4 cI Z.2.1)] rfl rfl rfl rfl (by decide) [a0, a1, a2, a3, a4, a5, a6] rfl rfl rfl rfl 0 2 rfl rfl rfl (Nat.le_of_ble_eq_true rfl) ⟨by show _ ≤ 600104; omega, by show _ ≤ 7301314; omega⟩ rfl dL_law_966 rfl ?_
      refine k_iconst C 3 (by decide) dL_law_969 ?_
      refine k_icmp_ne C 981 (by decide) dL_law_970 (fun h => absurd (by decide) h) (fun _ => ?_)
      refine k_iload C dL_law_973 0 rfl ?_
      refine k_sipush C 250 (by decide) dL_law_975 ?_
      refine k_icmp_lt C 983 (by decide) dL_law_978 (fun _ => ?_) (fun h => absurd hv h)
      refine k_iload C dL_law_983 0 rfl ?_
      refine k_if_ge C 1005 (by decide) dL_law_985 (fun _ => ?_) (fun h => absurd (nn_of hv0) h)
      refine k_widen (k' := K + 2) (n' := N + 12) (by omega) (by omega) ?_
      refine k_sub [2, 3, 4, 5, 6, 7, 8] rfl ?_
      exact kk a2_ t2_
    ·
      refine k_istore C [(16, .int v), (15, .int 0), (11, .long dg), (5, .int x), (0, .ref sc), (1, .ref a0), (2, .ref z0), (3, .int ia), (4, .int ti)] (by decide) rfl dL_law_935 ?_
      refine k_iload C dL_law_937 0 rfl ?_
      refine k_if_lt C 973 (by decide) dL_law_939 (fun _ => ?_) (fun h => absurd hv0 h)
      refine k_iload C dL_law_973 0 rfl ?_
      refine k_sipush C 250 (by decide) dL_law_975 ?_
      refine k_icmp_lt C 983 (by decide) dL_law_978 (fun _ => ?_) (fun h => absurd hv h)
      refine k_iload C dL_law_983 0 rfl ?_
      refine k_if_ge C 1005 (by decide) dL_law_985 (fun h => absurd h (nlt_of hv0)) (fun _ => ?_)
      refine k_aload_n C dL_law_988 5 rfl ?_
      refine k_iload C dL_law_989 1 rfl ?_
      refine k_iconst C 0 (by decide) dL_law_991 ?_
      refine k_bipush C (-2) (by decide) dL_law_992 ?_
      refine k_bipush C 9 (by decide) dL_law_994 ?_
      obtain ⟨a2_, t2_, ew⟩ := hw a1_ t1_
      have hM4 : kCX l D cI cJ yX2_would (.code yX2_would cX2_would 5 (some .int)) { frames := 7, cells := 1, slots := 6, locals := 148 } [.ref a0, .int 0, .int 0, .int (-2), .int 9] (wC a0 a1 a2 a3 a4 a5 a6 (XX X a1_ t1_)) 0 w (wC a0 a1 a2 a3 a4 a5 a6 (XX X a2_ t2_)) := by
        have h9 := x_X2_would l hl D cI cJ a0 a1 a2 a3 a4 a5 a6 0 0 (-2) 9 (XX X a1_ t1_)
        rw [ew] at h9
        exact h9
      refine k_callX0 C T hM4 (cwV 4 C.2.2.2.2.1 (kGV q362 q363 q364 q35 q365) rfl rfl rfl ⟨rfl, hdX2_would⟩ ⟨Nat.le_of_ble_eq_true rfl, Nat.le_of_ble_eq_true rfl⟩) [0, 1, 2, 3, 4, 5, 6] [7, 8, 9, 10] [4, 5, 6, 7, 8, 9, 10, 0, 1, 2, 3] [(z0, cZ .null z1 Z.2.2), (z1, cQ cJ z2 z3), (z2, cA4 cI Z.1), (z3, cA4 cI Z.2.1)] [(a0, cF a1 a2 a3 a4 a5 a6 X.2.2.2.2.2.2), (a1, cS X.1), (a2, cS X.2.1), (a3, cB X.2.2.1), (a4, cB X.2.2.2.1), (a5, cB a2_), (a6, cB t2_), (z0, cZ .null z1 Z.2.2), (z1, cQ cJ z2 z3), (z2, cA4 cI Z.1), (z3, cA4 cI Z.2.1)] rfl rfl rfl rfl (by decide) [a0, a1, a2, a3, a4, a5, a6] rfl rfl rfl rfl 0 2 rfl rfl rfl (Nat.le_of_ble_eq_true rfl) ⟨by show _ ≤ 600104; omega, by show _ ≤ 7301314; omega⟩ rfl dL_law_996 rfl ?_
      refine k_iconst C 3 (by decide) dL_law_999 ?_
      refine k_icmp_ne C 1005 (by decide) dL_law_1000 (fun _ => ?_) (fun h => absurd h hw3)
      refine k_widen (k' := K + 2) (n' := N + 12) (by omega) (by omega) ?_
      refine k_sub [2, 3, 4, 5, 6, 7, 8] rfl ?_
      exact kk a2_ t2_
set_option maxHeartbeats 4000000 in
set_option maxRecDepth 100000 in
theorem S9_n {p : Program} {l : Launch} {e : Env} {s : State} {m : MethodId} {args : Array Value} {below : List Frame} {meth : Method} {c : Code} {D : va_G} {cI cJ : ClassId} {A : Nat → Prop} {Q : State → Prop} {a0 a1 a2 a3 a4 a5 a6 z0 z1 z2 z3 sc : Nat} {X : Co} {Z : Zs} {K N : Nat} (C : kCx p s m args meth c RL cL_law 23 ret D cI cJ A) (hK : K + 3000 ≤ 600104) (hN : N + 30000 ≤ 7301314)  {x ia ti : Int32} {dg : Int64} (a t : Ba)  (h1012 : ((lg_cmp (fX2_digest (X.1, X.2.1, X.2.2.1, X.2.2.2.1, a, t, X.2.2.2.2.2.2)) dg) = 0)) (kk : kW p l e room_1 s m args below meth c D A 23 (K + 0) (N + 0) Q [(a0, cF a1 a2 a3 a4 a5 a6 X.2.2.2.2.2.2), (a1, cS X.1), (a2, cS X.2.1), (a3, cB X.2.2.1), (a4, cB X.2.2.2.1), (a5, cB a), (a6, cB t), (z0, cZ .null z1 Z.2.2), (z1, cQ cJ z2 z3), (z2, cA4 cI Z.1), (z3, cA4 cI Z.2.1)] 21 [(0, .ref sc), (1, .ref a0), (2, .ref z0), (3, .int ia), (4, .int (ti + 1))] []) : kW p l e room_1 s m args below meth c D A 23 K N Q [(a0, cF a1 a2 a3 a4 a5 a6 X.2.2.2.2.2.2), (a1, cS X.1), (a2, cS X.2.1), (a3, cB X.2.2.1), (a4, cB X.2.2.2.1), (a5, cB a), (a6, cB t), (z0, cZ .null z1 Z.2.2), (z1, cQ cJ z2 z3), (z2, cA4 cI Z.1), (z3, cA4 cI Z.2.1)] 1005 [(11, .long dg), (5, .int x), (0, .ref sc), (1, .ref a0), (2, .ref z0), (3, .int ia), (4, .int ti)] [] := by
  refine k_aload_n C dL_law_1005 3 rfl ?_
  refine k_callV_l C (mX2_digest l D cI cJ a0 a1 a2 a3 a4 a5 a6 (X.1, X.2.1, X.2.2.1, X.2.2.2.1, a, t, X.2.2.2.2.2.2)) (cwV 0 C.2.2.2.2.1 (kGV q405 q406 q407 q35 q408) rfl rfl rfl ⟨rfl, hdX2_digest⟩ ⟨Nat.le_of_ble_eq_true rfl, Nat.le_of_ble_eq_true rfl⟩) [0, 1, 2, 3, 4, 5, 6] [7, 8, 9, 10] [4, 5, 6, 7, 8, 9, 10, 0, 1, 2, 3] [(z0, cZ .null z1 Z.2.2), (z1, cQ cJ z2 z3), (z2, cA4 cI Z.1), (z3, cA4 cI Z.2.1)] ([(a0, cF a1 a2 a3 a4 a5 a6 X.2.2.2.2.2.2), (a1, cS X.1), (a2, cS X.2.1), (a3, cB X.2.2.1), (a4, cB X.2.2.2.1), (a5, cB a), (a6, cB t), (z0, cZ .null z1 Z.2.2), (z1, cQ cJ z2 z3), (z2, cA4 cI Z.1), (z3, cA4 cI Z.2.1)]) rfl rfl rfl rfl (by decide) [a0, a1, a2, a3, a4, a5, a6] rfl rfl rfl rfl 0 2 rfl rfl rfl (Nat.le_of_ble_eq_true rfl) ⟨by show _ ≤ 600104; omega, by show _ ≤ 7301314; omega⟩ rfl dL_law_1006 ?_
  refine k_lload C dL_law_1009 0 rfl ?_
  refine k_lcmp C dL_law_1011 ?_
  refine k_if_eq C 1017 (by decide) dL_law_1012 (fun _ => ?_) (fun h => absurd h1012 h)
  refine k_iinc C (ti + 1) [(4, .int (ti + 1)), (11, .long dg), (5, .int x), (0, .ref sc), (1, .ref a0), (2, .ref z0), (3, .int ia)] 6 rfl rfl (by decide) rfl dL_law_1017 ?_
  refine k_goto C 21 (by decide) dL_law_1020 ?_
  refine k_widen (k' := K + 0) (n' := N + 0) (by omega) (by omega) ?_
  refine k_sub [3, 4, 5, 6, 0] rfl ?_
  exact kk
set_option maxHeartbeats 4000000 in
set_option maxRecDepth 100000 in
theorem S8_r {p : Program} {l : Launch} {e : Env} {s : State} {m : MethodId} {args : Array Value} {below : List Frame} {meth : Method} {c : Code} {D : va_G} {cI cJ : ClassId} {A : Nat → Prop} {Q : State → Prop} {a0 a1 a2 a3 a4 a5 a6 z0 z1 z2 z3 z4 sc : Nat} {b : Lb} {X : Co} {Z : Zs} {K N : Nat} (C : kCx p s m args meth c RL cL_law 23 ret D cI cJ A) (hK : K + 3000 ≤ 600104) (hN : N + 30000 ≤ 7301314) (hl : l.stackTraces = false) (T : kTE A s s.heap) {x ia ti : Int32} {dg : Int64} (a t : Ba) {i : Nat} (hi : i ≤ 512) (hbB : b = c10 X.2.2.1) (hF : FN i X.2.2.1) (hA : ∀ r : Int32, 1 ≤ r.toInt → r.toInt ≤ 60 → AdW r X)  (h905 : (0 ≤ (fX2_count_1 (X.1, X.2.1, X.2.2.1, X.2.2.2.1, a, t, X.2.2.2.2.2.2)))) (kk : ∀ a9 t9 : Ba, kW p l e room_1 s m args below meth c D A 23 (K + 3) (N + 22) Q [(a0, cF a1 a2 a3 a4 a5 a6 X.2.2.2.2.2.2), (a1, cS X.1), (a2, cS X.2.1), (a3, cB X.2.2.1), (a4, cB X.2.2.2.1), (a5, cB a9), (a6, cB t9), (z0, cZ (.ref z4) z1 Z.2.2), (z1, cQ cJ z2 z3), (z2, cA4 cI Z.1), (z3, cA4 cI Z.2.1), (z4, cL b)] 1005 [(11, .long dg), (5, .int x), (0, .ref sc), (1, .ref a0), (2, .ref z0), (3, .int ia), (4, .int ti)] []) : kW p l e room_1 s m args below meth c D A 23 K N Q [(a0, cF a1 a2 a3 a4 a5 a6 X.2.2.2.2.2.2), (a1, cS X.1), (a2, cS X.2.1), (a3, cB X.2.2.1), (a4, cB X.2.2.2.1), (a5, cB a), (a6, cB t), (z0, cZ (.ref z4) z1 Z.2.2), (z1, cQ cJ z2 z3), (z2, cA4 cI Z.1), (z3, cA4 cI Z.2.1), (z4, cL b)] 900 [(11, .long dg), (5, .int x), (0, .ref sc), (1, .ref a0), (2, .ref z0), (3, .int ia), (4, .int ti)] [] := by
  refine k_aload_n C dL_law_900 3 rfl ?_
  refine k_iconst C 1 (by decide) dL_law_901 ?_
  refine k_callV_i C (mX2_count_1 l D cI cJ a0 a1 a2 a3 a4 a5 a6 (X.1, X.2.1, X.2.2.1, X.2.2.2.1, a, t, X.2.2.2.2.2.2)) (cwV 1 C.2.2.2.2.1 (kGV q260 q261 q262 q35 q263) rfl rfl rfl ⟨rfl, hdX2_count⟩ ⟨Nat.le_of_ble_eq_true rfl, Nat.le_of_ble_eq_true rfl⟩) [0, 1, 2, 3, 4, 5, 6] [7, 8, 9, 10, 11] [5, 6, 7, 8, 9, 10, 11, 0, 1, 2, 3, 4] [(z0, cZ (.ref z4) z1 Z.2.2), (z1, cQ cJ z2 z3), (z2, cA4 cI Z.1), (z3, cA4 cI Z.2.1), (z4, cL b)] ([(a0, cF a1 a2 a3 a4 a5 a6 X.2.2.2.2.2.2), (a1, cS X.1), (a2, cS X.2.1), (a3, cB X.2.2.1), (a4, cB X.2.2.2.1), (a5, cB a), (a6, cB t), (z0, cZ (.ref z4) z1 Z.2.2), (z1, cQ cJ z2 z3), (z2, cA4 cI Z.1), (z3, cA4 cI Z.2.1), (z4, cL b)]) rfl rfl rfl rfl (by decide) [a0, a1, a2, a3, a4, a5, a6] rfl rfl rfl rfl 0 2 rfl rfl rfl (Nat.le_of_ble_eq_true rfl) ⟨by show _ ≤ 600104; omega, by show _ ≤ 7301314; omega⟩ rfl dL_law_902 ?_
  refine k_if_ge C 912 (by decide) dL_law_905 (fun _ => ?_) (fun h => absurd h905 h)
  refine k_aload_n C dL_law_912 4 rfl ?_
  refine k_iload C dL_law_913 1 rfl ?_
  refine k_iconst C 3 (by decide) dL_law_915 ?_
  refine k_ishr C dL_law_916 ?_
  have hMo1 := mL_moments l D cI cJ z0 z1 z2 z3 z4 Z b (x >>> (3 &&& 31)) (i := i) hi hbB hF
  refine k_callGS_i C hMo1 (va_cwS 2 C.2.2.2.2.1 (kGS q494 q495 q34 q496) rfl rfl rfl hdL_moments ⟨Nat.le_of_ble_eq_true rfl, Nat.le_of_ble_eq_true rfl⟩) [7, 8, 9, 10, 11] [0, 1, 2, 3, 4, 5, 6] [(a0, cF a1 a2 a3 a4 a5 a6 X.2.2.2.2.2.2), (a1, cS X.1), (a2, cS X.2.1), (a3, cB X.2.2.1), (a4, cB X.2.2.2.1), (a5, cB a), (a6, cB t)] rfl rfl rfl rfl (by decide) (Nat.le_of_ble_eq_true rfl) ⟨by show _ ≤ 600104; omega, by show _ ≤ 7301314; omega⟩ rfl dL_law_917 (fun r2 U h3 => ?_)
  obtain ⟨h31, h32, rfl⟩ := h3
  refine k_wsub (w' := [(a0, cF a1 a2 a3 a4 a5 a6 X.2.2.2.2.2.2), (a1, cS X.1), (a2, cS X.2.1), (a3, cB X.2.2.1), (a4, cB X.2.2.2.1), (a5, cB a), (a6, cB t), (z0, cZ (.ref z4) z1 Z.2.2), (z1, cQ cJ z2 z3), (z2, cA4 cI Z.1), (z3, cA4 cI Z.2.1), (z4, cL b)]) [0, 1, 2, 3, 4, 5, 6, 7, 8, 9, 10, 11] rfl rfl ?_
  refine k_istore C [(15, .int r2), (11, .long dg), (5, .int x), (0, .ref sc), (1, .ref a0), (2, .ref z0), (3, .int ia), (4, .int ti)] (by decide) rfl dL_law_920 ?_
  refine k_iload C dL_law_922 7 rfl ?_
  refine k_iconst C 3 (by decide) dL_law_924 ?_
  refine k_irem C (by decide) dL_law_925 ?_
  refine k_if_ne C 1005 (by decide) dL_law_926 (fun c4 => ?_) (fun c4 => ?_)
  ·
    refine k_widen (k' := K + 3) (n' := N + 22) (by omega) (by omega) ?_
    refine k_sub [1, 2, 3, 4, 5, 6, 7] rfl ?_
    exact kk a t
  ·
    refine k_aload_n C dL_law_929 4 rfl ?_
    refine k_iload C dL_law_930 0 rfl ?_
    obtain ⟨v, a1_, t1_, ea, hv, hcase⟩ := (hA r2 h31 h32) a t
    have hM5 : kCX l D cI cJ yX2_advise (.code yX2_advise cX2_advise 2 (some .int)) { frames := 7, cells := 1, slots := 6, locals := 155 } [.ref a0, .int r2] (wC a0 a1 a2 a3 a4 a5 a6 (XX X a t)) 0 v (wC a0 a1 a2 a3 a4 a5 a6 (XX X a1_ t1_)) := by
      have h9 := x_X2_advise l hl D cI cJ a0 a1 a2 a3 a4 a5 a6 r2 (XX X a t)
      rw [ea] at h9
      exact h9
    refine k_callX0 C T hM5 (cwV 1 C.2.2.2.2.1 (kGV q397 q398 q399 q35 q400) rfl rfl rfl ⟨rfl, hdX2_advise⟩ ⟨Nat.le_of_ble_eq_true rfl, Nat.le_of_ble_eq_true rfl⟩) [0, 1, 2, 3, 4, 5, 6] [7, 8, 9, 10, 11] [5, 6, 7, 8, 9, 10, 11, 0, 1, 2, 3, 4] [(z0, cZ (.ref z4) z1 Z.2.2), (z1, cQ cJ z2 z3), (z2, cA4 cI Z.1), (z3, cA4 cI Z.2.1), (z4, cL b)] [(a0, cF a1 a2 a3 a4 a5 a6 X.2.2.2.2.2.2), (a1, cS X.1), (a2, cS X.2.1), (a3, cB X.2.2.1), (a4, cB X.2.2.2.1), (a5, cB a1_), (a6, cB t1_), (z0, cZ (.ref z4) z1 Z.2.2), (z1, cQ cJ z2 z3), (z2, cA4 cI Z.1), (z3, cA4 cI Z.2.1), (z4, cL b)] rfl rfl rfl rfl (by decide) [a0, a1, a2, a3, a4, a5, a6] rfl rfl rfl rfl 0 2 rfl rfl rfl (Nat.le_of_ble_eq_true rfl) ⟨by show _ ≤ 600104; omega, by show _ ≤ 7301314; omega⟩ rfl dL_law_932 rfl ?_
    rcases hcase with ⟨hv0, hw⟩ | ⟨hv0, w, hw3, hw⟩
    ·
      refine k_istore C [(16, .int v), (15, .int r2), (11, .long dg), (5, .int x), (0, .ref sc), (1, .ref a0), (2, .ref z0), (3, .int ia), (4, .int ti)] (by decide) rfl dL_law_935 ?_
      refine k_iload C dL_law_937 0 rfl ?_
      refine k_if_lt C 973 (by decide) dL_law_939 (fun h => absurd h hv0) (fun _ => ?_)
      refine k_aload_n C dL_law_942 5 rfl ?_
      refine k_iload C dL_law_943 1 rfl ?_
      refine k_iload C dL_law_945 0 rfl ?_
      refine k_bipush C 50 (by decide) dL_law_947 ?_
      refine k_idiv C (by decide) dL_law_949 ?_
      refine k_iconst C 2 (by decide) dL_law_950 ?_
      refine k_isub C dL_law_951 ?_
      refine k_iload C dL_law_952 0 rfl ?_
      refine k_bipush C 10 (by decide) dL_law_954 ?_
      refine k_idiv C (by decide) dL_law_956 ?_
      refine k_iconst C 5 (by decide) dL_law_957 ?_
      refine k_irem C (by decide) dL_law_958 ?_
      refine k_iconst C 2 (by decide) dL_law_959 ?_
      refine k_isub C dL_law_960 ?_
      refine k_iload C dL_law_961 0 rfl ?_
      refine k_bipush C 10 (by decide) dL_law_963 ?_
      refine k_irem C (by decide) dL_law_965 ?_
      obtain ⟨a2_, t2_, ew⟩ := hw a1_ t1_
      have hM6 : kCX l D cI cJ yX2_would (.code yX2_would cX2_would 5 (some .int)) { frames := 7, cells := 1, slots := 6, locals := 148 } [.ref a0, .int r2, .int ((v / 50) - 2), .int (((v / 10) - (v / 10) / 5 * 5) - 2), .int (v - v / 10 * 10)] (wC a0 a1 a2 a3 a4 a5 a6 (XX X a1_ t1_)) 0 3 (wC a0 a1 a2 a3 a4 a5 a6 (XX X a2_ t2_)) := by
        have h9 := x_X2_would l hl D cI cJ a0 a1 a2 a3 a4 a5 a6 r2 ((v / 50) - 2) (((v / 10) - (v / 10) / 5 * 5) - 2) (v - v / 10 * 10) (XX X a1_ t1_)
        rw [ew] at h9
        exact h9
      refine k_callX0 C T hM6 (cwV 4 C.2.2.2.2.1 (kGV q362 q363 q364 q35 q365) rfl rfl rfl ⟨rfl, hdX2_would⟩ ⟨Nat.le_of_ble_eq_true rfl, Nat.le_of_ble_eq_true rfl⟩) [0, 1, 2, 3, 4, 5, 6] [7, 8, 9, 10, 11] [5, 6, 7, 8, 9, 10, 11, 0, 1, 2, 3, 4] [(z0, cZ (.ref z4) z1 Z.2.2), (z1, cQ cJ z2 z3), (z2, cA4 cI Z.1), (z3, cA4 cI Z.2.1), (z4, cL b)] [(a0, cF a1 a2 a3 a4 a5 a6 X.2.2.2.2.2.2), (a1, cS X.1), (a2, cS X.2.1), (a3, cB X.2.2.1), (a4, cB X.2.2.2.1), (a5, cB a2_), (a6, cB t2_), (z0, cZ (.ref z4) z1 Z.2.2), (z1, cQ cJ z2 z3), (z2, cA4 cI Z.1), (z3, cA4 cI Z.2.1), (z4, cL b)] rfl rfl rfl rfl (by decide) [a0, a1, a2, a3, a4, a5, a6] rfl rfl rfl rfl 0 2 rfl rfl rfl (Nat.le_of_ble_eq_true rfl) ⟨by show _ ≤ 600104; omega, by show _ ≤ 7301314; omega⟩ rfl dL_law_966 rfl ?_
      refine k_iconst C 3 (by decide) dL_law_969 ?_
      refine k_icmp_ne C 981 (by decide) dL_law_970 (fun h => absurd (by decide) h) (fun _ => ?_)
      refine k_iload C dL_law_973 0 rfl ?_
      refine k_sipush C 250 (by decide) dL_law_975 ?_
      refine k_icmp_lt C 983 (by decide) dL_law_978 (fun _ => ?_) (fun h => absurd hv h)
      refine k_iload C dL_law_983 0 rfl ?_
      refine k_if_ge C 1005 (by decide) dL_law_985 (fun _ => ?_) (fun h => absurd (nn_of hv0) h)
      refine k_widen (k' := K + 3) (n' := N + 22) (by omega) (by omega) ?_
      refine k_sub [2, 3, 4, 5, 6, 7, 8] rfl ?_
      exact kk a2_ t2_
    ·
      refine k_istore C [(16, .int v), (15, .int r2), (11, .long dg), (5, .int x), (0, .ref sc), (1, .ref a0), (2, .ref z0), (3, .int ia), (4, .int ti)] (by decide) rfl dL_law_935 ?_
      refine k_iload C dL_law_937 0 rfl ?_
      refine k_if_lt C 973 (by decide) dL_law_939 (fun _ => ?_) (fun h => absurd hv0 h)
      refine k_iload C dL_law_973 0 rfl ?_
      refine k_sipush C 250 (by decide) dL_law_975 ?_
      refine k_icmp_lt C 983 (by decide) dL_law_978 (fun _ => ?_) (fun h => absurd hv h)
      refine k_iload C dL_law_983 0 rfl ?_
      refine k_if_ge C 1005 (by decide) dL_law_985 (fun h => absurd h (nlt_of hv0)) (fun _ => ?_)
      refine k_aload_n C dL_law_988 5 rfl ?_
      refine k_iload C dL_law_989 1 rfl ?_
      refine k_iconst C 0 (by decide) dL_law_991 ?_
      refine k_bipush C (-2) (by decide) dL_law_992 ?_
      refine k_bipush C 9 (by decide) dL_law_994 ?_
      obtain ⟨a2_, t2_, ew⟩ := hw a1_ t1_
      have hM7 : kCX l D cI cJ yX2_would (.code yX2_would cX2_would 5 (some .int)) { frames := 7, cells := 1, slots := 6, locals := 148 } [.ref a0, .int r2, .int 0, .int (-2), .int 9] (wC a0 a1 a2 a3 a4 a5 a6 (XX X a1_ t1_)) 0 w (wC a0 a1 a2 a3 a4 a5 a6 (XX X a2_ t2_)) := by
        have h9 := x_X2_would l hl D cI cJ a0 a1 a2 a3 a4 a5 a6 r2 0 (-2) 9 (XX X a1_ t1_)
        rw [ew] at h9
        exact h9
      refine k_callX0 C T hM7 (cwV 4 C.2.2.2.2.1 (kGV q362 q363 q364 q35 q365) rfl rfl rfl ⟨rfl, hdX2_would⟩ ⟨Nat.le_of_ble_eq_true rfl, Nat.le_of_ble_eq_true rfl⟩) [0, 1, 2, 3, 4, 5, 6] [7, 8, 9, 10, 11] [5, 6, 7, 8, 9, 10, 11, 0, 1, 2, 3, 4] [(z0, cZ (.ref z4) z1 Z.2.2), (z1, cQ cJ z2 z3), (z2, cA4 cI Z.1), (z3, cA4 cI Z.2.1), (z4, cL b)] [(a0, cF a1 a2 a3 a4 a5 a6 X.2.2.2.2.2.2), (a1, cS X.1), (a2, cS X.2.1), (a3, cB X.2.2.1), (a4, cB X.2.2.2.1), (a5, cB a2_), (a6, cB t2_), (z0, cZ (.ref z4) z1 Z.2.2), (z1, cQ cJ z2 z3), (z2, cA4 cI Z.1), (z3, cA4 cI Z.2.1), (z4, cL b)] rfl rfl rfl rfl (by decide) [a0, a1, a2, a3, a4, a5, a6] rfl rfl rfl rfl 0 2 rfl rfl rfl (Nat.le_of_ble_eq_true rfl) ⟨by show _ ≤ 600104; omega, by show _ ≤ 7301314; omega⟩ rfl dL_law_996 rfl ?_
      refine k_iconst C 3 (by decide) dL_law_999 ?_
      refine k_icmp_ne C 1005 (by decide) dL_law_1000 (fun _ => ?_) (fun h => absurd h hw3)
      refine k_widen (k' := K + 3) (n' := N + 22) (by omega) (by omega) ?_
      refine k_sub [2, 3, 4, 5, 6, 7, 8] rfl ?_
      exact kk a2_ t2_
set_option maxHeartbeats 4000000 in
set_option maxRecDepth 100000 in
theorem S9_r {p : Program} {l : Launch} {e : Env} {s : State} {m : MethodId} {args : Array Value} {below : List Frame} {meth : Method} {c : Code} {D : va_G} {cI cJ : ClassId} {A : Nat → Prop} {Q : State → Prop} {a0 a1 a2 a3 a4 a5 a6 z0 z1 z2 z3 z4 sc : Nat} {b : Lb} {X : Co} {Z : Zs} {K N : Nat} (C : kCx p s m args meth c RL cL_law 23 ret D cI cJ A) (hK : K + 3000 ≤ 600104) (hN : N + 30000 ≤ 7301314)  {x ia ti : Int32} {dg : Int64} (a t : Ba)  (h1012 : ((lg_cmp (fX2_digest (X.1, X.2.1, X.2.2.1, X.2.2.2.1, a, t, X.2.2.2.2.2.2)) dg) = 0)) (kk : kW p l e room_1 s m args below meth c D A 23 (K + 0) (N + 0) Q [(a0, cF a1 a2 a3 a4 a5 a6 X.2.2.2.2.2.2), (a1, cS X.1), (a2, cS X.2.1), (a3, cB X.2.2.1), (a4, cB X.2.2.2.1), (a5, cB a), (a6, cB t), (z0, cZ (.ref z4) z1 Z.2.2), (z1, cQ cJ z2 z3), (z2, cA4 cI Z.1), (z3, cA4 cI Z.2.1), (z4, cL b)] 21 [(0, .ref sc), (1, .ref a0), (2, .ref z0), (3, .int ia), (4, .int (ti + 1))] []) : kW p l e room_1 s m args below meth c D A 23 K N Q [(a0, cF a1 a2 a3 a4 a5 a6 X.2.2.2.2.2.2), (a1, cS X.1), (a2, cS X.2.1), (a3, cB X.2.2.1), (a4, cB X.2.2.2.1), (a5, cB a), (a6, cB t), (z0, cZ (.ref z4) z1 Z.2.2), (z1, cQ cJ z2 z3), (z2, cA4 cI Z.1), (z3, cA4 cI Z.2.1), (z4, cL b)] 1005 [(11, .long dg), (5, .int x), (0, .ref sc), (1, .ref a0), (2, .ref z0), (3, .int ia), (4, .int ti)] [] := by
  refine k_aload_n C dL_law_1005 3 rfl ?_
  refine k_callV_l C (mX2_digest l D cI cJ a0 a1 a2 a3 a4 a5 a6 (X.1, X.2.1, X.2.2.1, X.2.2.2.1, a, t, X.2.2.2.2.2.2)) (cwV 0 C.2.2.2.2.1 (kGV q405 q406 q407 q35 q408) rfl rfl rfl ⟨rfl, hdX2_digest⟩ ⟨Nat.le_of_ble_eq_true rfl, Nat.le_of_ble_eq_true rfl⟩) [0, 1, 2, 3, 4, 5, 6] [7, 8, 9, 10, 11] [5, 6, 7, 8, 9, 10, 11, 0, 1, 2, 3, 4] [(z0, cZ (.ref z4) z1 Z.2.2), (z1, cQ cJ z2 z3), (z2, cA4 cI Z.1), (z3, cA4 cI Z.2.1), (z4, cL b)] ([(a0, cF a1 a2 a3 a4 a5 a6 X.2.2.2.2.2.2), (a1, cS X.1), (a2, cS X.2.1), (a3, cB X.2.2.1), (a4, cB X.2.2.2.1), (a5, cB a), (a6, cB t), (z0, cZ (.ref z4) z1 Z.2.2), (z1, cQ cJ z2 z3), (z2, cA4 cI Z.1), (z3, cA4 cI Z.2.1), (z4, cL b)]) rfl rfl rfl rfl (by decide) [a0, a1, a2, a3, a4, a5, a6] rfl rfl rfl rfl 0 2 rfl rfl rfl (Nat.le_of_ble_eq_true rfl) ⟨by show _ ≤ 600104; omega, by show _ ≤ 7301314; omega⟩ rfl dL_law_1006 ?_
  refine k_lload C dL_law_1009 0 rfl ?_
  refine k_lcmp C dL_law_1011 ?_
  refine k_if_eq C 1017 (by decide) dL_law_1012 (fun _ => ?_) (fun h => absurd h1012 h)
  refine k_iinc C (ti + 1) [(4, .int (ti + 1)), (11, .long dg), (5, .int x), (0, .ref sc), (1, .ref a0), (2, .ref z0), (3, .int ia)] 6 rfl rfl (by decide) rfl dL_law_1017 ?_
  refine k_goto C 21 (by decide) dL_law_1020 ?_
  refine k_widen (k' := K + 0) (n' := N + 0) (by omega) (by omega) ?_
  refine k_sub [3, 4, 5, 6, 0] rfl ?_
  exact kk