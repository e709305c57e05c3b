/-! the law behind an act: whose turn -/
set_option maxHeartbeats 4000000 in
set_option maxRecDepth 100000 in
theorem S1_n {p : Program} {l : Launch} {e : Env} {s : State} {m : MethodId} {args : Array Value} {below : List Frame} {meth : Method} {c : Code} {D : va_G} {cI cJ : ClassId} {A : Nat → Prop} {Q : State → Prop} {a0 a1 a2 a3 a4 a5 a6 z0 z1 z2 z3 sc : Nat} {X : Co} {Z : Zs} {K N : Nat} (C : kCx p s m args meth c RL cL_law 23 ret D cI cJ A) (hK : K + 3000 ≤ 600104) (hN : N + 30000 ≤ 7301314)  {nw pl tn st hd x ia ti : Int32}  (hT : ((fX2_told_03 X) + (fX2_told_13 X)) = (pl + 1) → ¬ tn < 0 → (fX2_count_2 X) = (st + 1) ∧ (fX2_count_1 X) = ((1 : Int32) - tn))  (kk : kW p l e room_1 s m args below meth c D A 23 (K + 0) (N + 0) Q [(a0, cF a1 a2 a3 a4 a5 a6 X.2.2.2.2.2.2), (a1, cS X.1), (a2, cS X.2.1), (a3, cB X.2.2.1), (a4, cB X.2.2.2.1), (a5, cB X.2.2.2.2.1), (a6, cB X.2.2.2.2.2.1), (z0, cZ .null z1 Z.2.2), (z1, cQ cJ z2 z3), (z2, cA4 cI Z.1), (z3, cA4 cI Z.2.1)] 166 [(11, .long (fX2_digest X)), (10, .int nw), (9, .int pl), (8, .int tn), (7, .int st), (6, .int hd), (5, .int x), (0, .ref sc), (1, .ref a0), (2, .ref z0), (3, .int ia), (4, .int ti)] []) : kW p l e room_1 s m args below meth c D A 23 K N Q [(a0, cF a1 a2 a3 a4 a5 a6 X.2.2.2.2.2.2), (a1, cS X.1), (a2, cS X.2.1), (a3, cB X.2.2.1), (a4, cB X.2.2.2.1), (a5, cB X.2.2.2.2.1), (a6, cB X.2.2.2.2.2.1), (z0, cZ .null z1 Z.2.2), (z1, cQ cJ z2 z3), (z2, cA4 cI Z.1), (z3, cA4 cI Z.2.1)] 104 [(10, .int nw), (9, .int pl), (8, .int tn), (7, .int st), (6, .int hd), (5, .int x), (0, .ref sc), (1, .ref a0), (2, .ref z0), (3, .int ia), (4, .int ti)] [] := by
  refine k_aload_n C dL_law_104 7 rfl ?_
  refine k_callV_l C (mX2_digest l D cI cJ a0 a1 a2 a3 a4 a5 a6 X) (cwV 0 C.2.2.2.2.1 (kGV q405 q406 q407 q35 q408) rfl rfl rfl ⟨rfl, hdX2_digest⟩ ⟨Nat.le_of_ble_eq_true rfl, Nat.le_of_ble_eq_true rfl⟩) [0, 1, 2, 3, 4, 5, 6] [7, 8, 9, 10] [4, 5, 6, 7, 8, 9, 10, 0, 1, 2, 3] [(z0, cZ .null z1 Z.2.2), (z1, cQ cJ z2 z3), (z2, cA4 cI Z.1), (z3, cA4 cI Z.2.1)] ([(a0, cF a1 a2 a3 a4 a5 a6 X.2.2.2.2.2.2), (a1, cS X.1), (a2, cS X.2.1), (a3, cB X.2.2.1), (a4, cB X.2.2.2.1), (a5, cB X.2.2.2.2.1), (a6, cB X.2.2.2.2.2.1), (z0, cZ .null z1 Z.2.2), (z1, cQ cJ z2 z3), (z2, cA4 cI Z.1), (z3, cA4 cI Z.2.1)]) rfl rfl rfl rfl (by decide) [a0, a1, a2, a3, a4, a5, a6] rfl rfl rfl rfl 0 2 rfl rfl rfl (Nat.le_of_ble_eq_true rfl) ⟨by show _ ≤ 600104; omega, by show _ ≤ 7301314; omega⟩ rfl dL_law_105 ?_
  refine k_lstore C [(11, .long (fX2_digest X)), (10, .int nw), (9, .int pl), (8, .int tn), (7, .int st), (6, .int hd), (5, .int x), (0, .ref sc), (1, .ref a0), (2, .ref z0), (3, .int ia), (4, .int ti)] (by decide) rfl dL_law_108 ?_
  refine k_iload C dL_law_110 1 rfl ?_
  refine k_if_ne C 166 (by decide) dL_law_112 (fun c1 => ?_) (fun c1 => ?_)
  ·
    refine k_widen (k' := K + 0) (n' := N + 0) (by omega) (by omega) ?_
    exact kk
  ·
    refine k_aload_n C dL_law_115 8 rfl ?_
    refine k_iconst C 0 (by decide) dL_law_116 ?_
    refine k_iconst C 3 (by decide) dL_law_117 ?_
    refine k_callV_i C (mX2_told_03 l D cI cJ a0 a1 a2 a3 a4 a5 a6 X) (cwV 2 C.2.2.2.2.1 (kGV q244 q245 q246 q35 q247) rfl rfl rfl ⟨rfl, hdX2_told⟩ ⟨Nat.le_of_ble_eq_true rfl, Nat.le_of_ble_eq_true rfl⟩) [0, 1, 2, 3, 4, 5, 6] [7, 8, 9, 10] [4, 5, 6, 7, 8, 9, 10, 0, 1, 2, 3] [(z0, cZ .null z1 Z.2.2), (z1, cQ cJ z2 z3), (z2, cA4 cI Z.1), (z3, cA4 cI Z.2.1)] ([(a0, cF a1 a2 a3 a4 a5 a6 X.2.2.2.2.2.2), (a1, cS X.1), (a2, cS X.2.1), (a3, cB X.2.2.1), (a4, cB X.2.2.2.1), (a5, cB X.2.2.2.2.1), (a6, cB X.2.2.2.2.2.1), (z0, cZ .null z1 Z.2.2), (z1, cQ cJ z2 z3), (z2, cA4 cI Z.1), (z3, cA4 cI Z.2.1)]) rfl rfl rfl rfl (by decide) [a0, a1, a2, a3, a4, a5, a6] rfl rfl rfl rfl 0 2 rfl rfl rfl (Nat.le_of_ble_eq_true rfl) ⟨by show _ ≤ 600104; omega, by show _ ≤ 7301314; omega⟩ rfl dL_law_118 ?_
    refine k_aload_n C dL_law_121 8 rfl ?_
    refine k_iconst C 1 (by decide) dL_law_122 ?_
    refine k_iconst C 3 (by decide) dL_law_123 ?_
    refine k_callV_i C (mX2_told_13 l D cI cJ a0 a1 a2 a3 a4 a5 a6 X) (cwV 2 C.2.2.2.2.1 (kGV q244 q245 q246 q35 q247) rfl rfl rfl ⟨rfl, hdX2_told⟩ ⟨Nat.le_of_ble_eq_true rfl, Nat.le_of_ble_eq_true rfl⟩) [0, 1, 2, 3, 4, 5, 6] [7, 8, 9, 10] [4, 5, 6, 7, 8, 9, 10, 0, 1, 2, 3] [(z0, cZ .null z1 Z.2.2), (z1, cQ cJ z2 z3), (z2, cA4 cI Z.1), (z3, cA4 cI Z.2.1)] ([(a0, cF a1 a2 a3 a4 a5 a6 X.2.2.2.2.2.2), (a1, cS X.1), (a2, cS X.2.1), (a3, cB X.2.2.1), (a4, cB X.2.2.2.1), (a5, cB X.2.2.2.2.1), (a6, cB X.2.2.2.2.2.1), (z0, cZ .null z1 Z.2.2), (z1, cQ cJ z2 z3), (z2, cA4 cI Z.1), (z3, cA4 cI Z.2.1)]) rfl rfl rfl rfl (by decide) [a0, a1, a2, a3, a4, a5, a6] rfl rfl rfl rfl 0 2 rfl rfl rfl (Nat.le_of_ble_eq_true rfl) ⟨by show _ ≤ 600104; omega, by show _ ≤ 7301314; omega⟩ rfl dL_law_124 ?_
    refine k_iadd C dL_law_127 ?_
    refine k_iload C dL_law_128 2 rfl ?_
    refine k_iconst C 1 (by decide) dL_law_130 ?_
    refine k_iadd C dL_law_131 ?_
    refine k_icmp_ne C 166 (by decide) dL_law_132 (fun c2 => ?_) (fun c2 => ?_)
    ·
      refine k_widen (k' := K + 0) (n' := N + 0) (by omega) (by omega) ?_
      exact kk
    ·
      refine k_iload C dL_law_135 3 rfl ?_
      refine k_if_lt C 166 (by decide) dL_law_137 (fun c3 => ?_) (fun c3 => ?_)
      ·
        refine k_widen (k' := K + 0) (n' := N + 0) (by omega) (by omega) ?_
        exact kk
      ·
        refine k_aload_n C dL_law_140 8 rfl ?_
        refine k_iconst C 2 (by decide) dL_law_141 ?_
        refine k_callV_i C (mX2_count_2 l D cI cJ a0 a1 a2 a3 a4 a5 a6 X) (cwV 1 C.2.2.2.2.1 (kGV q260 q261 q262 q35 q263) rfl rfl rfl ⟨rfl, hdX2_count⟩ ⟨Nat.le_of_ble_eq_true rfl, Nat.le_of_ble_eq_true rfl⟩) [0, 1, 2, 3, 4, 5, 6] [7, 8, 9, 10] [4, 5, 6, 7, 8, 9, 10, 0, 1, 2, 3] [(z0, cZ .null z1 Z.2.2), (z1, cQ cJ z2 z3), (z2, cA4 cI Z.1), (z3, cA4 cI Z.2.1)] ([(a0, cF a1 a2 a3 a4 a5 a6 X.2.2.2.2.2.2), (a1, cS X.1), (a2, cS X.2.1), (a3, cB X.2.2.1), (a4, cB X.2.2.2.1), (a5, cB X.2.2.2.2.1), (a6, cB X.2.2.2.2.2.1), (z0, cZ .null z1 Z.2.2), (z1, cQ cJ z2 z3), (z2, cA4 cI Z.1), (z3, cA4 cI Z.2.1)]) rfl rfl rfl rfl (by decide) [a0, a1, a2, a3, a4, a5, a6] rfl rfl rfl rfl 0 2 rfl rfl rfl (Nat.le_of_ble_eq_true rfl) ⟨by show _ ≤ 600104; omega, by show _ ≤ 7301314; omega⟩ rfl dL_law_142 ?_
        refine k_iload C dL_law_145 4 rfl ?_
        refine k_iconst C 1 (by decide) dL_law_147 ?_
        refine k_iadd C dL_law_148 ?_
        refine k_icmp_ne C 164 (by decide) dL_law_149 (fun h => absurd (hT c2 c3).1 h) (fun _ => ?_)
        refine k_aload_n C dL_law_152 8 rfl ?_
        refine k_iconst C 1 (by decide) dL_law_153 ?_
        refine k_callV_i C (mX2_count_1 l D cI cJ a0 a1 a2 a3 a4 a5 a6 X) (cwV 1 C.2.2.2.2.1 (kGV q260 q261 q262 q35 q263) rfl rfl rfl ⟨rfl, hdX2_count⟩ ⟨Nat.le_of_ble_eq_true rfl, Nat.le_of_ble_eq_true rfl⟩) [0, 1, 2, 3, 4, 5, 6] [7, 8, 9, 10] [4, 5, 6, 7, 8, 9, 10, 0, 1, 2, 3] [(z0, cZ .null z1 Z.2.2), (z1, cQ cJ z2 z3), (z2, cA4 cI Z.1), (z3, cA4 cI Z.2.1)] ([(a0, cF a1 a2 a3 a4 a5 a6 X.2.2.2.2.2.2), (a1, cS X.1), (a2, cS X.2.1), (a3, cB X.2.2.1), (a4, cB X.2.2.2.1), (a5, cB X.2.2.2.2.1), (a6, cB X.2.2.2.2.2.1), (z0, cZ .null z1 Z.2.2), (z1, cQ cJ z2 z3), (z2, cA4 cI Z.1), (z3, cA4 cI Z.2.1)]) rfl rfl rfl rfl (by decide) [a0, a1, a2, a3, a4, a5, a6] rfl rfl rfl rfl 0 2 rfl rfl rfl (Nat.le_of_ble_eq_true rfl) ⟨by show _ ≤ 600104; omega, by show _ ≤ 7301314; omega⟩ rfl dL_law_154 ?_
        refine k_iconst C 1 (by decide) dL_law_157 ?_
        refine k_iload C dL_law_158 3 rfl ?_
        refine k_isub C dL_law_160 ?_
        refine k_icmp_eq C 166 (by decide) dL_law_161 (fun _ => ?_) (fun h => absurd (hT c2 c3).2 h)
        refine k_widen (k' := K + 0) (n' := N + 0) (by omega) (by omega) ?_
        exact kk
set_option maxHeartbeats 4000000 in
set_option maxRecDepth 100000 in
theorem S1_r {p : Program} {l : Launch} {e : Env} {s : State} {m : MethodId} {args : Array Value} {below : List Frame} {meth : Method} {c : Code} {D : va_G} {cI cJ : ClassId} {A : Nat → Prop} {Q : State → Prop} {a0 a1 a2 a3 a4 a5 a6 z0 z1 z2 z3 z4 sc : Nat} {b : Lb} {X : Co} {Z : Zs} {K N : Nat} (C : kCx p s m args meth c RL cL_law 23 ret D cI cJ A) (hK : K + 3000 ≤ 600104) (hN : N + 30000 ≤ 7301314)  {nw pl tn st hd x ia ti : Int32}  (hT : ((fX2_told_03 X) + (fX2_told_13 X)) = (pl + 1) → ¬ tn < 0 → (fX2_count_2 X) = (st + 1) ∧ (fX2_count_1 X) = ((1 : Int32) - tn))  (kk : kW p l e room_1 s m args below meth c D A 23 (K + 0) (N + 0) Q [(a0, cF a1 a2 a3 a4 a5 a6 X.2.2.2.2.2.2), (a1, cS X.1), (a2, cS X.2.1), (a3, cB X.2.2.1), (a4, cB X.2.2.2.1), (a5, cB X.2.2.2.2.1), (a6, cB X.2.2.2.2.2.1), (z0, cZ (.ref z4) z1 Z.2.2), (z1, cQ cJ z2 z3), (z2, cA4 cI Z.1), (z3, cA4 cI Z.2.1), (z4, cL b)] 166 [(11, .long (fX2_digest X)), (10, .int nw), (9, .int pl), (8, .int tn), (7, .int st), (6, .int hd), (5, .int x), (0, .ref sc), (1, .ref a0), (2, .ref z0), (3, .int ia), (4, .int ti)] []) : kW p l e room_1 s m args below meth c D A 23 K N Q [(a0, cF a1 a2 a3 a4 a5 a6 X.2.2.2.2.2.2), (a1, cS X.1), (a2, cS X.2.1), (a3, cB X.2.2.1), (a4, cB X.2.2.2.1), (a5, cB X.2.2.2.2.1), (a6, cB X.2.2.2.2.2.1), (z0, cZ (.ref z4) z1 Z.2.2), (z1, cQ cJ z2 z3), (z2, cA4 cI Z.1), (z3, cA4 cI Z.2.1), (z4, cL b)] 104 [(10, .int nw), (9, .int pl), (8, .int tn), (7, .int st), (6, .int hd), (5, .int x), (0, .ref sc), (1, .ref a0), (2, .ref z0), (3, .int ia), (4, .int ti)] [] := by
  refine k_aload_n C dL_law_104 7 rfl ?_
  refine k_callV_l C (mX2_digest l D cI cJ a0 a1 a2 a3 a4 a5 a6 X) (cwV 0 C.2.2.2.2.1 (kGV q405 q406 q407 q35 q408) rfl rfl rfl ⟨rfl, hdX2_digest⟩ ⟨Nat.le_of_ble_eq_true rfl, Nat.le_of_ble_eq_true rfl⟩) [0, 1, 2, 3, 4, 5, 6] [7, 8, 9, 10, 11] [5, 6, 7, 8, 9, 10, 11, 0, 1, 2, 3, 4] [(z0, cZ (.ref z4) z1 Z.2.2), (z1, cQ cJ z2 z3), (z2, cA4 cI Z.1), (z3, cA4 cI Z.2.1), (z4, cL b)] ([(a0, cF a1 a2 a3 a4 a5 a6 X.2.2.2.2.2.2), (a1, cS X.1), (a2, cS X.2.1), (a3, cB X.2.2.1), (a4, cB X.2.2.2.1), (a5, cB X.2.2.2.2.1), (a6, cB X.2.2.2.2.2.1), (z0, cZ (.ref z4) z1 Z.2.2), (z1, cQ cJ z2 z3), (z2, cA4 cI Z.1), (z3, cA4 cI Z.2.1), (z4, cL b)]) rfl rfl rfl rfl (by decide) [a0, a1, a2, a3, a4, a5, a6] rfl rfl rfl rfl 0 2 rfl rfl rfl (Nat.le_of_ble_eq_true rfl) ⟨by show _ ≤ 600104; omega, by show _ ≤ 7301314; omega⟩ rfl dL_law_105 ?_
  refine k_lstore C [(11, .long (fX2_digest X)), (10, .int nw), (9, .int pl), (8, .int tn), (7, .int st), (6, .int hd), (5, .int x), (0, .ref sc), (1, .ref a0), (2, .ref z0), (3, .int ia), (4, .int ti)] (by decide) rfl dL_law_108 ?_
  refine k_iload C dL_law_110 1 rfl ?_
  refine k_if_ne C 166 (by decide) dL_law_112 (fun c1 => ?_) (fun c1 => ?_)
  ·
    refine k_widen (k' := K + 0) (n' := N + 0) (by omega) (by omega) ?_
    exact kk
  ·
    refine k_aload_n C dL_law_115 8 rfl ?_
    refine k_iconst C 0 (by decide) dL_law_116 ?_
    refine k_iconst C 3 (by decide) dL_law_117 ?_
    refine k_callV_i C (mX2_told_03 l D cI cJ a0 a1 a2 a3 a4 a5 a6 X) (cwV 2 C.2.2.2.2.1 (kGV q244 q245 q246 q35 q247) rfl rfl rfl ⟨rfl, hdX2_told⟩ ⟨Nat.le_of_ble_eq_true rfl, Nat.le_of_ble_eq_true rfl⟩) [0, 1, 2, 3, 4, 5, 6] [7, 8, 9, 10, 11] [5, 6, 7, 8, 9, 10, 11, 0, 1, 2, 3, 4] [(z0, cZ (.ref z4) z1 Z.2.2), (z1, cQ cJ z2 z3), (z2, cA4 cI Z.1), (z3, cA4 cI Z.2.1), (z4, cL b)] ([(a0, cF a1 a2 a3 a4 a5 a6 X.2.2.2.2.2.2), (a1, cS X.1), (a2, cS X.2.1), (a3, cB X.2.2.1), (a4, cB X.2.2.2.1), (a5, cB X.2.2.2.2.1), (a6, cB X.2.2.2.2.2.1), (z0, cZ (.ref z4) z1 Z.2.2), (z1, cQ cJ z2 z3), (z2, cA4 cI Z.1), (z3, cA4 cI Z.2.1), (z4, cL b)]) rfl rfl rfl rfl (by decide) [a0, a1, a2, a3, a4, a5, a6] rfl rfl rfl rfl 0 2 rfl rfl rfl (Nat.le_of_ble_eq_true rfl) ⟨by show _ ≤ 600104; omega, by show _ ≤ 7301314; omega⟩ rfl dL_law_118 ?_
    refine k_aload_n C dL_law_121 8 rfl ?_
    refine k_iconst C 1 (by decide) dL_law_122 ?_
    refine k_iconst C 3 (by decide) dL_law_123 ?_
    refine k_callV_i C (mX2_told_13 l D cI cJ a0 a1 a2 a3 a4 a5 a6 X) (cwV 2 C.2.2.2.2.1 (kGV q244 q245 q246 q35 q247) rfl rfl rfl ⟨rfl, hdX2_told⟩ ⟨Nat.le_of_ble_eq_true rfl, Nat.le_of_ble_eq_true rfl⟩) [0, 1, 2, 3, 4, 5, 6] [7, 8, 9, 10, 11] [5, 6, 7, 8, 9, 10, 11, 0, 1, 2, 3, 4] [(z0, cZ (.ref z4) z1 Z.2.2), (z1, cQ cJ z2 z3), (z2, cA4 cI Z.1), (z3, cA4 cI Z.2.1), (z4, cL b)] ([(a0, cF a1 a2 a3 a4 a5 a6 X.2.2.2.2.2.2), (a1, cS X.1), (a2, cS X.2.1), (a3, cB X.2.2.1), (a4, cB X.2.2.2.1), (a5, cB X.2.2.2.2.1), (a6, cB X.2.2.2.2.2.1), (z0, cZ (.ref z4) z1 Z.2.2), (z1, cQ cJ z2 z3), (z2, cA4 cI Z.1), (z3, cA4 cI Z.2.1), (z4, cL b)]) rfl rfl rfl rfl (by decide) [a0, a1, a2, a3, a4, a5, a6] rfl rfl rfl rfl 0 2 rfl rfl rfl (Nat.le_of_ble_eq_true rfl) ⟨by show _ ≤ 600104; omega, by show _ ≤ 7301314; omega⟩ rfl dL_law_124 ?_
    refine k_iadd C dL_law_127 ?_
    refine k_iload C dL_law_128 2 rfl ?_
    refine k_iconst C 1 (by decide) dL_law_130 ?_
    refine k_iadd C dL_law_131 ?_
    refine k_icmp_ne C 166 (by decide) dL_law_132 (fun c2 => ?_) (fun c2 => ?_)
    ·
      refine k_widen (k' := K + 0) (n' := N + 0) (by omega) (by omega) ?_
      exact kk
    ·
      refine k_iload C dL_law_135 3 rfl ?_
      refine k_if_lt C 166 (by decide) dL_law_137 (fun c3 => ?_) (fun c3 => ?_)
      ·
        refine k_widen (k' := K + 0) (n' := N + 0) (by omega) (by omega) ?_
        exact kk
      ·
        refine k_aload_n C dL_law_140 8 rfl ?_
        refine k_iconst C 2 (by decide) dL_law_141 ?_
        refine k_callV_i C (mX2_count_2 l D cI cJ a0 a1 a2 a3 a4 a5 a6 X) (cwV 1 C.2.2.2.2.1 (kGV q260 q261 q262 q35 q263) rfl rfl rfl ⟨rfl, hdX2_count⟩ ⟨Nat.le_of_ble_eq_true rfl, Nat.le_of_ble_eq_true rfl⟩) [0, 1, 2, 3, 4, 5, 6] [7, 8, 9, 10, 11] [5, 6, 7, 8, 9, 10, 11, 0, 1, 2, 3, 4] [(z0, cZ (.ref z4) z1 Z.2.2), (z1, cQ cJ z2 z3), (z2, cA4 cI Z.1), (z3, cA4 cI Z.2.1), (z4, cL b)] ([(a0, cF a1 a2 a3 a4 a5 a6 X.2.2.2.2.2.2), (a1, cS X.1), (a2, cS X.2.1), (a3, cB X.2.2.1), (a4, cB X.2.2.2.1), (a5, cB X.2.2.2.2.1), (a6, cB X.2.2.2.2.2.1), (z0, cZ (.ref z4) z1 Z.2.2), (z1, cQ cJ z2 z3), (z2, cA4 cI Z.1), (z3, cA4 cI Z.2.1), (z4, cL b)]) rfl rfl rfl rfl (by decide) [a0, a1, a2, a3, a4, a5, a6] rfl rfl rfl rfl 0 2 rfl rfl rfl (Nat.le_of_ble_eq_true rfl) ⟨by show _ ≤ 600104; omega, by show _ ≤ 7301314; omega⟩ rfl dL_law_142 ?_
        refine k_iload C dL_law_145 4 rfl ?_
        refine k_iconst C 1 (by decide) dL_law_147 ?_
        refine k_iadd C dL_law_148 ?_
        refine k_icmp_ne C 164 (by decide) dL_law_149 (fun h => absurd (hT c2 c3).1 h) (fun _ => ?_)
        refine k_aload_n C dL_law_152 8 rfl ?_
        refine k_iconst C 1 (by decide) dL_law_153 ?_
        refine k_callV_i C (mX2_count_1 l D cI cJ a0 a1 a2 a3 a4 a5 a6 X) (cwV 1 C.2.2.2.2.1 (kGV q260 q261 q262 q35 q263) rfl rfl rfl ⟨rfl, hdX2_count⟩ ⟨Nat.le_of_ble_eq_true rfl, Nat.le_of_ble_eq_true rfl⟩) [0, 1, 2, 3, 4, 5, 6] [7, 8, 9, 10, 11] [5, 6, 7, 8, 9, 10, 11, 0, 1, 2, 3, 4] [(z0, cZ (.ref z4) z1 Z.2.2), (z1, cQ cJ z2 z3), (z2, cA4 cI Z.1), (z3, cA4 cI Z.2.1), (z4, cL b)] ([(a0, cF a1 a2 a3 a4 a5 a6 X.2.2.2.2.2.2), (a1, cS X.1), (a2, cS X.2.1), (a3, cB X.2.2.1), (a4, cB X.2.2.2.1), (a5, cB X.2.2.2.2.1), (a6, cB X.2.2.2.2.2.1), (z0, cZ (.ref z4) z1 Z.2.2), (z1, cQ cJ z2 z3), (z2, cA4 cI Z.1), (z3, cA4 cI Z.2.1), (z4, cL b)]) rfl rfl rfl rfl (by decide) [a0, a1, a2, a3, a4, a5, a6] rfl rfl rfl rfl 0 2 rfl rfl rfl (Nat.le_of_ble_eq_true rfl) ⟨by show _ ≤ 600104; omega, by show _ ≤ 7301314; omega⟩ rfl dL_law_154 ?_
        refine k_iconst C 1 (by decide) dL_law_157 ?_
        refine k_iload C dL_law_158 3 rfl ?_
        refine k_isub C dL_law_160 ?_
        refine k_icmp_eq C 166 (by decide) dL_law_161 (fun _ => ?_) (fun h => absurd (hT c2 c3).2 h)
        refine k_widen (k' := K + 0) (n' := N + 0) (by omega) (by omega) ?_
        exact kk