/-! the law behind an act: each side -/
set_option maxHeartbeats 4000000 in
set_option maxRecDepth 100000 in
theorem S3_n {p : Program} {l : Launch} {e : Env} {s : State} {m : MethodId} {args : Array Value} {below : List Frame} {meth : Method} {c : Code} {D : va_G} {cI cJ : ClassId} {A : Nat → Prop} {Q : State → Prop} {a0 a1 a2 a3 a4 a5 a6 z0 z1 z2 z3 sc : Nat} {X : Co} {Z : Zs} {K N : Nat} (C : kCx p s m args meth c RL cL_law 23 ret D cI cJ A) (hK : K + 3000 ≤ 600104) (hN : N + 30000 ≤ 7301314)  {nw pl tn st hd x ia ti : Int32} {dg : Int64}  (hW0 : (fX2_count_7 X) = 0 ↔ (fX2_told_01 X) = 3) (hW1 : (fX2_count_7 X) = 1 ↔ (fX2_told_11 X) = 3) (h253 : ¬ ((fX2_told_00 X) < 0)) (h268 : ¬ ((fX2_count_5 X) ≤ (fX2_told_00 X))) (h278 : ¬ ((fX2_told_01 X) < 0)) (h289 : ¬ (3 < (fX2_told_01 X))) (h253' : ¬ ((fX2_told_10 X) < 0)) (h268' : ¬ ((fX2_count_5 X) ≤ (fX2_told_10 X))) (h278' : ¬ ((fX2_told_11 X) < 0)) (h289' : ¬ (3 < (fX2_told_11 X))) (kk : kW p l e room_1 s m args below meth c D A 23 (K + 0) (N + 0) Q [(a0, cF a1 a2 a3 a4 a5 a6 X.2.2.2.2.2.2), (a1, cS X.1), (a2, cS X.2.1), (a3, cB X.2.2.1), (a4, cB X.2.2.2.1), (a5, cB X.2.2.2.2.1), (a6, cB X.2.2.2.2.2.1), (z0, cZ .null z1 Z.2.2), (z1, cQ cJ z2 z3), (z2, cA4 cI Z.1), (z3, cA4 cI Z.2.1)] 335 [(3, .int ia), (11, .long dg), (10, .int nw), (9, .int pl), (8, .int tn), (7, .int st), (6, .int hd), (5, .int x), (0, .ref sc), (1, .ref a0), (2, .ref z0), (4, .int ti)] []) : kW p l e room_1 s m args below meth c D A 23 K N Q [(a0, cF a1 a2 a3 a4 a5 a6 X.2.2.2.2.2.2), (a1, cS X.1), (a2, cS X.2.1), (a3, cB X.2.2.1), (a4, cB X.2.2.2.1), (a5, cB X.2.2.2.2.1), (a6, cB X.2.2.2.2.2.1), (z0, cZ .null z1 Z.2.2), (z1, cQ cJ z2 z3), (z2, cA4 cI Z.1), (z3, cA4 cI Z.2.1)] 237 [(3, .int ia), (11, .long dg), (10, .int nw), (9, .int pl), (8, .int tn), (7, .int st), (6, .int hd), (5, .int x), (0, .ref sc), (1, .ref a0), (2, .ref z0), (4, .int ti)] [] := by
  refine k_iconst C 0 (by decide) dL_law_237 ?_
  refine k_istore C [(13, .int 0), (3, .int ia), (11, .long dg), (10, .int nw), (9, .int pl), (8, .int tn), (7, .int st), (6, .int hd), (5, .int x), (0, .ref sc), (1, .ref a0), (2, .ref z0), (4, .int ti)] (by decide) rfl dL_law_238 ?_
  refine k_iload C dL_law_240 0 rfl ?_
  refine k_iconst C 2 (by decide) dL_law_242 ?_
  refine k_icmp_ge C 335 (by decide) dL_law_243 (fun h => absurd h (by decide)) (fun _ => ?_)
  refine k_aload_n C dL_law_246 10 rfl ?_
  refine k_iload C dL_law_247 0 rfl ?_
  refine k_iconst C 0 (by decide) dL_law_249 ?_
  refine k_callV_i C (mX2_told_00 l D cI cJ a0 a1 a2 a3 a4 a5 a6 X) (cwV 2 C.2.2.2.2.1 (kGV q244 q245 q246 q35 q247) rfl rfl rfl ⟨rfl, hdX2_told⟩ ⟨Nat.le_of_ble_eq_true rfl, Nat.le_of_ble_eq_true rfl⟩) [0, 1, 2, 3, 4, 5, 6] [7, 8, 9, 10] [4, 5, 6, 7, 8, 9, 10, 0, 1, 2, 3] [(z0, cZ .null z1 Z.2.2), (z1, cQ cJ z2 z3), (z2, cA4 cI Z.1), (z3, cA4 cI Z.2.1)] ([(a0, cF a1 a2 a3 a4 a5 a6 X.2.2.2.2.2.2), (a1, cS X.1), (a2, cS X.2.1), (a3, cB X.2.2.1), (a4, cB X.2.2.2.1), (a5, cB X.2.2.2.2.1), (a6, cB X.2.2.2.2.2.1), (z0, cZ .null z1 Z.2.2), (z1, cQ cJ z2 z3), (z2, cA4 cI Z.1), (z3, cA4 cI Z.2.1)]) rfl rfl rfl rfl (by decide) [a0, a1, a2, a3, a4, a5, a6] rfl rfl rfl rfl 0 2 rfl rfl rfl (Nat.le_of_ble_eq_true rfl) ⟨by show _ ≤ 600104; omega, by show _ ≤ 7301314; omega⟩ rfl dL_law_250 ?_
  refine k_if_lt C 327 (by decide) dL_law_253 (fun h => absurd h h253) (fun _ => ?_)
  refine k_aload_n C dL_law_256 10 rfl ?_
  refine k_iload C dL_law_257 0 rfl ?_
  refine k_iconst C 0 (by decide) dL_law_259 ?_
  refine k_callV_i C (mX2_told_00 l D cI cJ a0 a1 a2 a3 a4 a5 a6 X) (cwV 2 C.2.2.2.2.1 (kGV q244 q245 q246 q35 q247) rfl rfl rfl ⟨rfl, hdX2_told⟩ ⟨Nat.le_of_ble_eq_true rfl, Nat.le_of_ble_eq_true rfl⟩) [0, 1, 2, 3, 4, 5, 6] [7, 8, 9, 10] [4, 5, 6, 7, 8, 9, 10, 0, 1, 2, 3] [(z0, cZ .null z1 Z.2.2), (z1, cQ cJ z2 z3), (z2, cA4 cI Z.1), (z3, cA4 cI Z.2.1)] ([(a0, cF a1 a2 a3 a4 a5 a6 X.2.2.2.2.2.2), (a1, cS X.1), (a2, cS X.2.1), (a3, cB X.2.2.1), (a4, cB X.2.2.2.1), (a5, cB X.2.2.2.2.1), (a6, cB X.2.2.2.2.2.1), (z0, cZ .null z1 Z.2.2), (z1, cQ cJ z2 z3), (z2, cA4 cI Z.1), (z3, cA4 cI Z.2.1)]) rfl rfl rfl rfl (by decide) [a0, a1, a2, a3, a4, a5, a6] rfl rfl rfl rfl 0 2 rfl rfl rfl (Nat.le_of_ble_eq_true rfl) ⟨by show _ ≤ 600104; omega, by show _ ≤ 7301314; omega⟩ rfl dL_law_260 ?_
  refine k_aload_n C dL_law_263 10 rfl ?_
  refine k_iconst C 5 (by decide) dL_law_264 ?_
  refine k_callV_i C (mX2_count_5 l D cI cJ a0 a1 a2 a3 a4 a5 a6 X) (cwV 1 C.2.2.2.2.1 (kGV q260 q261 q262 q35 q263) rfl rfl rfl ⟨rfl, hdX2_count⟩ ⟨Nat.le_of_ble_eq_true rfl, Nat.le_of_ble_eq_true rfl⟩) [0, 1, 2, 3, 4, 5, 6] [7, 8, 9, 10] [4, 5, 6, 7, 8, 9, 10, 0, 1, 2, 3] [(z0, cZ .null z1 Z.2.2), (z1, cQ cJ z2 z3), (z2, cA4 cI Z.1), (z3, cA4 cI Z.2.1)] ([(a0, cF a1 a2 a3 a4 a5 a6 X.2.2.2.2.2.2), (a1, cS X.1), (a2, cS X.2.1), (a3, cB X.2.2.1), (a4, cB X.2.2.2.1), (a5, cB X.2.2.2.2.1), (a6, cB X.2.2.2.2.2.1), (z0, cZ .null z1 Z.2.2), (z1, cQ cJ z2 z3), (z2, cA4 cI Z.1), (z3, cA4 cI Z.2.1)]) rfl rfl rfl rfl (by decide) [a0, a1, a2, a3, a4, a5, a6] rfl rfl rfl rfl 0 2 rfl rfl rfl (Nat.le_of_ble_eq_true rfl) ⟨by show _ ≤ 600104; omega, by show _ ≤ 7301314; omega⟩ rfl dL_law_265 ?_
  refine k_icmp_ge C 327 (by decide) dL_law_268 (fun h => absurd h h268) (fun _ => ?_)
  refine k_aload_n C dL_law_271 10 rfl ?_
  refine k_iload C dL_law_272 0 rfl ?_
  refine k_iconst C 1 (by decide) dL_law_274 ?_
  refine k_callV_i C (mX2_told_01 l D cI cJ a0 a1 a2 a3 a4 a5 a6 X) (cwV 2 C.2.2.2.2.1 (kGV q244 q245 q246 q35 q247) rfl rfl rfl ⟨rfl, hdX2_told⟩ ⟨Nat.le_of_ble_eq_true rfl, Nat.le_of_ble_eq_true rfl⟩) [0, 1, 2, 3, 4, 5, 6] [7, 8, 9, 10] [4, 5, 6, 7, 8, 9, 10, 0, 1, 2, 3] [(z0, cZ .null z1 Z.2.2), (z1, cQ cJ z2 z3), (z2, cA4 cI Z.1), (z3, cA4 cI Z.2.1)] ([(a0, cF a1 a2 a3 a4 a5 a6 X.2.2.2.2.2.2), (a1, cS X.1), (a2, cS X.2.1), (a3, cB X.2.2.1), (a4, cB X.2.2.2.1), (a5, cB X.2.2.2.2.1), (a6, cB X.2.2.2.2.2.1), (z0, cZ .null z1 Z.2.2), (z1, cQ cJ z2 z3), (z2, cA4 cI Z.1), (z3, cA4 cI Z.2.1)]) rfl rfl rfl rfl (by decide) [a0, a1, a2, a3, a4, a5, a6] rfl rfl rfl rfl 0 2 rfl rfl rfl (Nat.le_of_ble_eq_true rfl) ⟨by show _ ≤ 600104; omega, by show _ ≤ 7301314; omega⟩ rfl dL_law_275 ?_
  refine k_if_lt C 327 (by decide) dL_law_278 (fun h => absurd h h278) (fun _ => ?_)
  refine k_aload_n C dL_law_281 10 rfl ?_
  refine k_iload C dL_law_282 0 rfl ?_
  refine k_iconst C 1 (by decide) dL_law_284 ?_
  refine k_callV_i C (mX2_told_01 l D cI cJ a0 a1 a2 a3 a4 a5 a6 X) (cwV 2 C.2.2.2.2.1 (kGV q244 q245 q246 q35 q247) rfl rfl rfl ⟨rfl, hdX2_told⟩ ⟨Nat.le_of_ble_eq_true rfl, Nat.le_of_ble_eq_true rfl⟩) [0, 1, 2, 3, 4, 5, 6] [7, 8, 9, 10] [4, 5, 6, 7, 8, 9, 10, 0, 1, 2, 3] [(z0, cZ .null z1 Z.2.2), (z1, cQ cJ z2 z3), (z2, cA4 cI Z.1), (z3, cA4 cI Z.2.1)] ([(a0, cF a1 a2 a3 a4 a5 a6 X.2.2.2.2.2.2), (a1, cS X.1), (a2, cS X.2.1), (a3, cB X.2.2.1), (a4, cB X.2.2.2.1), (a5, cB X.2.2.2.2.1), (a6, cB X.2.2.2.2.2.1), (z0, cZ .null z1 Z.2.2), (z1, cQ cJ z2 z3), (z2, cA4 cI Z.1), (z3, cA4 cI Z.2.1)]) rfl rfl rfl rfl (by decide) [a0, a1, a2, a3, a4, a5, a6] rfl rfl rfl rfl 0 2 rfl rfl rfl (Nat.le_of_ble_eq_true rfl) ⟨by show _ ≤ 600104; omega, by show _ ≤ 7301314; omega⟩ rfl dL_law_285 ?_
  refine k_iconst C 3 (by decide) dL_law_288 ?_
  refine k_icmp_gt C 327 (by decide) dL_law_289 (fun h => absurd h h289) (fun _ => ?_)
  refine k_aload_n C dL_law_292 10 rfl ?_
  refine k_bipush C 7 (by decide) dL_law_293 ?_
  refine k_callV_i C (mX2_count_7 l D cI cJ a0 a1 a2 a3 a4 a5 a6 X) (cwV 1 C.2.2.2.2.1 (kGV q260 q261 q262 q35 q263) rfl rfl rfl ⟨rfl, hdX2_count⟩ ⟨Nat.le_of_ble_eq_true rfl, Nat.le_of_ble_eq_true rfl⟩) [0, 1, 2, 3, 4, 5, 6] [7, 8, 9, 10] [4, 5, 6, 7, 8, 9, 10, 0, 1, 2, 3] [(z0, cZ .null z1 Z.2.2), (z1, cQ cJ z2 z3), (z2, cA4 cI Z.1), (z3, cA4 cI Z.2.1)] ([(a0, cF a1 a2 a3 a4 a5 a6 X.2.2.2.2.2.2), (a1, cS X.1), (a2, cS X.2.1), (a3, cB X.2.2.1), (a4, cB X.2.2.2.1), (a5, cB X.2.2.2.2.1), (a6, cB X.2.2.2.2.2.1), (z0, cZ .null z1 Z.2.2), (z1, cQ cJ z2 z3), (z2, cA4 cI Z.1), (z3, cA4 cI Z.2.1)]) rfl rfl rfl rfl (by decide) [a0, a1, a2, a3, a4, a5, a6] rfl rfl rfl rfl 0 2 rfl rfl rfl (Nat.le_of_ble_eq_true rfl) ⟨by show _ ≤ 600104; omega, by show _ ≤ 7301314; omega⟩ rfl dL_law_295 ?_
  refine k_iload C dL_law_298 0 rfl ?_
  refine k_icmp_ne C 307 (by decide) dL_law_300 (fun c1 => ?_) (fun c1 => ?_)
  ·
    refine k_iconst C 0 (by decide) dL_law_307 ?_
    refine k_aload_n C dL_law_308 10 rfl ?_
    refine k_iload C dL_law_309 0 rfl ?_
    refine k_iconst C 1 (by decide) dL_law_311 ?_
    refine k_callV_i C (mX2_told_01 l D cI cJ a0 a1 a2 a3 a4 a5 a6 X) (cwV 2 C.2.2.2.2.1 (kGV q244 q245 q246 q35 q247) rfl rfl rfl ⟨rfl, hdX2_told⟩ ⟨Nat.le_of_ble_eq_true rfl, Nat.le_of_ble_eq_true rfl⟩) [0, 1, 2, 3, 4, 5, 6] [7, 8, 9, 10] [4, 5, 6, 7, 8, 9, 10, 0, 1, 2, 3] [(z0, cZ .null z1 Z.2.2), (z1, cQ cJ z2 z3), (z2, cA4 cI Z.1), (z3, cA4 cI Z.2.1)] ([(a0, cF a1 a2 a3 a4 a5 a6 X.2.2.2.2.2.2), (a1, cS X.1), (a2, cS X.2.1), (a3, cB X.2.2.1), (a4, cB X.2.2.2.1), (a5, cB X.2.2.2.2.1), (a6, cB X.2.2.2.2.2.1), (z0, cZ .null z1 Z.2.2), (z1, cQ cJ z2 z3), (z2, cA4 cI Z.1), (z3, cA4 cI Z.2.1)]) rfl rfl rfl rfl (by decide) [a0, a1, a2, a3, a4, a5, a6] rfl rfl rfl rfl 0 2 rfl rfl rfl (Nat.le_of_ble_eq_true rfl) ⟨by show _ ≤ 600104; omega, by show _ ≤ 7301314; omega⟩ rfl dL_law_312 ?_
    refine k_iconst C 3 (by decide) dL_law_315 ?_
    refine k_icmp_ne C 323 (by decide) dL_law_316 (fun _ => ?_) (fun h => absurd h (fun h9 => c1 (hW0.mpr h9)))
    refine k_iconst C 0 (by decide) dL_law_323 ?_
    refine k_icmp_eq C 329 (by decide) dL_law_324 (fun _ => ?_) (fun h => absurd (by decide) h)
    refine k_iinc C 1 [(13, .int 1), (3, .int ia), (11, .long dg), (10, .int nw), (9, .int pl), (8, .int tn), (7, .int st), (6, .int hd), (5, .int x), (0, .ref sc), (1, .ref a0), (2, .ref z0), (4, .int ti)] 0 rfl (by decide) (by decide) rfl dL_law_329 ?_
    refine k_goto C 240 (by decide) dL_law_332 ?_
    refine k_iload C dL_law_240 0 rfl ?_
    refine k_iconst C 2 (by decide) dL_law_242 ?_
    refine k_icmp_ge C 335 (by decide) dL_law_243 (fun h => absurd h (by decide)) (fun _ => ?_)
    refine k_aload_n C dL_law_246 10 rfl ?_
    refine k_iload C dL_law_247 0 rfl ?_
    refine k_iconst C 0 (by decide) dL_law_249 ?_
    refine k_callV_i C (mX2_told_10 l D cI cJ a0 a1 a2 a3 a4 a5 a6 X) (cwV 2 C.2.2.2.2.1 (kGV q244 q245 q246 q35 q247) rfl rfl rfl ⟨rfl, hdX2_told⟩ ⟨Nat.le_of_ble_eq_true rfl, Nat.le_of_ble_eq_true rfl⟩) [0, 1, 2, 3, 4, 5, 6] [7, 8, 9, 10] [4, 5, 6, 7, 8, 9, 10, 0, 1, 2, 3] [(z0, cZ .null z1 Z.2.2), (z1, cQ cJ z2 z3), (z2, cA4 cI Z.1), (z3, cA4 cI Z.2.1)] ([(a0, cF a1 a2 a3 a4 a5 a6 X.2.2.2.2.2.2), (a1, cS X.1), (a2, cS X.2.1), (a3, cB X.2.2.1), (a4, cB X.2.2.2.1), (a5, cB X.2.2.2.2.1), (a6, cB X.2.2.2.2.2.1), (z0, cZ .null z1 Z.2.2), (z1, cQ cJ z2 z3), (z2, cA4 cI Z.1), (z3, cA4 cI Z.2.1)]) rfl rfl rfl rfl (by decide) [a0, a1, a2, a3, a4, a5, a6] rfl rfl rfl rfl 0 2 rfl rfl rfl (Nat.le_of_ble_eq_true rfl) ⟨by show _ ≤ 600104; omega, by show _ ≤ 7301314; omega⟩ rfl dL_law_250 ?_
    refine k_if_lt C 327 (by decide) dL_law_253 (fun h => absurd h h253') (fun _ => ?_)
    refine k_aload_n C dL_law_256 10 rfl ?_
    refine k_iload C dL_law_257 0 rfl ?_
    refine k_iconst C 0 (by decide) dL_law_259 ?_
    refine k_callV_i C (mX2_told_10 l D cI cJ a0 a1 a2 a3 a4 a5 a6 X) (cwV 2 C.2.2.2.2.1 (kGV q244 q245 q246 q35 q247) rfl rfl rfl ⟨rfl, hdX2_told⟩ ⟨Nat.le_of_ble_eq_true rfl, Nat.le_of_ble_eq_true rfl⟩) [0, 1, 2, 3, 4, 5, 6] [7, 8, 9, 10] [4, 5, 6, 7, 8, 9, 10, 0, 1, 2, 3] [(z0, cZ .null z1 Z.2.2), (z1, cQ cJ z2 z3), (z2, cA4 cI Z.1), (z3, cA4 cI Z.2.1)] ([(a0, cF a1 a2 a3 a4 a5 a6 X.2.2.2.2.2.2), (a1, cS X.1), (a2, cS X.2.1), (a3, cB X.2.2.1), (a4, cB X.2.2.2.1), (a5, cB X.2.2.2.2.1), (a6, cB X.2.2.2.2.2.1), (z0, cZ .null z1 Z.2.2), (z1, cQ cJ z2 z3), (z2, cA4 cI Z.1), (z3, cA4 cI Z.2.1)]) rfl rfl rfl rfl (by decide) [a0, a1, a2, a3, a4, a5, a6] rfl rfl rfl rfl 0 2 rfl rfl rfl (Nat.le_of_ble_eq_true rfl) ⟨by show _ ≤ 600104; omega, by show _ ≤ 7301314; omega⟩ rfl dL_law_260 ?_
    refine k_aload_n C dL_law_263 10 rfl ?_
    refine k_iconst C 5 (by decide) dL_law_264 ?_
    refine k_callV_i C (mX2_count_5 l D cI cJ a0 a1 a2 a3 a4 a5 a6 X) (cwV 1 C.2.2.2.2.1 (kGV q260 q261 q262 q35 q263) rfl rfl rfl ⟨rfl, hdX2_count⟩ ⟨Nat.le_of_ble_eq_true rfl, Nat.le_of_ble_eq_true rfl⟩) [0, 1, 2, 3, 4, 5, 6] [7, 8, 9, 10] [4, 5, 6, 7, 8, 9, 10, 0, 1, 2, 3] [(z0, cZ .null z1 Z.2.2), (z1, cQ cJ z2 z3), (z2, cA4 cI Z.1), (z3, cA4 cI Z.2.1)] ([(a0, cF a1 a2 a3 a4 a5 a6 X.2.2.2.2.2.2), (a1, cS X.1), (a2, cS X.2.1), (a3, cB X.2.2.1), (a4, cB X.2.2.2.1), (a5, cB X.2.2.2.2.1), (a6, cB X.2.2.2.2.2.1), (z0, cZ .null z1 Z.2.2), (z1, cQ cJ z2 z3), (z2, cA4 cI Z.1), (z3, cA4 cI Z.2.1)]) rfl rfl rfl rfl (by decide) [a0, a1, a2, a3, a4, a5, a6] rfl rfl rfl rfl 0 2 rfl rfl rfl (Nat.le_of_ble_eq_true rfl) ⟨by show _ ≤ 600104; omega, by show _ ≤ 7301314; omega⟩ rfl dL_law_265 ?_
    refine k_icmp_ge C 327 (by decide) dL_law_268 (fun h => absurd h h268') (fun _ => ?_)
    refine k_aload_n C dL_law_271 10 rfl ?_
    refine k_iload C dL_law_272 0 rfl ?_
    refine k_iconst C 1 (by decide) dL_law_274 ?_
    refine k_callV_i C (mX2_told_11 l D cI cJ a0 a1 a2 a3 a4 a5 a6 X) (cwV 2 C.2.2.2.2.1 (kGV q244 q245 q246 q35 q247) rfl rfl rfl ⟨rfl, hdX2_told⟩ ⟨Nat.le_of_ble_eq_true rfl, Nat.le_of_ble_eq_true rfl⟩) [0, 1, 2, 3, 4, 5, 6] [7, 8, 9, 10] [4, 5, 6, 7, 8, 9, 10, 0, 1, 2, 3] [(z0, cZ .null z1 Z.2.2), (z1, cQ cJ z2 z3), (z2, cA4 cI Z.1), (z3, cA4 cI Z.2.1)] ([(a0, cF a1 a2 a3 a4 a5 a6 X.2.2.2.2.2.2), (a1, cS X.1), (a2, cS X.2.1), (a3, cB X.2.2.1), (a4, cB X.2.2.2.1), (a5, cB X.2.2.2.2.1), (a6, cB X.2.2.2.2.2.1), (z0, cZ .null z1 Z.2.2), (z1, cQ cJ z2 z3), (z2, cA4 cI Z.1), (z3, cA4 cI Z.2.1)]) rfl rfl rfl rfl (by decide) [a0, a1, a2, a3, a4, a5, a6] rfl rfl rfl rfl 0 2 rfl rfl rfl (Nat.le_of_ble_eq_true rfl) ⟨by show _ ≤ 600104; omega, by show _ ≤ 7301314; omega⟩ rfl dL_law_275 ?_
    refine k_if_lt C 327 (by decide) dL_law_278 (fun h => absurd h h278') (fun _ => ?_)
    refine k_aload_n C dL_law_281 10 rfl ?_
    refine k_iload C dL_law_282 0 rfl ?_
    refine k_iconst C 1 (by decide) dL_law_284 ?_
    refine k_callV_i C (mX2_told_11 l D cI cJ a0 a1 a2 a3 a4 a5 a6 X) (cwV 2 C.2.2.2.2.1 (kGV q244 q245 q246 q35 q247) rfl rfl rfl ⟨rfl, hdX2_told⟩ ⟨Nat.le_of_ble_eq_true rfl, Nat.le_of_ble_eq_true rfl⟩) [0, 1, 2, 3, 4, 5, 6] [7, 8, 9, 10] [4, 5, 6, 7, 8, 9, 10, 0, 1, 2, 3] [(z0, cZ .null z1 Z.2.2), (z1, cQ cJ z2 z3), (z2, cA4 cI Z.1), (z3, cA4 cI Z.2.1)] ([(a0, cF a1 a2 a3 a4 a5 a6 X.2.2.2.2.2.2), (a1, cS X.1), (a2, cS X.2.1), (a3, cB X.2.2.1), (a4, cB X.2.2.2.1), (a5, cB X.2.2.2.2.1), (a6, cB X.2.2.2.2.2.1), (z0, cZ .null z1 Z.2.2), (z1, cQ cJ z2 z3), (z2, cA4 cI Z.1), (z3, cA4 cI Z.2.1)]) rfl rfl rfl rfl (by decide) [a0, a1, a2, a3, a4, a5, a6] rfl rfl rfl rfl 0 2 rfl rfl rfl (Nat.le_of_ble_eq_true rfl) ⟨by show _ ≤ 600104; omega, by show _ ≤ 7301314; omega⟩ rfl dL_law_285 ?_
    refine k_iconst C 3 (by decide) dL_law_288 ?_
    refine k_icmp_gt C 327 (by decide) dL_law_289 (fun h => absurd h h289') (fun _ => ?_)
    refine k_aload_n C dL_law_292 10 rfl ?_
    refine k_bipush C 7 (by decide) dL_law_293 ?_
    refine k_callV_i C (mX2_count_7 l D cI cJ a0 a1 a2 a3 a4 a5 a6 X) (cwV 1 C.2.2.2.2.1 (kGV q260 q261 q262 q35 q263) rfl rfl rfl ⟨rfl, hdX2_count⟩ ⟨Nat.le_of_ble_eq_true rfl, Nat.le_of_ble_eq_true rfl⟩) [0, 1, 2, 3, 4, 5, 6] [7, 8, 9, 10] [4, 5, 6, 7, 8, 9, 10, 0, 1, 2, 3] [(z0, cZ .null z1 Z.2.2), (z1, cQ cJ z2 z3), (z2, cA4 cI Z.1), (z3, cA4 cI Z.2.1)] ([(a0, cF a1 a2 a3 a4 a5 a6 X.2.2.2.2.2.2), (a1, cS X.1), (a2, cS X.2.1), (a3, cB X.2.2.1), (a4, cB X.2.2.2.1), (a5, cB X.2.2.2.2.1), (a6, cB X.2.2.2.2.2.1), (z0, cZ .null z1 Z.2.2), (z1, cQ cJ z2 z3), (z2, cA4 cI Z.1), (z3, cA4 cI Z.2.1)]) rfl rfl rfl rfl (by decide) [a0, a1, a2, a3, a4, a5, a6] rfl rfl rfl rfl 0 2 rfl rfl rfl (Nat.le_of_ble_eq_true rfl) ⟨by show _ ≤ 600104; omega, by show _ ≤ 7301314; omega⟩ rfl dL_law_295 ?_
    refine k_iload C dL_law_298 0 rfl ?_
    refine k_icmp_ne C 307 (by decide) dL_law_300 (fun c2 => ?_) (fun c2 => ?_)
    ·
      refine k_iconst C 0 (by decide) dL_law_307 ?_
      refine k_aload_n C dL_law_308 10 rfl ?_
      refine k_iload C dL_law_309 0 rfl ?_
      refine k_iconst C 1 (by decide) dL_law_311 ?_
      refine k_callV_i C (mX2_told_11 l D cI cJ a0 a1 a2 a3 a4 a5 a6 X) (cwV 2 C.2.2.2.2.1 (kGV q244 q245 q246 q35 q247) rfl rfl rfl ⟨rfl, hdX2_told⟩ ⟨Nat.le_of_ble_eq_true rfl, Nat.le_of_ble_eq_true rfl⟩) [0, 1, 2, 3, 4, 5, 6] [7, 8, 9, 10] [4, 5, 6, 7, 8, 9, 10, 0, 1, 2, 3] [(z0, cZ .null z1 Z.2.2), (z1, cQ cJ z2 z3), (z2, cA4 cI Z.1), (z3, cA4 cI Z.2.1)] ([(a0, cF a1 a2 a3 a4 a5 a6 X.2.2.2.2.2.2), (a1, cS X.1), (a2, cS X.2.1), (a3, cB X.2.2.1), (a4, cB X.2.2.2.1), (a5, cB X.2.2.2.2.1), (a6, cB X.2.2.2.2.2.1), (z0, cZ .null z1 Z.2.2), (z1, cQ cJ z2 z3), (z2, cA4 cI Z.1), (z3, cA4 cI Z.2.1)]) rfl rfl rfl rfl (by decide) [a0, a1, a2, a3, a4, a5, a6] rfl rfl rfl rfl 0 2 rfl rfl rfl (Nat.le_of_ble_eq_true rfl) ⟨by show _ ≤ 600104; omega, by show _ ≤ 7301314; omega⟩ rfl dL_law_312 ?_
      refine k_iconst C 3 (by decide) dL_law_315 ?_
      refine k_icmp_ne C 323 (by decide) dL_law_316 (fun _ => ?_) (fun h => absurd h (fun h9 => c2 (hW1.mpr h9)))
      refine k_iconst C 0 (by decide) dL_law_323 ?_
      refine k_icmp_eq C 329 (by decide) dL_law_324 (fun _ => ?_) (fun h => absurd (by decide) h)
      refine k_iinc C 2 [(13, .int 2), (3, .int ia), (11, .long dg), (10, .int nw), (9, .int pl), (8, .int tn), (7, .int st), (6, .int hd), (5, .int x), (0, .ref sc), (1, .ref a0), (2, .ref z0), (4, .int ti)] 0 rfl (by decide) (by decide) rfl dL_law_329 ?_
      refine k_goto C 240 (by decide) dL_law_332 ?_
      refine k_iload C dL_law_240 0 rfl ?_
      refine k_iconst C 2 (by decide) dL_law_242 ?_
      refine k_icmp_ge C 335 (by decide) dL_law_243 (fun _ => ?_) (fun h => absurd (by decide) h)
      refine k_widen (k' := K + 0) (n' := N + 0) (by omega) (by omega) ?_
      refine k_sub [1, 2, 3, 4, 5, 6, 7, 8, 9, 10, 11, 12] rfl ?_
      exact kk
    ·
      refine k_iconst C 1 (by decide) dL_law_303 ?_
      refine k_goto C 308 (by decide) dL_law_304 ?_
      refine k_aload_n C dL_law_308 10 rfl ?_
      refine k_iload C dL_law_309 0 rfl ?_
      refine k_iconst C 1 (by decide) dL_law_311 ?_
      refine k_callV_i C (mX2_told_11 l D cI cJ a0 a1 a2 a3 a4 a5 a6 X) (cwV 2 C.2.2.2.2.1 (kGV q244 q245 q246 q35 q247) rfl rfl rfl ⟨rfl, hdX2_told⟩ ⟨Nat.le_of_ble_eq_true rfl, Nat.le_of_ble_eq_true rfl⟩) [0, 1, 2, 3, 4, 5, 6] [7, 8, 9, 10] [4, 5, 6, 7, 8, 9, 10, 0, 1, 2, 3] [(z0, cZ .null z1 Z.2.2), (z1, cQ cJ z2 z3), (z2, cA4 cI Z.1), (z3, cA4 cI Z.2.1)] ([(a0, cF a1 a2 a3 a4 a5 a6 X.2.2.2.2.2.2), (a1, cS X.1), (a2, cS X.2.1), (a3, cB X.2.2.1), (a4, cB X.2.2.2.1), (a5, cB X.2.2.2.2.1), (a6, cB X.2.2.2.2.2.1), (z0, cZ .null z1 Z.2.2), (z1, cQ cJ z2 z3), (z2, cA4 cI Z.1), (z3, cA4 cI Z.2.1)]) rfl rfl rfl rfl (by decide) [a0, a1, a2, a3, a4, a5, a6] rfl rfl rfl rfl 0 2 rfl rfl rfl (Nat.le_of_ble_eq_true rfl) ⟨by show _ ≤ 600104; omega, by show _ ≤ 7301314; omega⟩ rfl dL_law_312 ?_
      refine k_iconst C 3 (by decide) dL_law_315 ?_
      refine k_icmp_ne C 323 (by decide) dL_law_316 (fun h => absurd (hW1.mp c2) h) (fun _ => ?_)
      refine k_iconst C 1 (by decide) dL_law_319 ?_
      refine k_goto C 324 (by decide) dL_law_320 ?_
      refine k_icmp_eq C 329 (by decide) dL_law_324 (fun _ => ?_) (fun h => absurd (by decide) h)
      refine k_iinc C 2 [(13, .int 2), (3, .int ia), (11, .long dg), (10, .int nw), (9, .int pl), (8, .int tn), (7, .int st), (6, .int hd), (5, .int x), (0, .ref sc), (1, .ref a0), (2, .ref z0), (4, .int ti)] 0 rfl (by decide) (by decide) rfl dL_law_329 ?_
      refine k_goto C 240 (by decide) dL_law_332 ?_
      refine k_iload C dL_law_240 0 rfl ?_
      refine k_iconst C 2 (by decide) dL_law_242 ?_
      refine k_icmp_ge C 335 (by decide) dL_law_243 (fun _ => ?_) (fun h => absurd (by decide) h)
      refine k_widen (k' := K + 0) (n' := N + 0) (by omega) (by omega) ?_
      refine k_sub [1, 2, 3, 4, 5, 6, 7, 8, 9, 10, 11, 12] rfl ?_
      exact kk
  ·
    refine k_iconst C 1 (by decide) dL_law_303 ?_
    refine k_goto C 308 (by decide) dL_law_304 ?_
    refine k_aload_n C dL_law_308 10 rfl ?_
    refine k_iload C dL_law_309 0 rfl ?_
    refine k_iconst C 1 (by decide) dL_law_311 ?_
    refine k_callV_i C (mX2_told_01 l D cI cJ a0 a1 a2 a3 a4 a5 a6 X) (cwV 2 C.2.2.2.2.1 (kGV q244 q245 q246 q35 q247) rfl rfl rfl ⟨rfl, hdX2_told⟩ ⟨Nat.le_of_ble_eq_true rfl, Nat.le_of_ble_eq_true rfl⟩) [0, 1, 2, 3, 4, 5, 6] [7, 8, 9, 10] [4, 5, 6, 7, 8, 9, 10, 0, 1, 2, 3] [(z0, cZ .null z1 Z.2.2), (z1, cQ cJ z2 z3), (z2, cA4 cI Z.1), (z3, cA4 cI Z.2.1)] ([(a0, cF a1 a2 a3 a4 a5 a6 X.2.2.2.2.2.2), (a1, cS X.1), (a2, cS X.2.1), (a3, cB X.2.2.1), (a4, cB X.2.2.2.1), (a5, cB X.2.2.2.2.1), (a6, cB X.2.2.2.2.2.1), (z0, cZ .null z1 Z.2.2), (z1, cQ cJ z2 z3), (z2, cA4 cI Z.1), (z3, cA4 cI Z.2.1)]) rfl rfl rfl rfl (by decide) [a0, a1, a2, a3, a4, a5, a6] rfl rfl rfl rfl 0 2 rfl rfl rfl (Nat.le_of_ble_eq_true rfl) ⟨by show _ ≤ 600104; omega, by show _ ≤ 7301314; omega⟩ rfl dL_law_312 ?_
    refine k_iconst C 3 (by decide) dL_law_315 ?_
    refine k_icmp_ne C 323 (by decide) dL_law_316 (fun h => absurd (hW0.mp c1) h) (fun _ => ?_)
    refine k_iconst C 1 (by decide) dL_law_319 ?_
    refine k_goto C 324 (by decide) dL_law_320 ?_
    refine k_icmp_eq C 329 (by decide) dL_law_324 (fun _ => ?_) (fun h => absurd (by decide) h)
    refine k_iinc C 1 [(13, .int 1), (3, .int ia), (11, .long dg), (10, .int nw), (9, .int pl), (8, .int tn), (7, .int st), (6, .int hd), (5, .int x), (0, .ref sc), (1, .ref a0), (2, .ref z0), (4, .int ti)] 0 rfl (by decide) (by decide) rfl dL_law_329 ?_
    refine k_goto C 240 (by decide) dL_law_332 ?_
    refine k_iload C dL_law_240 0 rfl ?_
    refine k_iconst C 2 (by decide) dL_law_242 ?_
    refine k_icmp_ge C 335 (by decide) dL_law_243 (fun h => absurd h (by decide)) (fun _ => ?_)
    refine k_aload_n C dL_law_246 10 rfl ?_
    refine k_iload C dL_law_247 0 rfl ?_
    refine k_iconst C 0 (by decide) dL_law_249 ?_
    refine k_callV_i C (mX2_told_10 l D cI cJ a0 a1 a2 a3 a4 a5 a6 X) (cwV 2 C.2.2.2.2.1 (kGV q244 q245 q246 q35 q247) rfl rfl rfl ⟨rfl, hdX2_told⟩ ⟨Nat.le_of_ble_eq_true rfl, Nat.le_of_ble_eq_true rfl⟩) [0, 1, 2, 3, 4, 5, 6] [7, 8, 9, 10] [4, 5, 6, 7, 8, 9, 10, 0, 1, 2, 3] [(z0, cZ .null z1 Z.2.2), (z1, cQ cJ z2 z3), (z2, cA4 cI Z.1), (z3, cA4 cI Z.2.1)] ([(a0, cF a1 a2 a3 a4 a5 a6 X.2.2.2.2.2.2), (a1, cS X.1), (a2, cS X.2.1), (a3, cB X.2.2.1), (a4, cB X.2.2.2.1), (a5, cB X.2.2.2.2.1), (a6, cB X.2.2.2.2.2.1), (z0, cZ .null z1 Z.2.2), (z1, cQ cJ z2 z3), (z2, cA4 cI Z.1), (z3, cA4 cI Z.2.1)]) rfl rfl rfl rfl (by decide) [a0, a1, a2, a3, a4, a5, a6] rfl rfl rfl rfl 0 2 rfl rfl rfl (Nat.le_of_ble_eq_true rfl) ⟨by show _ ≤ 600104; omega, by show _ ≤ 7301314; omega⟩ rfl dL_law_250 ?_
    refine k_if_lt C 327 (by decide) dL_law_253 (fun h => absurd h h253') (fun _ => ?_)
    refine k_aload_n C dL_law_256 10 rfl ?_
    refine k_iload C dL_law_257 0 rfl ?_
    refine k_iconst C 0 (by decide) dL_law_259 ?_
    refine k_callV_i C (mX2_told_10 l D cI cJ a0 a1 a2 a3 a4 a5 a6 X) (cwV 2 C.2.2.2.2.1 (kGV q244 q245 q246 q35 q247) rfl rfl rfl ⟨rfl, hdX2_told⟩ ⟨Nat.le_of_ble_eq_true rfl, Nat.le_of_ble_eq_true rfl⟩) [0, 1, 2, 3, 4, 5, 6] [7, 8, 9, 10] [4, 5, 6, 7, 8, 9, 10, 0, 1, 2, 3] [(z0, cZ .null z1 Z.2.2), (z1, cQ cJ z2 z3), (z2, cA4 cI Z.1), (z3, cA4 cI Z.2.1)] ([(a0, cF a1 a2 a3 a4 a5 a6 X.2.2.2.2.2.2), (a1, cS X.1), (a2, cS X.2.1), (a3, cB X.2.2.1), (a4, cB X.2.2.2.1), (a5, cB X.2.2.2.2.1), (a6, cB X.2.2.2.2.2.1), (z0, cZ .null z1 Z.2.2), (z1, cQ cJ z2 z3), (z2, cA4 cI Z.1), (z3, cA4 cI Z.2.1)]) rfl rfl rfl rfl (by decide) [a0, a1, a2, a3, a4, a5, a6] rfl rfl rfl rfl 0 2 rfl rfl rfl (Nat.le_of_ble_eq_true rfl) ⟨by show _ ≤ 600104; omega, by show _ ≤ 7301314; omega⟩ rfl dL_law_260 ?_
    refine k_aload_n C dL_law_263 10 rfl ?_
    refine k_iconst C 5 (by decide) dL_law_264 ?_
    refine k_callV_i C (mX2_count_5 l D cI cJ a0 a1 a2 a3 a4 a5 a6 X) (cwV 1 C.2.2.2.2.1 (kGV q260 q261 q262 q35 q263) rfl rfl rfl ⟨rfl, hdX2_count⟩ ⟨Nat.le_of_ble_eq_true rfl, Nat.le_of_ble_eq_true rfl⟩) [0, 1, 2, 3, 4, 5, 6] [7, 8, 9, 10] [4, 5, 6, 7, 8, 9, 10, 0, 1, 2, 3] [(z0, cZ .null z1 Z.2.2), (z1, cQ cJ z2 z3), (z2, cA4 cI Z.1), (z3, cA4 cI Z.2.1)] ([(a0, cF a1 a2 a3 a4 a5 a6 X.2.2.2.2.2.2), (a1, cS X.1), (a2, cS X.2.1), (a3, cB X.2.2.1), (a4, cB X.2.2.2.1), (a5, cB X.2.2.2.2.1), (a6, cB X.2.2.2.2.2.1), (z0, cZ .null z1 Z.2.2), (z1, cQ cJ z2 z3), (z2, cA4 cI Z.1), (z3, cA4 cI Z.2.1)]) rfl rfl rfl rfl (by decide) [a0, a1, a2, a3, a4, a5, a6] rfl rfl rfl rfl 0 2 rfl rfl rfl (Nat.le_of_ble_eq_true rfl) ⟨by show _ ≤ 600104; omega, by show _ ≤ 7301314; omega⟩ rfl dL_law_265 ?_
    refine k_icmp_ge C 327 (by decide) dL_law_268 (fun h => absurd h h268') (fun _ => ?_)
    refine k_aload_n C dL_law_271 10 rfl ?_
    refine k_iload C dL_law_272 0 rfl ?_
    refine k_iconst C 1 (by decide) dL_law_274 ?_
    refine k_callV_i C (mX2_told_11 l D cI cJ a0 a1 a2 a3 a4 a5 a6 X) (cwV 2 C.2.2.2.2.1 (kGV q244 q245 q246 q35 q247) rfl rfl rfl ⟨rfl, hdX2_told⟩ ⟨Nat.le_of_ble_eq_true rfl, Nat.le_of_ble_eq_true rfl⟩) [0, 1, 2, 3, 4, 5, 6] [7, 8, 9, 10] [4, 5, 6, 7, 8, 9, 10, 0, 1, 2, 3] [(z0, cZ .null z1 Z.2.2), (z1, cQ cJ z2 z3), (z2, cA4 cI Z.1), (z3, cA4 cI Z.2.1)] ([(a0, cF a1 a2 a3 a4 a5 a6 X.2.2.2.2.2.2), (a1, cS X.1), (a2, cS X.2.1), (a3, cB X.2.2.1), (a4, cB X.2.2.2.1), (a5, cB X.2.2.2.2.1), (a6, cB X.2.2.2.2.2.1), (z0, cZ .null z1 Z.2.2), (z1, cQ cJ z2 z3), (z2, cA4 cI Z.1), (z3, cA4 cI Z.2.1)]) rfl rfl rfl rfl (by decide) [a0, a1, a2, a3, a4, a5, a6] rfl rfl rfl rfl 0 2 rfl rfl rfl (Nat.le_of_ble_eq_true rfl) ⟨by show _ ≤ 600104; omega, by show _ ≤ 7301314; omega⟩ rfl dL_law_275 ?_
    refine k_if_lt C 327 (by decide) dL_law_278 (fun h => absurd h h278') (fun _ => ?_)
    refine k_aload_n C dL_law_281 10 rfl ?_
    refine k_iload C dL_law_282 0 rfl ?_
    refine k_iconst C 1 (by decide) dL_law_284 ?_
    refine k_callV_i C (mX2_told_11 l D cI cJ a0 a1 a2 a3 a4 a5 a6 X) (cwV 2 C.2.2.2.2.1 (kGV q244 q245 q246 q35 q247) rfl rfl rfl ⟨rfl, hdX2_told⟩ ⟨Nat.le_of_ble_eq_true rfl, Nat.le_of_ble_eq_true rfl⟩) [0, 1, 2, 3, 4, 5, 6] [7, 8, 9, 10] [4, 5, 6, 7, 8, 9, 10, 0, 1, 2, 3] [(z0, cZ .null z1 Z.2.2), (z1, cQ cJ z2 z3), (z2, cA4 cI Z.1), (z3, cA4 cI Z.2.1)] ([(a0, cF a1 a2 a3 a4 a5 a6 X.2.2.2.2.2.2), (a1, cS X.1), (a2, cS X.2.1), (a3, cB X.2.2.1), (a4, cB X.2.2.2.1), (a5, cB X.2.2.2.2.1), (a6, cB X.2.2.2.2.2.1), (z0, cZ .null z1 Z.2.2), (z1, cQ cJ z2 z3), (z2, cA4 cI Z.1), (z3, cA4 cI Z.2.1)]) rfl rfl rfl rfl (by decide) [a0, a1, a2, a3, a4, a5, a6] rfl rfl rfl rfl 0 2 rfl rfl rfl (Nat.le_of_ble_eq_true rfl) ⟨by show _ ≤ 600104; omega, by show _ ≤ 7301314; omega⟩ rfl dL_law_285 ?_
    refine k_iconst C 3 (by decide) dL_law_288 ?_
    refine k_icmp_gt C 327 (by decide) dL_law_289 (fun h => absurd h h289') (fun _ => ?_)
    refine k_aload_n C dL_law_292 10 rfl ?_
    refine k_bipush C 7 (by decide) dL_law_293 ?_
    refine k_callV_i C (mX2_count_7 l D cI cJ a0 a1 a2 a3 a4 a5 a6 X) (cwV 1 C.2.2.2.2.1 (kGV q260 q261 q262 q35 q263) rfl rfl rfl ⟨rfl, hdX2_count⟩ ⟨Nat.le_of_ble_eq_true rfl, Nat.le_of_ble_eq_true rfl⟩) [0, 1, 2, 3, 4, 5, 6] [7, 8, 9, 10] [4, 5, 6, 7, 8, 9, 10, 0, 1, 2, 3] [(z0, cZ .null z1 Z.2.2), (z1, cQ cJ z2 z3), (z2, cA4 cI Z.1), (z3, cA4 cI Z.2.1)] ([(a0, cF a1 a2 a3 a4 a5 a6 X.2.2.2.2.2.2), (a1, cS X.1), (a2, cS X.2.1), (a3, cB X.2.2.1), (a4, cB X.2.2.2.1), (a5, cB X.2.2.2.2.1), (a6, cB X.2.2.2.2.2.1), (z0, cZ .null z1 Z.2.2), (z1, cQ cJ z2 z3), (z2, cA4 cI Z.1), (z3, cA4 cI Z.2.1)]) rfl rfl rfl rfl (by decide) [a0, a1, a2, a3, a4, a5, a6] rfl rfl rfl rfl 0 2 rfl rfl rfl (Nat.le_of_ble_eq_true rfl) ⟨by show _ ≤ 600104; omega, by show _ ≤ 7301314; omega⟩ rfl dL_law_295 ?_
    refine k_iload C dL_law_298 0 rfl ?_
    refine k_icmp_ne C 307 (by decide) dL_law_300 (fun c3 => ?_) (fun c3 => ?_)
    ·
      refine k_iconst C 0 (by decide) dL_law_307 ?_
      refine k_aload_n C dL_law_308 10 rfl ?_
      refine k_iload C dL_law_309 0 rfl ?_
      refine k_iconst C 1 (by decide) dL_law_311 ?_
      refine k_callV_i C (mX2_told_11 l D cI cJ a0 a1 a2 a3 a4 a5 a6 X) (cwV 2 C.2.2.2.2.1 (kGV q244 q245 q246 q35 q247) rfl rfl rfl ⟨rfl, hdX2_told⟩ ⟨Nat.le_of_ble_eq_true rfl, Nat.le_of_ble_eq_true rfl⟩) [0, 1, 2, 3, 4, 5, 6] [7, 8, 9, 10] [4, 5, 6, 7, 8, 9, 10, 0, 1, 2, 3] [(z0, cZ .null z1 Z.2.2), (z1, cQ cJ z2 z3), (z2, cA4 cI Z.1), (z3, cA4 cI Z.2.1)] ([(a0, cF a1 a2 a3 a4 a5 a6 X.2.2.2.2.2.2), (a1, cS X.1), (a2, cS X.2.1), (a3, cB X.2.2.1), (a4, cB X.2.2.2.1), (a5, cB X.2.2.2.2.1), (a6, cB X.2.2.2.2.2.1), (z0, cZ .null z1 Z.2.2), (z1, cQ cJ z2 z3), (z2, cA4 cI Z.1), (z3, cA4 cI Z.2.1)]) rfl rfl rfl rfl (by decide) [a0, a1, a2, a3, a4, a5, a6] rfl rfl rfl rfl 0 2 rfl rfl rfl (Nat.le_of_ble_eq_true rfl) ⟨by show _ ≤ 600104; omega, by show _ ≤ 7301314; omega⟩ rfl dL_law_312 ?_
      refine k_iconst C 3 (by decide) dL_law_315 ?_
      refine k_icmp_ne C 323 (by decide) dL_law_316 (fun _ => ?_) (fun h => absurd h (fun h9 => c3 (hW1.mpr h9)))
      refine k_iconst C 0 (by decide) dL_law_323 ?_
      refine k_icmp_eq C 329 (by decide) dL_law_324 (fun _ => ?_) (fun h => absurd (by decide) h)
      refine k_iinc C 2 [(13, .int 2), (3, .int ia), (11, .long dg), (10, .int nw), (9, .int pl), (8, .int tn), (7, .int st), (6, .int hd), (5, .int x), (0, .ref sc), (1, .ref a0), (2, .ref z0), (4, .int ti)] 0 rfl (by decide) (by decide) rfl dL_law_329 ?_
      refine k_goto C 240 (by decide) dL_law_332 ?_
      refine k_iload C dL_law_240 0 rfl ?_
      refine k_iconst C 2 (by decide) dL_law_242 ?_
      refine k_icmp_ge C 335 (by decide) dL_law_243 (fun _ => ?_) (fun h => absurd (by decide) h)
      refine k_widen (k' := K + 0) (n' := N + 0) (by omega) (by omega) ?_
      refine k_sub [1, 2, 3, 4, 5, 6, 7, 8, 9, 10, 11, 12] rfl ?_
      exact kk
    ·
      refine k_iconst C 1 (by decide) dL_law_303 ?_
      refine k_goto C 308 (by decide) dL_law_304 ?_
      refine k_aload_n C dL_law_308 10 rfl ?_
      refine k_iload C dL_law_309 0 rfl ?_
      refine k_iconst C 1 (by decide) dL_law_311 ?_
      refine k_callV_i C (mX2_told_11 l D cI cJ a0 a1 a2 a3 a4 a5 a6 X) (cwV 2 C.2.2.2.2.1 (kGV q244 q245 q246 q35 q247) rfl rfl rfl ⟨rfl, hdX2_told⟩ ⟨Nat.le_of_ble_eq_true rfl, Nat.le_of_ble_eq_true rfl⟩) [0, 1, 2, 3, 4, 5, 6] [7, 8, 9, 10] [4, 5, 6, 7, 8, 9, 10, 0, 1, 2, 3] [(z0, cZ .null z1 Z.2.2), (z1, cQ cJ z2 z3), (z2, cA4 cI Z.1), (z3, cA4 cI Z.2.1)] ([(a0, cF a1 a2 a3 a4 a5 a6 X.2.2.2.2.2.2), (a1, cS X.1), (a2, cS X.2.1), (a3, cB X.2.2.1), (a4, cB X.2.2.2.1), (a5, cB X.2.2.2.2.1), (a6, cB X.2.2.2.2.2.1), (z0, cZ .null z1 Z.2.2), (z1, cQ cJ z2 z3), (z2, cA4 cI Z.1), (z3, cA4 cI Z.2.1)]) rfl rfl rfl rfl (by decide) [a0, a1, a2, a3, a4, a5, a6] rfl rfl rfl rfl 0 2 rfl rfl rfl (Nat.le_of_ble_eq_true rfl) ⟨by show _ ≤ 600104; omega, by show _ ≤ 7301314; omega⟩ rfl dL_law_312 ?_
      refine k_iconst C 3 (by decide) dL_law_315 ?_
      refine k_icmp_ne C 323 (by decide) dL_law_316 (fun h => absurd (hW1.mp c3) h) (fun _ => ?_)
      refine k_iconst C 1 (by decide) dL_law_319 ?_
      refine k_goto C 324 (by decide) dL_law_320 ?_
      refine k_icmp_eq C 329 (by decide) dL_law_324 (fun _ => ?_) (fun h => absurd (by decide) h)
      refine k_iinc C 2 [(13, .int 2), (3, .int ia), (11, .long dg), (10, .int nw), (9, .int pl), (8, .int tn), (7, .int st), (6, .int hd), (5, .int x), (0, .ref sc), (1, .ref a0), (2, .ref z0), (4, .int ti)] 0 rfl (by decide) (by decide) rfl dL_law_329 ?_
      refine k_goto C 240 (by decide) dL_law_332 ?_
      refine k_iload C dL_law_240 0 rfl ?_
      refine k_iconst C 2 (by decide) dL_law_242 ?_
      refine k_icmp_ge C 335 (by decide) dL_law_243 (fun _ => ?_) (fun h => absurd (by decide) h)
      refine k_widen (k' := K + 0) (n' := N + 0) (by omega) (by omega) ?_
      refine k_sub [1, 2, 3, 4, 5, 6, 7, 8, 9, 10, 11, 12] rfl ?_
      exact kk
set_option maxHeartbeats 4000000 in
set_option maxRecDepth 100000 in
theorem S3_r {p : Program} {l : Launch} {e : Env} {s : State} {m : MethodId} {args : Array Value} {below : List Frame} {meth : Method} {c : Code} {D : va_G} {cI cJ : ClassId} {A : Nat → Prop} {Q : State → Prop} {a0 a1 a2 a3 a4 a5 a6 z0 z1 z2 z3 z4 sc : Nat} {b : Lb} {X : Co} {Z : Zs} {K N : Nat} (C : kCx p s m args meth c RL cL_law 23 ret D cI cJ A) (hK : K + 3000 ≤ 600104) (hN : N + 30000 ≤ 7301314)  {nw pl tn st hd x ia ti : Int32} {dg : Int64}  (hW0 : (fX2_count_7 X) = 0 ↔ (fX2_told_01 X) = 3) (hW1 : (fX2_count_7 X) = 1 ↔ (fX2_told_11 X) = 3) (h253 : ¬ ((fX2_told_00 X) < 0)) (h268 : ¬ ((fX2_count_5 X) ≤ (fX2_told_00 X))) (h278 : ¬ ((fX2_told_01 X) < 0)) (h289 : ¬ (3 < (fX2_told_01 X))) (h253' : ¬ ((fX2_told_10 X) < 0)) (h268' : ¬ ((fX2_count_5 X) ≤ (fX2_told_10 X))) (h278' : ¬ ((fX2_told_11 X) < 0)) (h289' : ¬ (3 < (fX2_told_11 X))) (kk : kW p l e room_1 s m args below meth c D A 23 (K + 0) (N + 0) Q [(a0, cF a1 a2 a3 a4 a5 a6 X.2.2.2.2.2.2), (a1, cS X.1), (a2, cS X.2.1), (a3, cB X.2.2.1), (a4, cB X.2.2.2.1), (a5, cB X.2.2.2.2.1), (a6, cB X.2.2.2.2.2.1), (z0, cZ (.ref z4) z1 Z.2.2), (z1, cQ cJ z2 z3), (z2, cA4 cI Z.1), (z3, cA4 cI Z.2.1), (z4, cL b)] 335 [(3, .int ia), (11, .long dg), (10, .int nw), (9, .int pl), (8, .int tn), (7, .int st), (6, .int hd), (5, .int x), (0, .ref sc), (1, .ref a0), (2, .ref z0), (4, .int ti)] []) : kW p l e room_1 s m args below meth c D A 23 K N Q [(a0, cF a1 a2 a3 a4 a5 a6 X.2.2.2.2.2.2), (a1, cS X.1), (a2, cS X.2.1), (a3, cB X.2.2.1), (a4, cB X.2.2.2.1), (a5, cB X.2.2.2.2.1), (a6, cB X.2.2.2.2.2.1), (z0, cZ (.ref z4) z1 Z.2.2), (z1, cQ cJ z2 z3), (z2, cA4 cI Z.1), (z3, cA4 cI Z.2.1), (z4, cL b)] 237 [(3, .int ia), (11, .long dg), (10, .int nw), (9, .int pl), (8, .int tn), (7, .int st), (6, .int hd), (5, .int x), (0, .ref sc), (1, .ref a0), (2, .ref z0), (4, .int ti)] [] := by
  refine k_iconst C 0 (by decide) dL_law_237 ?_
  refine k_istore C [(13, .int 0), (3, .int ia), (11, .long dg), (10, .int nw), (9, .int pl), (8, .int tn), (7, .int st), (6, .int hd), (5, .int x), (0, .ref sc), (1, .ref a0), (2, .ref z0), (4, .int ti)] (by decide) rfl dL_law_238 ?_
  refine k_iload C dL_law_240 0 rfl ?_
  refine k_iconst C 2 (by decide) dL_law_242 ?_
  refine k_icmp_ge C 335 (by decide) dL_law_243 (fun h => absurd h (by decide)) (fun _ => ?_)
  refine k_aload_n C dL_law_246 10 rfl ?_
  refine k_iload C dL_law_247 0 rfl ?_
  refine k_iconst C 0 (by decide) dL_law_249 ?_
  refine k_callV_i C (mX2_told_00 l D cI cJ a0 a1 a2 a3 a4 a5 a6 X) (cwV 2 C.2.2.2.2.1 (kGV q244 q245 q246 q35 q247) rfl rfl rfl ⟨rfl, hdX2_told⟩ ⟨Nat.le_of_ble_eq_true rfl, Nat.le_of_ble_eq_true rfl⟩) [0, 1, 2, 3, 4, 5, 6] [7, 8, 9, 10, 11] [5, 6, 7, 8, 9, 10, 11, 0, 1, 2, 3, 4] [(z0, cZ (.ref z4) z1 Z.2.2), (z1, cQ cJ z2 z3), (z2, cA4 cI Z.1), (z3, cA4 cI Z.2.1), (z4, cL b)] ([(a0, cF a1 a2 a3 a4 a5 a6 X.2.2.2.2.2.2), (a1, cS X.1), (a2, cS X.2.1), (a3, cB X.2.2.1), (a4, cB X.2.2.2.1), (a5, cB X.2.2.2.2.1), (a6, cB X.2.2.2.2.2.1), (z0, cZ (.ref z4) z1 Z.2.2), (z1, cQ cJ z2 z3), (z2, cA4 cI Z.1), (z3, cA4 cI Z.2.1), (z4, cL b)]) rfl rfl rfl rfl (by decide) [a0, a1, a2, a3, a4, a5, a6] rfl rfl rfl rfl 0 2 rfl rfl rfl (Nat.le_of_ble_eq_true rfl) ⟨by show _ ≤ 600104; omega, by show _ ≤ 7301314; omega⟩ rfl dL_law_250 ?_
  refine k_if_lt C 327 (by decide) dL_law_253 (fun h => absurd h h253) (fun _ => ?_)
  refine k_aload_n C dL_law_256 10 rfl ?_
  refine k_iload C dL_law_257 0 rfl ?_
  refine k_iconst C 0 (by decide) dL_law_259 ?_
  refine k_callV_i C (mX2_told_00 l D cI cJ a0 a1 a2 a3 a4 a5 a6 X) (cwV 2 C.2.2.2.2.1 (kGV q244 q245 q246 q35 q247) rfl rfl rfl ⟨rfl, hdX2_told⟩ ⟨Nat.le_of_ble_eq_true rfl, Nat.le_of_ble_eq_true rfl⟩) [0, 1, 2, 3, 4, 5, 6] [7, 8, 9, 10, 11] [5, 6, 7, 8, 9, 10, 11, 0, 1, 2, 3, 4] [(z0, cZ (.ref z4) z1 Z.2.2), (z1, cQ cJ z2 z3), (z2, cA4 cI Z.1), (z3, cA4 cI Z.2.1), (z4, cL b)] ([(a0, cF a1 a2 a3 a4 a5 a6 X.2.2.2.2.2.2), (a1, cS X.1), (a2, cS X.2.1), (a3, cB X.2.2.1), (a4, cB X.2.2.2.1), (a5, cB X.2.2.2.2.1), (a6, cB X.2.2.2.2.2.1), (z0, cZ (.ref z4) z1 Z.2.2), (z1, cQ cJ z2 z3), (z2, cA4 cI Z.1), (z3, cA4 cI Z.2.1), (z4, cL b)]) rfl rfl rfl rfl (by decide) [a0, a1, a2, a3, a4, a5, a6] rfl rfl rfl rfl 0 2 rfl rfl rfl (Nat.le_of_ble_eq_true rfl) ⟨by show _ ≤ 600104; omega, by show _ ≤ 7301314; omega⟩ rfl dL_law_260 ?_
  refine k_aload_n C dL_law_263 10 rfl ?_
  refine k_iconst C 5 (by decide) dL_law_264 ?_
  refine k_callV_i C (mX2_count_5 l D cI cJ a0 a1 a2 a3 a4 a5 a6 X) (cwV 1 C.2.2.2.2.1 (kGV q260 q261 q262 q35 q263) rfl rfl rfl ⟨rfl, hdX2_count⟩ ⟨Nat.le_of_ble_eq_true rfl, Nat.le_of_ble_eq_true rfl⟩) [0, 1, 2, 3, 4, 5, 6] [7, 8, 9, 10, 11] [5, 6, 7, 8, 9, 10, 11, 0, 1, 2, 3, 4] [(z0, cZ (.ref z4) z1 Z.2.2), (z1, cQ cJ z2 z3), (z2, cA4 cI Z.1), (z3, cA4 cI Z.2.1), (z4, cL b)] ([(a0, cF a1 a2 a3 a4 a5 a6 X.2.2.2.2.2.2), (a1, cS X.1), (a2, cS X.2.1), (a3, cB X.2.2.1), (a4, cB X.2.2.2.1), (a5, cB X.2.2.2.2.1), (a6, cB X.2.2.2.2.2.1), (z0, cZ (.ref z4) z1 Z.2.2), (z1, cQ cJ z2 z3), (z2, cA4 cI Z.1), (z3, cA4 cI Z.2.1), (z4, cL b)]) rfl rfl rfl rfl (by decide) [a0, a1, a2, a3, a4, a5, a6] rfl rfl rfl rfl 0 2 rfl rfl rfl (Nat.le_of_ble_eq_true rfl) ⟨by show _ ≤ 600104; omega, by show _ ≤ 7301314; omega⟩ rfl dL_law_265 ?_
  refine k_icmp_ge C 327 (by decide) dL_law_268 (fun h => absurd h h268) (fun _ => ?_)
  refine k_aload_n C dL_law_271 10 rfl ?_
  refine k_iload C dL_law_272 0 rfl ?_
  refine k_iconst C 1 (by decide) dL_law_274 ?_
  refine k_callV_i C (mX2_told_01 l D cI cJ a0 a1 a2 a3 a4 a5 a6 X) (cwV 2 C.2.2.2.2.1 (kGV q244 q245 q246 q35 q247) rfl rfl rfl ⟨rfl, hdX2_told⟩ ⟨Nat.le_of_ble_eq_true rfl, Nat.le_of_ble_eq_true rfl⟩) [0, 1, 2, 3, 4, 5, 6] [7, 8, 9, 10, 11] [5, 6, 7, 8, 9, 10, 11, 0, 1, 2, 3, 4] [(z0, cZ (.ref z4) z1 Z.2.2), (z1, cQ cJ z2 z3), (z2, cA4 cI Z.1), (z3, cA4 cI Z.2.1), (z4, cL b)] ([(a0, cF a1 a2 a3 a4 a5 a6 X.2.2.2.2.2.2), (a1, cS X.1), (a2, cS X.2.1), (a3, cB X.2.2.1), (a4, cB X.2.2.2.1), (a5, cB X.2.2.2.2.1), (a6, cB X.2.2.2.2.2.1), (z0, cZ (.ref z4) z1 Z.2.2), (z1, cQ cJ z2 z3), (z2, cA4 cI Z.1), (z3, cA4 cI Z.2.1), (z4, cL b)]) rfl rfl rfl rfl (by decide) [a0, a1, a2, a3, a4, a5, a6] rfl rfl rfl rfl 0 2 rfl rfl rfl (Nat.le_of_ble_eq_true rfl) ⟨by show _ ≤ 600104; omega, by show _ ≤ 7301314; omega⟩ rfl dL_law_275 ?_
  refine k_if_lt C 327 (by decide) dL_law_278 (fun h => absurd h h278) (fun _ => ?_)
  refine k_aload_n C dL_law_281 10 rfl ?_
  refine k_iload C dL_law_282 0 rfl ?_
  refine k_iconst C 1 (by decide) dL_law_284 ?_
  refine k_callV_i C (mX2_told_01 l D cI cJ a0 a1 a2 a3 a4 a5 a6 X) (cwV 2 C.2.2.2.2.1 (kGV q244 q245 q246 q35 q247) rfl rfl rfl ⟨rfl, hdX2_told⟩ ⟨Nat.le_of_ble_eq_true rfl, Nat.le_of_ble_eq_true rfl⟩) [0, 1, 2, 3, 4, 5, 6] [7, 8, 9, 10, 11] [5, 6, 7, 8, 9, 10, 11, 0, 1, 2, 3, 4] [(z0, cZ (.ref z4) z1 Z.2.2), (z1, cQ cJ z2 z3), (z2, cA4 cI Z.1), (z3, cA4 cI Z.2.1), (z4, cL b)] ([(a0, cF a1 a2 a3 a4 a5 a6 X.2.2.2.2.2.2), (a1, cS X.1), (a2, cS X.2.1), (a3, cB X.2.2.1), (a4, cB X.2.2.2.1), (a5, cB X.2.2.2.2.1), (a6, cB X.2.2.2.2.2.1), (z0, cZ (.ref z4) z1 Z.2.2), (z1, cQ cJ z2 z3), (z2, cA4 cI Z.1), (z3, cA4 cI Z.2.1), (z4, cL b)]) rfl rfl rfl rfl (by decide) [a0, a1, a2, a3, a4, a5, a6] rfl rfl rfl rfl 0 2 rfl rfl rfl (Nat.le_of_ble_eq_true rfl) ⟨by show _ ≤ 600104; omega, by show _ ≤ 7301314; omega⟩ rfl dL_law_285 ?_
  refine k_iconst C 3 (by decide) dL_law_288 ?_
  refine k_icmp_gt C 327 (by decide) dL_law_289 (fun h => absurd h h289) (fun _ => ?_)
  refine k_aload_n C dL_law_292 10 rfl ?_
  refine k_bipush C 7 (by decide) dL_law_293 ?_
  refine k_callV_i C (mX2_count_7 l D cI cJ a0 a1 a2 a3 a4 a5 a6 X) (cwV 1 C.2.2.2.2.1 (kGV q260 q261 q262 q35 q263) rfl rfl rfl ⟨rfl, hdX2_count⟩ ⟨Nat.le_of_ble_eq_true rfl, Nat.le_of_ble_eq_true rfl⟩) [0, 1, 2, 3, 4, 5, 6] [7, 8, 9, 10, 11] [5, 6, 7, 8, 9, 10, 11, 0, 1, 2, 3, 4] [(z0, cZ (.ref z4) z1 Z.2.2), (z1, cQ cJ z2 z3), (z2, cA4 cI Z.1), (z3, cA4 cI Z.2.1), (z4, cL b)] ([(a0, cF a1 a2 a3 a4 a5 a6 X.2.2.2.2.2.2), (a1, cS X.1), (a2, cS X.2.1), (a3, cB X.2.2.1), (a4, cB X.2.2.2.1), (a5, cB X.2.2.2.2.1), (a6, cB X.2.2.2.2.2.1), (z0, cZ (.ref z4) z1 Z.2.2), (z1, cQ cJ z2 z3), (z2, cA4 cI Z.1), (z3, cA4 cI Z.2.1), (z4, cL b)]) rfl rfl rfl rfl (by decide) [a0, a1, a2, a3, a4, a5, a6] rfl rfl rfl rfl 0 2 rfl rfl rfl (Nat.le_of_ble_eq_true rfl) ⟨by show _ ≤ 600104; omega, by show _ ≤ 7301314; omega⟩ rfl dL_law_295 ?_
  refine k_iload C dL_law_298 0 rfl ?_
  refine k_icmp_ne C 307 (by decide) dL_law_300 (fun c1 => ?_) (fun c1 => ?_)
  ·
    refine k_iconst C 0 (by decide) dL_law_307 ?_
    refine k_aload_n C dL_law_308 10 rfl ?_
    refine k_iload C dL_law_309 0 rfl ?_
    refine k_iconst C 1 (by decide) dL_law_311 ?_
    refine k_callV_i C (mX2_told_01 l D cI cJ a0 a1 a2 a3 a4 a5 a6 X) (cwV 2 C.2.2.2.2.1 (kGV q244 q245 q246 q35 q247) rfl rfl rfl ⟨rfl, hdX2_told⟩ ⟨Nat.le_of_ble_eq_true rfl, Nat.le_of_ble_eq_true rfl⟩) [0, 1, 2, 3, 4, 5, 6] [7, 8, 9, 10, 11] [5, 6, 7, 8, 9, 10, 11, 0, 1, 2, 3, 4] [(z0, cZ (.ref z4) z1 Z.2.2), (z1, cQ cJ z2 z3), (z2, cA4 cI Z.1), (z3, cA4 cI Z.2.1), (z4, cL b)] ([(a0, cF a1 a2 a3 a4 a5 a6 X.2.2.2.2.2.2), (a1, cS X.1), (a2, cS X.2.1), (a3, cB X.2.2.1), (a4, cB X.2.2.2.1), (a5, cB X.2.2.2.2.1), (a6, cB X.2.2.2.2.2.1), (z0, cZ (.ref z4) z1 Z.2.2), (z1, cQ cJ z2 z3), (z2, cA4 cI Z.1), (z3, cA4 cI Z.2.1), (z4, cL b)]) rfl rfl rfl rfl (by decide) [a0, a1, a2, a3, a4, a5, a6] rfl rfl rfl rfl 0 2 rfl rfl rfl (Nat.le_of_ble_eq_true rfl) ⟨by show _ ≤ 600104; omega, by show _ ≤ 7301314; omega⟩ rfl dL_law_312 ?_
    refine k_iconst C 3 (by decide) dL_law_315 ?_
    refine k_icmp_ne C 323 (by decide) dL_law_316 (fun _ => ?_) (fun h => absurd h (fun h9 => c1 (hW0.mpr h9)))
    refine k_iconst C 0 (by decide) dL_law_323 ?_
    refine k_icmp_eq C 329 (by decide) dL_law_324 (fun _ => ?_) (fun h => absurd (by decide) h)
    refine k_iinc C 1 [(13, .int 1), (3, .int ia), (11, .long dg), (10, .int nw), (9, .int pl), (8, .int tn), (7, .int st), (6, .int hd), (5, .int x), (0, .ref sc), (1, .ref a0), (2, .ref z0), (4, .int ti)] 0 rfl (by decide) (by decide) rfl dL_law_329 ?_
    refine k_goto C 240 (by decide) dL_law_332 ?_
    refine k_iload C dL_law_240 0 rfl ?_
    refine k_iconst C 2 (by decide) dL_law_242 ?_
    refine k_icmp_ge C 335 (by decide) dL_law_243 (fun h => absurd h (by decide)) (fun _ => ?_)
    refine k_aload_n C dL_law_246 10 rfl ?_
    refine k_iload C dL_law_247 0 rfl ?_
    refine k_iconst C 0 (by decide) dL_law_249 ?_
    refine k_callV_i C (mX2_told_10 l D cI cJ a0 a1 a2 a3 a4 a5 a6 X) (cwV 2 C.2.2.2.2.1 (kGV q244 q245 q246 q35 q247) rfl rfl rfl ⟨rfl, hdX2_told⟩ ⟨Nat.le_of_ble_eq_true rfl, Nat.le_of_ble_eq_true rfl⟩) [0, 1, 2, 3, 4, 5, 6] [7, 8, 9, 10, 11] [5, 6, 7, 8, 9, 10, 11, 0, 1, 2, 3, 4] [(z0, cZ (.ref z4) z1 Z.2.2), (z1, cQ cJ z2 z3), (z2, cA4 cI Z.1), (z3, cA4 cI Z.2.1), (z4, cL b)] ([(a0, cF a1 a2 a3 a4 a5 a6 X.2.2.2.2.2.2), (a1, cS X.1), (a2, cS X.2.1), (a3, cB X.2.2.1), (a4, cB X.2.2.2.1), (a5, cB X.2.2.2.2.1), (a6, cB X.2.2.2.2.2.1), (z0, cZ (.ref z4) z1 Z.2.2), (z1, cQ cJ z2 z3), (z2, cA4 cI Z.1), (z3, cA4 cI Z.2.1), (z4, cL b)]) rfl rfl rfl rfl (by decide) [a0, a1, a2, a3, a4, a5, a6] rfl rfl rfl rfl 0 2 rfl rfl rfl (Nat.le_of_ble_eq_true rfl) ⟨by show _ ≤ 600104; omega, by show _ ≤ 7301314; omega⟩ rfl dL_law_250 ?_
    refine k_if_lt C 327 (by decide) dL_law_253 (fun h => absurd h h253') (fun _ => ?_)
    refine k_aload_n C dL_law_256 10 rfl ?_
    refine k_iload C dL_law_257 0 rfl ?_
    refine k_iconst C 0 (by decide) dL_law_259 ?_
    refine k_callV_i C (mX2_told_10 l D cI cJ a0 a1 a2 a3 a4 a5 a6 X) (cwV 2 C.2.2.2.2.1 (kGV q244 q245 q246 q35 q247) rfl rfl rfl ⟨rfl, hdX2_told⟩ ⟨Nat.le_of_ble_eq_true rfl, Nat.le_of_ble_eq_true rfl⟩) [0, 1, 2, 3, 4, 5, 6] [7, 8, 9, 10, 11] [5, 6, 7, 8, 9, 10, 11, 0, 1, 2, 3, 4] [(z0, cZ (.ref z4) z1 Z.2.2), (z1, cQ cJ z2 z3), (z2, cA4 cI Z.1), (z3, cA4 cI Z.2.1), (z4, cL b)] ([(a0, cF a1 a2 a3 a4 a5 a6 X.2.2.2.2.2.2), (a1, cS X.1), (a2, cS X.2.1), (a3, cB X.2.2.1), (a4, cB X.2.2.2.1), (a5, cB X.2.2.2.2.1), (a6, cB X.2.2.2.2.2.1), (z0, cZ (.ref z4) z1 Z.2.2), (z1, cQ cJ z2 z3), (z2, cA4 cI Z.1), (z3, cA4 cI Z.2.1), (z4, cL b)]) rfl rfl rfl rfl (by decide) [a0, a1, a2, a3, a4, a5, a6] rfl rfl rfl rfl 0 2 rfl rfl rfl (Nat.le_of_ble_eq_true rfl) ⟨by show _ ≤ 600104; omega, by show _ ≤ 7301314; omega⟩ rfl dL_law_260 ?_
    refine k_aload_n C dL_law_263 10 rfl ?_
    refine k_iconst C 5 (by decide) dL_law_264 ?_
    refine k_callV_i C (mX2_count_5 l D cI cJ a0 a1 a2 a3 a4 a5 a6 X) (cwV 1 C.2.2.2.2.1 (kGV q260 q261 q262 q35 q263) rfl rfl rfl ⟨rfl, hdX2_count⟩ ⟨Nat.le_of_ble_eq_true rfl, Nat.le_of_ble_eq_true rfl⟩) [0, 1, 2, 3, 4, 5, 6] [7, 8, 9, 10, 11] [5, 6, 7, 8, 9, 10, 11, 0, 1, 2, 3, 4] [(z0, cZ (.ref z4) z1 Z.2.2), (z1, cQ cJ z2 z3), (z2, cA4 cI Z.1), (z3, cA4 cI Z.2.1), (z4, cL b)] ([(a0, cF a1 a2 a3 a4 a5 a6 X.2.2.2.2.2.2), (a1, cS X.1), (a2, cS X.2.1), (a3, cB X.2.2.1), (a4, cB X.2.2.2.1), (a5, cB X.2.2.2.2.1), (a6, cB X.2.2.2.2.2.1), (z0, cZ (.ref z4) z1 Z.2.2), (z1, cQ cJ z2 z3), (z2, cA4 cI Z.1), (z3, cA4 cI Z.2.1), (z4, cL b)]) rfl rfl rfl rfl (by decide) [a0, a1, a2, a3, a4, a5, a6] rfl rfl rfl rfl 0 2 rfl rfl rfl (Nat.le_of_ble_eq_true rfl) ⟨by show _ ≤ 600104; omega, by show _ ≤ 7301314; omega⟩ rfl dL_law_265 ?_
    refine k_icmp_ge C 327 (by decide) dL_law_268 (fun h => absurd h h268') (fun _ => ?_)
    refine k_aload_n C dL_law_271 10 rfl ?_
    refine k_iload C dL_law_272 0 rfl ?_
    refine k_iconst C 1 (by decide) dL_law_274 ?_
    refine k_callV_i C (mX2_told_11 l D cI cJ a0 a1 a2 a3 a4 a5 a6 X) (cwV 2 C.2.2.2.2.1 (kGV q244 q245 q246 q35 q247) rfl rfl rfl ⟨rfl, hdX2_told⟩ ⟨Nat.le_of_ble_eq_true rfl, Nat.le_of_ble_eq_true rfl⟩) [0, 1, 2, 3, 4, 5, 6] [7, 8, 9, 10, 11] [5, 6, 7, 8, 9, 10, 11, 0, 1, 2, 3, 4] [(z0, cZ (.ref z4) z1 Z.2.2), (z1, cQ cJ z2 z3), (z2, cA4 cI Z.1), (z3, cA4 cI Z.2.1), (z4, cL b)] ([(a0, cF a1 a2 a3 a4 a5 a6 X.2.2.2.2.2.2), (a1, cS X.1), (a2, cS X.2.1), (a3, cB X.2.2.1), (a4, cB X.2.2.2.1), (a5, cB X.2.2.2.2.1), (a6, cB X.2.2.2.2.2.1), (z0, cZ (.ref z4) z1 Z.2.2), (z1, cQ cJ z2 z3), (z2, cA4 cI Z.1), (z3, cA4 cI Z.2.1), (z4, cL b)]) rfl rfl rfl rfl (by decide) [a0, a1, a2, a3, a4, a5, a6] rfl rfl rfl rfl 0 2 rfl rfl rfl (Nat.le_of_ble_eq_true rfl) ⟨by show _ ≤ 600104; omega, by show _ ≤ 7301314; omega⟩ rfl dL_law_275 ?_
    refine k_if_lt C 327 (by decide) dL_law_278 (fun h => absurd h h278') (fun _ => ?_)
    refine k_aload_n C dL_law_281 10 rfl ?_
    refine k_iload C dL_law_282 0 rfl ?_
    refine k_iconst C 1 (by decide) dL_law_284 ?_
    refine k_callV_i C (mX2_told_11 l D cI cJ a0 a1 a2 a3 a4 a5 a6 X) (cwV 2 C.2.2.2.2.1 (kGV q244 q245 q246 q35 q247) rfl rfl rfl ⟨rfl, hdX2_told⟩ ⟨Nat.le_of_ble_eq_true rfl, Nat.le_of_ble_eq_true rfl⟩) [0, 1, 2, 3, 4, 5, 6] [7, 8, 9, 10, 11] [5, 6, 7, 8, 9, 10, 11, 0, 1, 2, 3, 4] [(z0, cZ (.ref z4) z1 Z.2.2), (z1, cQ cJ z2 z3), (z2, cA4 cI Z.1), (z3, cA4 cI Z.2.1), (z4, cL b)] ([(a0, cF a1 a2 a3 a4 a5 a6 X.2.2.2.2.2.2), (a1, cS X.1), (a2, cS X.2.1), (a3, cB X.2.2.1), (a4, cB X.2.2.2.1), (a5, cB X.2.2.2.2.1), (a6, cB X.2.2.2.2.2.1), (z0, cZ (.ref z4) z1 Z.2.2), (z1, cQ cJ z2 z3), (z2, cA4 cI Z.1), (z3, cA4 cI Z.2.1), (z4, cL b)]) rfl rfl rfl rfl (by decide) [a0, a1, a2, a3, a4, a5, a6] rfl rfl rfl rfl 0 2 rfl rfl rfl (Nat.le_of_ble_eq_true rfl) ⟨by show _ ≤ 600104; omega, by show _ ≤ 7301314; omega⟩ rfl dL_law_285 ?_
    refine k_iconst C 3 (by decide) dL_law_288 ?_
    refine k_icmp_gt C 327 (by decide) dL_law_289 (fun h => absurd h h289') (fun _ => ?_)
    refine k_aload_n C dL_law_292 10 rfl ?_
    refine k_bipush C 7 (by decide) dL_law_293 ?_
    refine k_callV_i C (mX2_count_7 l D cI cJ a0 a1 a2 a3 a4 a5 a6 X) (cwV 1 C.2.2.2.2.1 (kGV q260 q261 q262 q35 q263) rfl rfl rfl ⟨rfl, hdX2_count⟩ ⟨Nat.le_of_ble_eq_true rfl, Nat.le_of_ble_eq_true rfl⟩) [0, 1, 2, 3, 4, 5, 6] [7, 8, 9, 10, 11] [5, 6, 7, 8, 9, 10, 11, 0, 1, 2, 3, 4] [(z0, cZ (.ref z4) z1 Z.2.2), (z1, cQ cJ z2 z3), (z2, cA4 cI Z.1), (z3, cA4 cI Z.2.1), (z4, cL b)] ([(a0, cF a1 a2 a3 a4 a5 a6 X.2.2.2.2.2.2), (a1, cS X.1), (a2, cS X.2.1), (a3, cB X.2.2.1), (a4, cB X.2.2.2.1), (a5, cB X.2.2.2.2.1), (a6, cB X.2.2.2.2.2.1), (z0, cZ (.ref z4) z1 Z.2.2), (z1, cQ cJ z2 z3), (z2, cA4 cI Z.1), (z3, cA4 cI Z.2.1), (z4, cL b)]) rfl rfl rfl rfl (by decide) [a0, a1, a2, a3, a4, a5, a6] rfl rfl rfl rfl 0 2 rfl rfl rfl (Nat.le_of_ble_eq_true rfl) ⟨by show _ ≤ 600104; omega, by show _ ≤ 7301314; omega⟩ rfl dL_law_295 ?_
    refine k_iload C dL_law_298 0 rfl ?_
    refine k_icmp_ne C 307 (by decide) dL_law_300 (fun c2 => ?_) (fun c2 => ?_)
    ·
      refine k_iconst C 0 (by decide) dL_law_307 ?_
      refine k_aload_n C dL_law_308 10 rfl ?_
      refine k_iload C dL_law_309 0 rfl ?_
      refine k_iconst C 1 (by decide) dL_law_311 ?_
      refine k_callV_i C (mX2_told_11 l D cI cJ a0 a1 a2 a3 a4 a5 a6 X) (cwV 2 C.2.2.2.2.1 (kGV q244 q245 q246 q35 q247) rfl rfl rfl ⟨rfl, hdX2_told⟩ ⟨Nat.le_of_ble_eq_true rfl, Nat.le_of_ble_eq_true rfl⟩) [0, 1, 2, 3, 4, 5, 6] [7, 8, 9, 10, 11] [5, 6, 7, 8, 9, 10, 11, 0, 1, 2, 3, 4] [(z0, cZ (.ref z4) z1 Z.2.2), (z1, cQ cJ z2 z3), (z2, cA4 cI Z.1), (z3, cA4 cI Z.2.1), (z4, cL b)] ([(a0, cF a1 a2 a3 a4 a5 a6 X.2.2.2.2.2.2), (a1, cS X.1), (a2, cS X.2.1), (a3, cB X.2.2.1), (a4, cB X.2.2.2.1), (a5, cB X.2.2.2.2.1), (a6, cB X.2.2.2.2.2.1), (z0, cZ (.ref z4) z1 Z.2.2), (z1, cQ cJ z2 z3), (z2, cA4 cI Z.1), (z3, cA4 cI Z.2.1), (z4, cL b)]) rfl rfl rfl rfl (by decide) [a0, a1, a2, a3, a4, a5, a6] rfl rfl rfl rfl 0 2 rfl rfl rfl (Nat.le_of_ble_eq_true rfl) ⟨by show _ ≤ 600104; omega, by show _ ≤ 7301314; omega⟩ rfl dL_law_312 ?_
      refine k_iconst C 3 (by decide) dL_law_315 ?_
      refine k_icmp_ne C 323 (by decide) dL_law_316 (fun _ => ?_) (fun h => absurd h (fun h9 => c2 (hW1.mpr h9)))
      refine k_iconst C 0 (by decide) dL_law_323 ?_
      refine k_icmp_eq C 329 (by decide) dL_law_324 (fun _ => ?_) (fun h => absurd (by decide) h)
      refine k_iinc C 2 [(13, .int 2), (3, .int ia), (11, .long dg), (10, .int nw), (9, .int pl), (8, .int tn), (7, .int st), (6, .int hd), (5, .int x), (0, .ref sc), (1, .ref a0), (2, .ref z0), (4, .int ti)] 0 rfl (by decide) (by decide) rfl dL_law_329 ?_
      refine k_goto C 240 (by decide) dL_law_332 ?_
      refine k_iload C dL_law_240 0 rfl ?_
      refine k_iconst C 2 (by decide) dL_law_242 ?_
      refine k_icmp_ge C 335 (by decide) dL_law_243 (fun _ => ?_) (fun h => absurd (by decide) h)
      refine k_widen (k' := K + 0) (n' := N + 0) (by omega) (by omega) ?_
      refine k_sub [1, 2, 3, 4, 5, 6, 7, 8, 9, 10, 11, 12] rfl ?_
      exact kk
    ·
      refine k_iconst C 1 (by decide) dL_law_303 ?_
      refine k_goto C 308 (by decide) dL_law_304 ?_
      refine k_aload_n C dL_law_308 10 rfl ?_
      refine k_iload C dL_law_309 0 rfl ?_
      refine k_iconst C 1 (by decide) dL_law_311 ?_
      refine k_callV_i C (mX2_told_11 l D cI cJ a0 a1 a2 a3 a4 a5 a6 X) (cwV 2 C.2.2.2.2.1 (kGV q244 q245 q246 q35 q247) rfl rfl rfl ⟨rfl, hdX2_told⟩ ⟨Nat.le_of_ble_eq_true rfl, Nat.le_of_ble_eq_true rfl⟩) [0, 1, 2, 3, 4, 5, 6] [7, 8, 9, 10, 11] [5, 6, 7, 8, 9, 10, 11, 0, 1, 2, 3, 4] [(z0, cZ (.ref z4) z1 Z.2.2), (z1, cQ cJ z2 z3), (z2, cA4 cI Z.1), (z3, cA4 cI Z.2.1), (z4, cL b)] ([(a0, cF a1 a2 a3 a4 a5 a6 X.2.2.2.2.2.2), (a1, cS X.1), (a2, cS X.2.1), (a3, cB X.2.2.1), (a4, cB X.2.2.2.1), (a5, cB X.2.2.2.2.1), (a6, cB X.2.2.2.2.2.1), (z0, cZ (.ref z4) z1 Z.2.2), (z1, cQ cJ z2 z3), (z2, cA4 cI Z.1), (z3, cA4 cI Z.2.1), (z4, cL b)]) rfl rfl rfl rfl (by decide) [a0, a1, a2, a3, a4, a5, a6] rfl rfl rfl rfl 0 2 rfl rfl rfl (Nat.le_of_ble_eq_true rfl) ⟨by show _ ≤ 600104; omega, by show _ ≤ 7301314; omega⟩ rfl dL_law_312 ?_
      refine k_iconst C 3 (by decide) dL_law_315 ?_
      refine k_icmp_ne C 323 (by decide) dL_law_316 (fun h => absurd (hW1.mp c2) h) (fun _ => ?_)
      refine k_iconst C 1 (by decide) dL_law_319 ?_
      refine k_goto C 324 (by decide) dL_law_320 ?_
      refine k_icmp_eq C 329 (by decide) dL_law_324 (fun _ => ?_) (fun h => absurd (by decide) h)
      refine k_iinc C 2 [(13, .int 2), (3, .int ia), (11, .long dg), (10, .int nw), (9, .int pl), (8, .int tn), (7, .int st), (6, .int hd), (5, .int x), (0, .ref sc), (1, .ref a0), (2, .ref z0), (4, .int ti)] 0 rfl (by decide) (by decide) rfl dL_law_329 ?_
      refine k_goto C 240 (by decide) dL_law_332 ?_
      refine k_iload C dL_law_240 0 rfl ?_
      refine k_iconst C 2 (by decide) dL_law_242 ?_
      refine k_icmp_ge C 335 (by decide) dL_law_243 (fun _ => ?_) (fun h => absurd (by decide) h)
      refine k_widen (k' := K + 0) (n' := N + 0) (by omega) (by omega) ?_
      refine k_sub [1, 2, 3, 4, 5, 6, 7, 8, 9, 10, 11, 12] rfl ?_
      exact kk
  ·
    refine k_iconst C 1 (by decide) dL_law_303 ?_
    refine k_goto C 308 (by decide) dL_law_304 ?_
    refine k_aload_n C dL_law_308 10 rfl ?_
    refine k_iload C dL_law_309 0 rfl ?_
    refine k_iconst C 1 (by decide) dL_law_311 ?_
    refine k_callV_i C (mX2_told_01 l D cI cJ a0 a1 a2 a3 a4 a5 a6 X) (cwV 2 C.2.2.2.2.1 (kGV q244 q245 q246 q35 q247) rfl rfl rfl ⟨rfl, hdX2_told⟩ ⟨Nat.le_of_ble_eq_true rfl, Nat.le_of_ble_eq_true rfl⟩) [0, 1, 2, 3, 4, 5, 6] [7, 8, 9, 10, 11] [5, 6, 7, 8, 9, 10, 11, 0, 1, 2, 3, 4] [(z0, cZ (.ref z4) z1 Z.2.2), (z1, cQ cJ z2 z3), (z2, cA4 cI Z.1), (z3, cA4 cI Z.2.1), (z4, cL b)] ([(a0, cF a1 a2 a3 a4 a5 a6 X.2.2.2.2.2.2), (a1, cS X.1), (a2, cS X.2.1), (a3, cB X.2.2.1), (a4, cB X.2.2.2.1), (a5, cB X.2.2.2.2.1), (a6, cB X.2.2.2.2.2.1), (z0, cZ (.ref z4) z1 Z.2.2), (z1, cQ cJ z2 z3), (z2, cA4 cI Z.1), (z3, cA4 cI Z.2.1), (z4, cL b)]) rfl rfl rfl rfl (by decide) [a0, a1, a2, a3, a4, a5, a6] rfl rfl rfl rfl 0 2 rfl rfl rfl (Nat.le_of_ble_eq_true rfl) ⟨by show _ ≤ 600104; omega, by show _ ≤ 7301314; omega⟩ rfl dL_law_312 ?_
    refine k_iconst C 3 (by decide) dL_law_315 ?_
    refine k_icmp_ne C 323 (by decide) dL_law_316 (fun h => absurd (hW0.mp c1) h) (fun _ => ?_)
    refine k_iconst C 1 (by decide) dL_law_319 ?_
    refine k_goto C 324 (by decide) dL_law_320 ?_
    refine k_icmp_eq C 329 (by decide) dL_law_324 (fun _ => ?_) (fun h => absurd (by decide) h)
    refine k_iinc C 1 [(13, .int 1), (3, .int ia), (11, .long dg), (10, .int nw), (9, .int pl), (8, .int tn), (7, .int st), (6, .int hd), (5, .int x), (0, .ref sc), (1, .ref a0), (2, .ref z0), (4, .int ti)] 0 rfl (by decide) (by decide) rfl dL_law_329 ?_
    refine k_goto C 240 (by decide) dL_law_332 ?_
    refine k_iload C dL_law_240 0 rfl ?_
    refine k_iconst C 2 (by decide) dL_law_242 ?_
    refine k_icmp_ge C 335 (by decide) dL_law_243 (fun h => absurd h (by decide)) (fun _ => ?_)
    refine k_aload_n C dL_law_246 10 rfl ?_
    refine k_iload C dL_law_247 0 rfl ?_
    refine k_iconst C 0 (by decide) dL_law_249 ?_
    refine k_callV_i C (mX2_told_10 l D cI cJ a0 a1 a2 a3 a4 a5 a6 X) (cwV 2 C.2.2.2.2.1 (kGV q244 q245 q246 q35 q247) rfl rfl rfl ⟨rfl, hdX2_told⟩ ⟨Nat.le_of_ble_eq_true rfl, Nat.le_of_ble_eq_true rfl⟩) [0, 1, 2, 3, 4, 5, 6] [7, 8, 9, 10, 11] [5, 6, 7, 8, 9, 10, 11, 0, 1, 2, 3, 4] [(z0, cZ (.ref z4) z1 Z.2.2), (z1, cQ cJ z2 z3), (z2, cA4 cI Z.1), (z3, cA4 cI Z.2.1), (z4, cL b)] ([(a0, cF a1 a2 a3 a4 a5 a6 X.2.2.2.2.2.2), (a1, cS X.1), (a2, cS X.2.1), (a3, cB X.2.2.1), (a4, cB X.2.2.2.1), (a5, cB X.2.2.2.2.1), (a6, cB X.2.2.2.2.2.1), (z0, cZ (.ref z4) z1 Z.2.2), (z1, cQ cJ z2 z3), (z2, cA4 cI Z.1), (z3, cA4 cI Z.2.1), (z4, cL b)]) rfl rfl rfl rfl (by decide) [a0, a1, a2, a3, a4, a5, a6] rfl rfl rfl rfl 0 2 rfl rfl rfl (Nat.le_of_ble_eq_true rfl) ⟨by show _ ≤ 600104; omega, by show _ ≤ 7301314; omega⟩ rfl dL_law_250 ?_
    refine k_if_lt C 327 (by decide) dL_law_253 (fun h => absurd h h253') (fun _ => ?_)
    refine k_aload_n C dL_law_256 10 rfl ?_
    refine k_iload C dL_law_257 0 rfl ?_
    refine k_iconst C 0 (by decide) dL_law_259 ?_
    refine k_callV_i C (mX2_told_10 l D cI cJ a0 a1 a2 a3 a4 a5 a6 X) (cwV 2 C.2.2.2.2.1 (kGV q244 q245 q246 q35 q247) rfl rfl rfl ⟨rfl, hdX2_told⟩ ⟨Nat.le_of_ble_eq_true rfl, Nat.le_of_ble_eq_true rfl⟩) [0, 1, 2, 3, 4, 5, 6] [7, 8, 9, 10, 11] [5, 6, 7, 8, 9, 10, 11, 0, 1, 2, 3, 4] [(z0, cZ (.ref z4) z1 Z.2.2), (z1, cQ cJ z2 z3), (z2, cA4 cI Z.1), (z3, cA4 cI Z.2.1), (z4, cL b)] ([(a0, cF a1 a2 a3 a4 a5 a6 X.2.2.2.2.2.2), (a1, cS X.1), (a2, cS X.2.1), (a3, cB X.2.2.1), (a4, cB X.2.2.2.1), (a5, cB X.2.2.2.2.1), (a6, cB X.2.2.2.2.2.1), (z0, cZ (.ref z4) z1 Z.2.2), (z1, cQ cJ z2 z3), (z2, cA4 cI Z.1), (z3, cA4 cI Z.2.1), (z4, cL b)]) rfl rfl rfl rfl (by decide) [a0, a1, a2, a3, a4, a5, a6] rfl rfl rfl rfl 0 2 rfl rfl rfl (Nat.le_of_ble_eq_true rfl) ⟨by show _ ≤ 600104; omega, by show _ ≤ 7301314; omega⟩ rfl dL_law_260 ?_
    refine k_aload_n C dL_law_263 10 rfl ?_
    refine k_iconst C 5 (by decide) dL_law_264 ?_
    refine k_callV_i C (mX2_count_5 l D cI cJ a0 a1 a2 a3 a4 a5 a6 X) (cwV 1 C.2.2.2.2.1 (kGV q260 q261 q262 q35 q263) rfl rfl rfl ⟨rfl, hdX2_count⟩ ⟨Nat.le_of_ble_eq_true rfl, Nat.le_of_ble_eq_true rfl⟩) [0, 1, 2, 3, 4, 5, 6] [7, 8, 9, 10, 11] [5, 6, 7, 8, 9, 10, 11, 0, 1, 2, 3, 4] [(z0, cZ (.ref z4) z1 Z.2.2), (z1, cQ cJ z2 z3), (z2, cA4 cI Z.1), (z3, cA4 cI Z.2.1), (z4, cL b)] ([(a0, cF a1 a2 a3 a4 a5 a6 X.2.2.2.2.2.2), (a1, cS X.1), (a2, cS X.2.1), (a3, cB X.2.2.1), (a4, cB X.2.2.2.1), (a5, cB X.2.2.2.2.1), (a6, cB X.2.2.2.2.2.1), (z0, cZ (.ref z4) z1 Z.2.2), (z1, cQ cJ z2 z3), (z2, cA4 cI Z.1), (z3, cA4 cI Z.2.1), (z4, cL b)]) rfl rfl rfl rfl (by decide) [a0, a1, a2, a3, a4, a5, a6] rfl rfl rfl rfl 0 2 rfl rfl rfl (Nat.le_of_ble_eq_true rfl) ⟨by show _ ≤ 600104; omega, by show _ ≤ 7301314; omega⟩ rfl dL_law_265 ?_
    refine k_icmp_ge C 327 (by decide) dL_law_268 (fun h => absurd h h268') (fun _ => ?_)
    refine k_aload_n C dL_law_271 10 rfl ?_
    refine k_iload C dL_law_272 0 rfl ?_
    refine k_iconst C 1 (by decide) dL_law_274 ?_
    refine k_callV_i C (mX2_told_11 l D cI cJ a0 a1 a2 a3 a4 a5 a6 X) (cwV 2 C.2.2.2.2.1 (kGV q244 q245 q246 q35 q247) rfl rfl rfl ⟨rfl, hdX2_told⟩ ⟨Nat.le_of_ble_eq_true rfl, Nat.le_of_ble_eq_true rfl⟩) [0, 1, 2, 3, 4, 5, 6] [7, 8, 9, 10, 11] [5, 6, 7, 8, 9, 10, 11, 0, 1, 2, 3, 4] [(z0, cZ (.ref z4) z1 Z.2.2), (z1, cQ cJ z2 z3), (z2, cA4 cI Z.1), (z3, cA4 cI Z.2.1), (z4, cL b)] ([(a0, cF a1 a2 a3 a4 a5 a6 X.2.2.2.2.2.2), (a1, cS X.1), (a2, cS X.2.1), (a3, cB X.2.2.1), (a4, cB X.2.2.2.1), (a5, cB X.2.2.2.2.1), (a6, cB X.2.2.2.2.2.1), (z0, cZ (.ref z4) z1 Z.2.2), (z1, cQ cJ z2 z3), (z2, cA4 cI Z.1), (z3, cA4 cI Z.2.1), (z4, cL b)]) rfl rfl rfl rfl (by decide) [a0, a1, a2, a3, a4, a5, a6] rfl rfl rfl rfl 0 2 rfl rfl rfl (Nat.le_of_ble_eq_true rfl) ⟨by show _ ≤ 600104; omega, by show _ ≤ 7301314; omega⟩ rfl dL_law_275 ?_
    refine k_if_lt C 327 (by decide) dL_law_278 (fun h => absurd h h278') (fun _ => ?_)
    refine k_aload_n C dL_law_281 10 rfl ?_
    refine k_iload C dL_law_282 0 rfl ?_
    refine k_iconst C 1 (by decide) dL_law_284 ?_
    refine k_callV_i C (mX2_told_11 l D cI cJ a0 a1 a2 a3 a4 a5 a6 X) (cwV 2 C.2.2.2.2.1 (kGV q244 q245 q246 q35 q247) rfl rfl rfl ⟨rfl, hdX2_told⟩ ⟨Nat.le_of_ble_eq_true rfl, Nat.le_of_ble_eq_true rfl⟩) [0, 1, 2, 3, 4, 5, 6] [7, 8, 9, 10, 11] [5, 6, 7, 8, 9, 10, 11, 0, 1, 2, 3, 4] [(z0, cZ (.ref z4) z1 Z.2.2), (z1, cQ cJ z2 z3), (z2, cA4 cI Z.1), (z3, cA4 cI Z.2.1), (z4, cL b)] ([(a0, cF a1 a2 a3 a4 a5 a6 X.2.2.2.2.2.2), (a1, cS X.1), (a2, cS X.2.1), (a3, cB X.2.2.1), (a4, cB X.2.2.2.1), (a5, cB X.2.2.2.2.1), (a6, cB X.2.2.2.2.2.1), (z0, cZ (.ref z4) z1 Z.2.2), (z1, cQ cJ z2 z3), (z2, cA4 cI Z.1), (z3, cA4 cI Z.2.1), (z4, cL b)]) rfl rfl rfl rfl (by decide) [a0, a1, a2, a3, a4, a5, a6] rfl rfl rfl rfl 0 2 rfl rfl rfl (Nat.le_of_ble_eq_true rfl) ⟨by show _ ≤ 600104; omega, by show _ ≤ 7301314; omega⟩ rfl dL_law_285 ?_
    refine k_iconst C 3 (by decide) dL_law_288 ?_
    refine k_icmp_gt C 327 (by decide) dL_law_289 (fun h => absurd h h289') (fun _ => ?_)
    refine k_aload_n C dL_law_292 10 rfl ?_
    refine k_bipush C 7 (by decide) dL_law_293 ?_
    refine k_callV_i C (mX2_count_7 l D cI cJ a0 a1 a2 a3 a4 a5 a6 X) (cwV 1 C.2.2.2.2.1 (kGV q260 q261 q262 q35 q263) rfl rfl rfl ⟨rfl, hdX2_count⟩ ⟨Nat.le_of_ble_eq_true rfl, Nat.le_of_ble_eq_true rfl⟩) [0, 1, 2, 3, 4, 5, 6] [7, 8, 9, 10, 11] [5, 6, 7, 8, 9, 10, 11, 0, 1, 2, 3, 4] [(z0, cZ (.ref z4) z1 Z.2.2), (z1, cQ cJ z2 z3), (z2, cA4 cI Z.1), (z3, cA4 cI Z.2.1), (z4, cL b)] ([(a0, cF a1 a2 a3 a4 a5 a6 X.2.2.2.2.2.2), (a1, cS X.1), (a2, cS X.2.1), (a3, cB X.2.2.1), (a4, cB X.2.2.2.1), (a5, cB X.2.2.2.2.1), (a6, cB X.2.2.2.2.2.1), (z0, cZ (.ref z4) z1 Z.2.2), (z1, cQ cJ z2 z3), (z2, cA4 cI Z.1), (z3, cA4 cI Z.2.1), (z4, cL b)]) rfl rfl rfl rfl (by decide) [a0, a1, a2, a3, a4, a5, a6] rfl rfl rfl rfl 0 2 rfl rfl rfl (Nat.le_of_ble_eq_true rfl) ⟨by show _ ≤ 600104; omega, by show _ ≤ 7301314; omega⟩ rfl dL_law_295 ?_
    refine k_iload C dL_law_298 0 rfl ?_
    refine k_icmp_ne C 307 (by decide) dL_law_300 (fun c3 => ?_) (fun c3 => ?_)
    ·
      refine k_iconst C 0 (by decide) dL_law_307 ?_
      refine k_aload_n C dL_law_308 10 rfl ?_
      refine k_iload C dL_law_309 0 rfl ?_
      refine k_iconst C 1 (by decide) dL_law_311 ?_
      refine k_callV_i C (mX2_told_11 l D cI cJ a0 a1 a2 a3 a4 a5 a6 X) (cwV 2 C.2.2.2.2.1 (kGV q244 q245 q246 q35 q247) rfl rfl rfl ⟨rfl, hdX2_told⟩ ⟨Nat.le_of_ble_eq_true rfl, Nat.le_of_ble_eq_true rfl⟩) [0, 1, 2, 3, 4, 5, 6] [7, 8, 9, 10, 11] [5, 6, 7, 8, 9, 10, 11, 0, 1, 2, 3, 4] [(z0, cZ (.ref z4) z1 Z.2.2), (z1, cQ cJ z2 z3), (z2, cA4 cI Z.1), (z3, cA4 cI Z.2.1), (z4, cL b)] ([(a0, cF a1 a2 a3 a4 a5 a6 X.2.2.2.2.2.2), (a1, cS X.1), (a2, cS X.2.1), (a3, cB X.2.2.1), (a4, cB X.2.2.2.1), (a5, cB X.2.2.2.2.1), (a6, cB X.2.2.2.2.2.1), (z0, cZ (.ref z4) z1 Z.2.2), (z1, cQ cJ z2 z3), (z2, cA4 cI Z.1), (z3, cA4 cI Z.2.1), (z4, cL b)]) rfl rfl rfl rfl (by decide) [a0, a1, a2, a3, a4, a5, a6] rfl rfl rfl rfl 0 2 rfl rfl rfl (Nat.le_of_ble_eq_true rfl) ⟨by show _ ≤ 600104; omega, by show _ ≤ 7301314; omega⟩ rfl dL_law_312 ?_
      refine k_iconst C 3 (by decide) dL_law_315 ?_
      refine k_icmp_ne C 323 (by decide) dL_law_316 (fun _ => ?_) (fun h => absurd h (fun h9 => c3 (hW1.mpr h9)))
      refine k_iconst C 0 (by decide) dL_law_323 ?_
      refine k_icmp_eq C 329 (by decide) dL_law_324 (fun _ => ?_) (fun h => absurd (by decide) h)
      refine k_iinc C 2 [(13, .int 2), (3, .int ia), (11, .long dg), (10, .int nw), (9, .int pl), (8, .int tn), (7, .int st), (6, .int hd), (5, .int x), (0, .ref sc), (1, .ref a0), (2, .ref z0), (4, .int ti)] 0 rfl (by decide) (by decide) rfl dL_law_329 ?_
      refine k_goto C 240 (by decide) dL_law_332 ?_
      refine k_iload C dL_law_240 0 rfl ?_
      refine k_iconst C 2 (by decide) dL_law_242 ?_
      refine k_icmp_ge C 335 (by decide) dL_law_243 (fun _ => ?_) (fun h => absurd (by decide) h)
      refine k_widen (k' := K + 0) (n' := N + 0) (by omega) (by omega) ?_
      refine k_sub [1, 2, 3, 4, 5, 6, 7, 8, 9, 10, 11, 12] rfl ?_
      exact kk
    ·
      refine k_iconst C 1 (by decide) dL_law_303 ?_
      refine k_goto C 308 (by decide) dL_law_304 ?_
      refine k_aload_n C dL_law_308 10 rfl ?_
      refine k_iload C dL_law_309 0 rfl ?_
      refine k_iconst C 1 (by decide) dL_law_311 ?_
      refine k_callV_i C (mX2_told_11 l D cI cJ a0 a1 a2 a3 a4 a5 a6 X) (cwV 2 C.2.2.2.2.1 (kGV q244 q245 q246 q35 q247) rfl rfl rfl ⟨rfl, hdX2_told⟩ ⟨Nat.le_of_ble_eq_true rfl, Nat.le_of_ble_eq_true rfl⟩) [0, 1, 2, 3, 4, 5, 6] [7, 8, 9, 10, 11] [5, 6, 7, 8, 9, 10, 11, 0, 1, 2, 3, 4] [(z0, cZ (.ref z4) z1 Z.2.2), (z1, cQ cJ z2 z3), (z2, cA4 cI Z.1), (z3, cA4 cI Z.2.1), (z4, cL b)] ([(a0, cF a1 a2 a3 a4 a5 a6 X.2.2.2.2.2.2), (a1, cS X.1), (a2, cS X.2.1), (a3, cB X.2.2.1), (a4, cB X.2.2.2.1), (a5, cB X.2.2.2.2.1), (a6, cB X.2.2.2.2.2.1), (z0, cZ (.ref z4) z1 Z.2.2), (z1, cQ cJ z2 z3), (z2, cA4 cI Z.1), (z3, cA4 cI Z.2.1), (z4, cL b)]) rfl rfl rfl rfl (by decide) [a0, a1, a2, a3, a4, a5, a6] rfl rfl rfl rfl 0 2 rfl rfl rfl (Nat.le_of_ble_eq_true rfl) ⟨by show _ ≤ 600104; omega, by show _ ≤ 7301314; omega⟩ rfl dL_law_312 ?_
      refine k_iconst C 3 (by decide) dL_law_315 ?_
      refine k_icmp_ne C 323 (by decide) dL_law_316 (fun h => absurd (hW1.mp c3) h) (fun _ => ?_)
      refine k_iconst C 1 (by decide) dL_law_319 ?_
      refine k_goto C 324 (by decide) dL_law_320 ?_
      refine k_icmp_eq C 329 (by decide) dL_law_324 (fun _ => ?_) (fun h => absurd (by decide) h)
      refine k_iinc C 2 [(13, .int 2), (3, .int ia), (11, .long dg), (10, .int nw), (9, .int pl), (8, .int tn), (7, .int st), (6, .int hd), (5, .int x), (0, .ref sc), (1, .ref a0), (2, .ref z0), (4, .int ti)] 0 rfl (by decide) (by decide) rfl dL_law_329 ?_
      refine k_goto C 240 (by decide) dL_law_332 ?_
      refine k_iload C dL_law_240 0 rfl ?_
      refine k_iconst C 2 (by decide) dL_law_242 ?_
      refine k_icmp_ge C 335 (by decide) dL_law_243 (fun _ => ?_) (fun h => absurd (by decide) h)
      refine k_widen (k' := K + 0) (n' := N + 0) (by omega) (by omega) ?_
      refine k_sub [1, 2, 3, 4, 5, 6, 7, 8, 9, 10, 11, 12] rfl ?_
      exact kk