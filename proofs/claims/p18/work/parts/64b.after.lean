/-! the law: behind an act -/
set_option maxHeartbeats 4000000 in
set_option maxRecDepth 100000 in
theorem law_after_n {p : Program} {l : Launch} {e : Env} {s : State} {m : MethodId} {args : Array Value} {below : List Frame} {meth : Method} {c : Code} {D : va_G} {cI cJ : ClassId} {A : Nat → Prop} {Q : State → Prop} {a0 a1 a2 a3 a4 a5 a6 z0 z1 z2 z3 sc : Nat} {X : Co} {Z : Zs} {K N : Nat} (C : kCx p s m args meth c RL cL_law 23 ret D cI cJ A) (hK : K + 6000 ≤ 600104) (hN : N + 60000 ≤ 7301314) (hl : l.stackTraces = false) (T : kTE A s s.heap) {X0 : Co} {Z0 : Zs} {β0 : Option Lb} {i : Nat} (hi : i < 16) (h0 : Rel i X0 Z0 β0) (h : Rel (i + 1) X Z none) (ht : Tr X0 X) {nw x ia : Int32} (kk : ∀ (ib : Int32) (X' : Co) (Z' : Zs) (β' : Option Lb) (U : va_W), wSim cI cJ z0 Z' β' U → Rel (i + 1) X' Z' β' → kW p l e room_1 s m args below meth c D A 23 (K + 990) (N + 5950) Q (wC a0 a1 a2 a3 a4 a5 a6 X' ++ U) 21 [(0, .ref sc), (1, .ref a0), (2, .ref z0), (3, .int ib), (4, .int (nI (i + 1)))] []) : kW p l e room_1 s m args below meth c D A 23 K N Q (wC a0 a1 a2 a3 a4 a5 a6 X ++ wZ cI cJ z0 z1 z2 z3 .null Z) 104 [(10, .int nw), (9, .int ((fX2_told_03 X0) + (fX2_told_13 X0))), (8, .int (fX2_count_1 X0)), (7, .int (fX2_count_2 X0)), (6, .int (fX2_count_3 X0)), (5, .int x), (0, .ref sc), (1, .ref a0), (2, .ref z0), (3, .int ia), (4, .int (nI i))] [] := by
  have hw := ft_wr (by omega) h0 ht
  have hs := ft_sums (by omega) h
  obtain ⟨⟨d1, d2, d3, d4⟩, ⟨d5, d6, d7, d8⟩, d9, d10, d11, d12⟩ := ft_sides h
  obtain ⟨f1, f2, f3⟩ := ft_off h
  refine S1_n C (by omega) (by omega) (ft_tn ht) ?_
  refine S2_n C (by omega) (by omega) hw.1 hw.2 hs.1 hs.2 ?_
  refine S3_n C (by omega) (by omega) d9 d10 d1 d2 d3 d4 d5 d6 d7 d8 ?_
  refine S4_n C (by omega) (by omega) (ft_set h) d11 d12 f1 f2 f1 f3 ?_
  refine S5_n C (by omega) (by omega) (by rw [f2]; decide) ?_
  refine S8_n C (by omega) (by omega) hl T X.2.2.2.2.1 X.2.2.2.2.2.1 (ft_adv (i := i + 1) (by omega) h (k := 0) (by omega)) f1 (fun a9 t9 => ?_)
  refine S9_n C (by omega) (by omega) a9 t9 ((congrArg (fun z => lg_cmp z _) (digest_XX X a9 t9)).trans (lg_cmp_self _)) ?_
  have e1 : nI i + 1 = nI (i + 1) := nI_1 i
  rw [e1]
  refine k_widen (k' := K + 990) (n' := N + 5950) (by omega) (by omega) ?_
  exact kk _ (XX X a9 t9) Z none _ (wSim_none cI cJ z0 z1 z2 z3 Z) (h.XX a9 t9)
set_option maxHeartbeats 4000000 in
set_option maxRecDepth 100000 in
theorem law_after_r {p : Program} {l : Launch} {e : Env} {s : State} {m : MethodId} {args : Array Value} {below : List Frame} {meth : Method} {c : Code} {D : va_G} {cI cJ : ClassId} {A : Nat → Prop} {Q : State → Prop} {a0 a1 a2 a3 a4 a5 a6 z0 z1 z2 z3 z4 sc : Nat} {b : Lb} {X : Co} {Z : Zs} {K N : Nat} (C : kCx p s m args meth c RL cL_law 23 ret D cI cJ A) (hK : K + 6000 ≤ 600104) (hN : N + 60000 ≤ 7301314) (hl : l.stackTraces = false) (T : kTE A s s.heap) {X0 : Co} {Z0 : Zs} {β0 : Option Lb} {i : Nat} (hi : i < 16) (h0 : Rel i X0 Z0 β0) (h : Rel (i + 1) X Z (some b)) (ht : Tr X0 X) {nw x ia : Int32} (kk : ∀ (ib : Int32) (X' : Co) (Z' : Zs) (β' : Option Lb) (U : va_W), wSim cI cJ z0 Z' β' U → Rel (i + 1) X' Z' β' → kW p l e room_1 s m args below meth c D A 23 (K + 990) (N + 5950) Q (wC a0 a1 a2 a3 a4 a5 a6 X' ++ U) 21 [(0, .ref sc), (1, .ref a0), (2, .ref z0), (3, .int ib), (4, .int (nI (i + 1)))] []) : kW p l e room_1 s m args below meth c D A 23 K N Q (wC a0 a1 a2 a3 a4 a5 a6 X ++ (wZ cI cJ z0 z1 z2 z3 (.ref z4) Z ++ [(z4, cL b)])) 104 [(10, .int nw), (9, .int ((fX2_told_03 X0) + (fX2_told_13 X0))), (8, .int (fX2_count_1 X0)), (7, .int (fX2_count_2 X0)), (6, .int (fX2_count_3 X0)), (5, .int x), (0, .ref sc), (1, .ref a0), (2, .ref z0), (3, .int ia), (4, .int (nI i))] [] := by
  have hw := ft_wr (by omega) h0 ht
  have hs := ft_sums (by omega) h
  obtain ⟨⟨d1, d2, d3, d4⟩, ⟨d5, d6, d7, d8⟩, d9, d10, d11, d12⟩ := ft_sides h
  have hr := h.ron
  obtain ⟨f1, f2, f3, f4⟩ := ft_on (by omega) h hr
  obtain ⟨T0, t1, t2, t3, t4, t5, t6, _⟩ := ft_end (by omega) h hr
  obtain ⟨o1, o2, o3, o4, o5⟩ := h.on hr
  have hb : b = c10 X.2.2.1 := Option.some.inj o5
  refine S1_r C (by omega) (by omega) (ft_tn ht) ?_
  refine S2_r C (by omega) (by omega) hw.1 hw.2 hs.1 hs.2 ?_
  refine S3_r C (by omega) (by omega) d9 d10 d1 d2 d3 d4 d5 d6 d7 d8 ?_
  refine S4_r C (by omega) (by omega) (ft_set h) d11 d12 f1 f2 f1 f3 ?_
  refine S5_r C (by omega) (by omega) f4 ?_
  have hI : HI T0 0 X.2.2.1 (fX2_ball_1 X) 0 0 0 := by
    rw [show fX2_ball_1 X = X.2.2.1.2.1 from if_neg hr]
    exact HI.first o2
  refine fl_loop C hl T (by omega) h hr t1 t2 t3 t4 t5 t6 61 0 _ _ _ _ _ _ X.2.2.2.2.1 X.2.2.2.2.2.1 (by omega) (by omega) (by omega) hI (fun a t => ?_)
  refine S8_r C (by omega) (by omega) hl T a t (i := i + 1) (by omega) hb ⟨o2.fl, o3⟩ (ft_adv60 (i := i + 1) (by omega) h) f1 (fun a9 t9 => ?_)
  refine S9_r C (by omega) (by omega) a9 t9 ((congrArg (fun z => lg_cmp z _) (digest_XX X a9 t9)).trans (lg_cmp_self _)) ?_
  have e1 : nI i + 1 = nI (i + 1) := nI_1 i
  rw [e1]
  refine k_widen (k' := K + 990) (n' := N + 5950) (by omega) (by omega) ?_
  exact kk _ (XX X a9 t9) Z (some b) _ (wSim_some cI cJ z0 z1 z2 z3 z4 Z b) (h.XX a9 t9)