/-! when the ball can be struck -/
theorem hdL_moments : yL_moments.cls ≠ "java/lang/invoke/MethodHandle" ∧ yL_moments.cls ≠ "java/lang/invoke/VarHandle" ∧ (parseMethodDescriptor yL_moments.desc).map (fun d => d.parameters.length) = some 2 := by decide +kernel
set_option maxHeartbeats 4000000 in
set_option maxRecDepth 100000 in
theorem mom_l1 {p : Program} {l : Launch} {e : Env} {s : State} {m : MethodId} {args : Array Value} {below : List Frame} {meth : Method} {c : Code} {D : va_G} {cI cJ : ClassId} {A : Nat → Prop} {z0 z1 z2 z3 z4 q : Nat} {X : Zs} {b : Lb} {x : Int32} (C : kCx p s m args meth c RL cL_moments 6 (some .int) D cI cJ A) {i : Nat} (hi : i ≤ 512) (kk : ∀ (b' : Lb) (f : Nat), 1 ≤ f → f ≤ 700 → kW p l e { frames := 5, cells := 1, slots := 10, locals := 120 } s m args below meth c D A 6 (0 + 1) (0 + 10) (MQ below (va_Qi (fun r U => 1 ≤ r.toInt ∧ r.toInt ≤ 60 ∧ U = [(z0, cZ (.ref z4) z1 X.2.2), (z1, cQ cJ z2 z3), (z2, cA4 cI X.1), (z3, cA4 cI X.2.1), (z4, cL b)]) (fun U t => va_D A U ∧ va_P D kCl U t.heap) A) args s 1 10 A) [(z0, cZ (.ref z4) z1 X.2.2), (z1, cQ cJ z2 z3), (z2, cA4 cI X.1), (z3, cA4 cI X.2.1), (z4, cL b), (q, cL b')] 30 [(3, .int (nI f)), (2, .ref q), (0, .ref z0), (1, .int x)] []) : ∀ (t : Nat) (B : Ba) (f : Nat), FN i B → lef B ≤ t → 1 ≤ f → f + t ≤ 700 → kW p l e { frames := 5, cells := 1, slots := 10, locals := 120 } s m args below meth c D A 6 (0 + 1) (0 + 10) (MQ below (va_Qi (fun r U => 1 ≤ r.toInt ∧ r.toInt ≤ 60 ∧ U = [(z0, cZ (.ref z4) z1 X.2.2), (z1, cQ cJ z2 z3), (z2, cA4 cI X.1), (z3, cA4 cI X.2.1), (z4, cL b)]) (fun U t => va_D A U ∧ va_P D kCl U t.heap) A) args s 1 10 A) [(z0, cZ (.ref z4) z1 X.2.2), (z1, cQ cJ z2 z3), (z2, cA4 cI X.1), (z3, cA4 cI X.2.1), (z4, cL b), (q, cL (c10 B))] 10 [(3, .int (nI f)), (2, .ref q), (0, .ref z0), (1, .int x)] [] := by
  intro t
  induction t with
  | zero =>
    intro B f h h1
    have := (Fl.low hi h.1).1
    omega
  | succ t ih =>
    intro B f h h1 h2 h3
    obtain ⟨B', e1, e2, e3, eN, e4, e5, e6, e7⟩ := mom_fl hi h
    have hM := mX3_go l D cI cJ q (c10 B)
    rw [e2] at hM
    refine k_aload_n C dL_moments_10 1 rfl ?_
    refine k_callV_i C hM (cwV 0 C.2.2.2.2.1 (kGV q546 q547 q548 q47 q549) rfl rfl rfl ⟨rfl, hdX3_go⟩ ⟨Nat.le_of_ble_eq_true rfl, Nat.le_of_ble_eq_true rfl⟩) [5] [0, 1, 2, 3, 4] [0, 1, 2, 3, 4, 5] [(z0, cZ (.ref z4) z1 X.2.2), (z1, cQ cJ z2 z3), (z2, cA4 cI X.1), (z3, cA4 cI X.2.1), (z4, cL b)] ([(z0, cZ (.ref z4) z1 X.2.2), (z1, cQ cJ z2 z3), (z2, cA4 cI X.1), (z3, cA4 cI X.2.1), (z4, cL b), (q, cL (c10 B'))]) rfl rfl rfl rfl (by decide) [q] rfl rfl rfl rfl 5 3 rfl rfl rfl (Nat.le_of_ble_eq_true rfl) ⟨Nat.le_of_ble_eq_true rfl, Nat.le_of_ble_eq_true rfl⟩ rfl dL_moments_11 ?_
    refine k_if_ne C 30 (by decide) dL_moments_14 (fun _ => kk _ f h2 (by omega)) (fun c1 => ?_)
    obtain ⟨s1, s2⟩ := e7 c1
    refine k_aload_n C dL_moments_17 1 rfl ?_
    refine k_getX3 C 5 6 rfl (by decide) rfl q520 rfl dL_moments_18 ?_
    refine k_if_ne C 30 (by decide) dL_moments_21 (fun _ => kk _ f h2 (by omega)) (fun c2 => ?_)
    refine k_iinc C (nI (f + 1)) [(3, .int (nI (f + 1))), (2, .ref q), (0, .ref z0), (1, .int x)] 0 rfl (show nI f + Int32.ofInt 1 = nI (f + 1) from nI_1 f) (by decide) rfl dL_moments_24 ?_
    refine k_goto C 10 (by decide) dL_moments_27 ?_
    exact ih B' (f + 1) s1 (by omega) (by omega) (by omega)
set_option maxHeartbeats 4000000 in
set_option maxRecDepth 100000 in
theorem mom_l2 {p : Program} {l : Launch} {e : Env} {s : State} {m : MethodId} {args : Array Value} {below : List Frame} {meth : Method} {c : Code} {D : va_G} {cI cJ : ClassId} {A : Nat → Prop} {z0 z1 z2 z3 z4 q : Nat} {X : Zs} {b : Lb} {x : Int32} (C : kCx p s m args meth c RL cL_moments 6 (some .int) D cI cJ A) {f : Nat} (hf : f ≤ 700) (kk : ∀ (b' : Lb) (t : Nat), f ≤ t → (t = f ∨ t ≤ 60) → kW p l e { frames := 5, cells := 1, slots := 10, locals := 120 } s m args below meth c D A 6 (0 + 1) (0 + 10) (MQ below (va_Qi (fun r U => 1 ≤ r.toInt ∧ r.toInt ≤ 60 ∧ U = [(z0, cZ (.ref z4) z1 X.2.2), (z1, cQ cJ z2 z3), (z2, cA4 cI X.1), (z3, cA4 cI X.2.1), (z4, cL b)]) (fun U t => va_D A U ∧ va_P D kCl U t.heap) A) args s 1 10 A) [(z0, cZ (.ref z4) z1 X.2.2), (z1, cQ cJ z2 z3), (z2, cA4 cI X.1), (z3, cA4 cI X.2.1), (z4, cL b), (q, cL b')] 53 [(4, .int (nI t)), (3, .int (nI f)), (2, .ref q), (0, .ref z0), (1, .int x)] []) : ∀ (u : Nat) (b' : Lb) (t : Nat), 60 ≤ t + u → f ≤ t → (t = f ∨ t ≤ 60) → kW p l e { frames := 5, cells := 1, slots := 10, locals := 120 } s m args below meth c D A 6 (0 + 1) (0 + 10) (MQ below (va_Qi (fun r U => 1 ≤ r.toInt ∧ r.toInt ≤ 60 ∧ U = [(z0, cZ (.ref z4) z1 X.2.2), (z1, cQ cJ z2 z3), (z2, cA4 cI X.1), (z3, cA4 cI X.2.1), (z4, cL b)]) (fun U t => va_D A U ∧ va_P D kCl U t.heap) A) args s 1 10 A) [(z0, cZ (.ref z4) z1 X.2.2), (z1, cQ cJ z2 z3), (z2, cA4 cI X.1), (z3, cA4 cI X.2.1), (z4, cL b), (q, cL b')] 33 [(4, .int (nI t)), (3, .int (nI f)), (2, .ref q), (0, .ref z0), (1, .int x)] [] := by
  have e60 : (60 : Int32) = nI 60 := by decide
  intro u
  induction u with
  | zero =>
    intro b' t h1 h2 h3
    refine k_iload C dL_moments_33 0 rfl ?_
    refine k_bipush C 60 (by decide) dL_moments_35 ?_
    refine k_icmp_ge C 53 (by decide) dL_moments_37 (fun _ => kk _ t h2 h3) (fun c1 => ?_)
    rw [e60] at c1
    exact absurd (nI_le (by omega) (by omega)) c1
  | succ u ih =>
    intro b' t h1 h2 h3
    refine k_iload C dL_moments_33 0 rfl ?_
    refine k_bipush C 60 (by decide) dL_moments_35 ?_
    refine k_icmp_ge C 53 (by decide) dL_moments_37 (fun _ => kk _ t h2 h3) (fun c1 => ?_)
    rw [e60, nI_leI (by omega) (by omega)] at c1
    refine k_aload_n C dL_moments_40 2 rfl ?_
    refine k_callV_i C (mX3_go l D cI cJ q b') (cwV 0 C.2.2.2.2.1 (kGV q546 q547 q548 q47 q549) rfl rfl rfl ⟨rfl, hdX3_go⟩ ⟨Nat.le_of_ble_eq_true rfl, Nat.le_of_ble_eq_true rfl⟩) [5] [0, 1, 2, 3, 4] [0, 1, 2, 3, 4, 5] [(z0, cZ (.ref z4) z1 X.2.2), (z1, cQ cJ z2 z3), (z2, cA4 cI X.1), (z3, cA4 cI X.2.1), (z4, cL b)] ([(z0, cZ (.ref z4) z1 X.2.2), (z1, cQ cJ z2 z3), (z2, cA4 cI X.1), (z3, cA4 cI X.2.1), (z4, cL b), (q, cL (fX3_go b').2)]) rfl rfl rfl rfl (by decide) [q] rfl rfl rfl rfl 5 3 rfl rfl rfl (Nat.le_of_ble_eq_true rfl) ⟨Nat.le_of_ble_eq_true rfl, Nat.le_of_ble_eq_true rfl⟩ rfl dL_moments_41 ?_
    refine k_if_ne C 53 (by decide) dL_moments_44 (fun _ => kk _ t h2 h3) (fun c2 => ?_)
    refine k_iinc C (nI (t + 1)) [(4, .int (nI (t + 1))), (3, .int (nI f)), (2, .ref q), (0, .ref z0), (1, .int x)] 0 rfl (show nI t + Int32.ofInt 1 = nI (t + 1) from nI_1 t) (by decide) rfl dL_moments_47 ?_
    refine k_goto C 33 (by decide) dL_moments_50 ?_
    exact ih _ (t + 1) (by omega) (by omega) (by omega)
set_option maxHeartbeats 4000000 in
set_option maxRecDepth 100000 in
theorem mom_end {p : Program} {l : Launch} {e : Env} {s : State} {m : MethodId} {args : Array Value} {below : List Frame} {meth : Method} {c : Code} {D : va_G} {cI cJ : ClassId} {A : Nat → Prop} {z0 z1 z2 z3 z4 q : Nat} {X : Zs} {b : Lb} {x : Int32} (C : kCx p s m args meth c RL cL_moments 6 (some .int) D cI cJ A) {f t : Nat} (hf1 : 1 ≤ f) (hf : f ≤ 700) (ht : f ≤ t) (ht2 : t = f ∨ t ≤ 60) (b' : Lb) : kW p l e { frames := 5, cells := 1, slots := 10, locals := 120 } s m args below meth c D A 6 (0 + 1) (0 + 10) (MQ below (va_Qi (fun r U => 1 ≤ r.toInt ∧ r.toInt ≤ 60 ∧ U = [(z0, cZ (.ref z4) z1 X.2.2), (z1, cQ cJ z2 z3), (z2, cA4 cI X.1), (z3, cA4 cI X.2.1), (z4, cL b)]) (fun U t => va_D A U ∧ va_P D kCl U t.heap) A) args s 1 10 A) [(z0, cZ (.ref z4) z1 X.2.2), (z1, cQ cJ z2 z3), (z2, cA4 cI X.1), (z3, cA4 cI X.2.1), (z4, cL b), (q, cL b')] 53 [(4, .int (nI t)), (3, .int (nI f)), (2, .ref q), (0, .ref z0), (1, .int x)] [] := by
  have e60 : (60 : Int32) = nI 60 := by decide
  have fin : ∀ (r : Int32) (lv : List (Nat × Value)), 1 ≤ r.toInt → r.toInt ≤ 60 → kW p l e { frames := 5, cells := 1, slots := 10, locals := 120 } s m args below meth c D A 6 (0 + 1) (0 + 10) (MQ below (va_Qi (fun r U => 1 ≤ r.toInt ∧ r.toInt ≤ 60 ∧ U = [(z0, cZ (.ref z4) z1 X.2.2), (z1, cQ cJ z2 z3), (z2, cA4 cI X.1), (z3, cA4 cI X.2.1), (z4, cL b)]) (fun U t => va_D A U ∧ va_P D kCl U t.heap) A) args s 1 10 A) [(z0, cZ (.ref z4) z1 X.2.2), (z1, cQ cJ z2 z3), (z2, cA4 cI X.1), (z3, cA4 cI X.2.1), (z4, cL b), (q, cL b')] 107 lv [.int r] := fun r lv h1 h2 => k_wsub (w' := [(z0, cZ (.ref z4) z1 X.2.2), (z1, cQ cJ z2 z3), (z2, cA4 cI X.1), (z3, cA4 cI X.2.1), (z4, cL b)]) [0, 1, 2, 3, 4] rfl rfl (k_iretG C rfl ⟨h1, h2, rfl⟩ dL_moments_107)
  have tail : ∀ sp : Nat, 1 ≤ sp → sp ≤ 700 → kW p l e { frames := 5, cells := 1, slots := 10, locals := 120 } s m args below meth c D A 6 (0 + 1) (0 + 10) (MQ below (va_Qi (fun r U => 1 ≤ r.toInt ∧ r.toInt ≤ 60 ∧ U = [(z0, cZ (.ref z4) z1 X.2.2), (z1, cQ cJ z2 z3), (z2, cA4 cI X.1), (z3, cA4 cI X.2.1), (z4, cL b)]) (fun U t => va_D A U ∧ va_P D kCl U t.heap) A) args s 1 10 A) [(z0, cZ (.ref z4) z1 X.2.2), (z1, cQ cJ z2 z3), (z2, cA4 cI X.1), (z3, cA4 cI X.2.1), (z4, cL b), (q, cL b')] 69 [(4, .int (nI t)), (3, .int (nI f)), (2, .ref q), (0, .ref z0), (1, .int x)] [.int (nI sp)] := by
    intro sp s1 s2
    refine k_istore C [(5, .int (nI sp)), (4, .int (nI t)), (3, .int (nI f)), (2, .ref q), (0, .ref z0), (1, .int x)] (by decide) rfl dL_moments_69 ?_
    refine k_iload_n C dL_moments_71 5 rfl ?_
    refine k_iconst C 5 (by decide) dL_moments_72 ?_
    refine k_callS_i C (mL_below l D cI cJ x 5 (by decide)) (va_cwS 2 C.2.2.2.2.1 (kGS q553 q554 q34 q555) rfl rfl rfl hdL_below ⟨Nat.le_of_ble_eq_true rfl, Nat.le_of_ble_eq_true rfl⟩) [] [0, 1, 2, 3, 4, 5] [0, 1, 2, 3, 4, 5] [(z0, cZ (.ref z4) z1 X.2.2), (z1, cQ cJ z2 z3), (z2, cA4 cI X.1), (z3, cA4 cI X.2.1), (z4, cL b), (q, cL b')] ([(z0, cZ (.ref z4) z1 X.2.2), (z1, cQ cJ z2 z3), (z2, cA4 cI X.1), (z3, cA4 cI X.2.1), (z4, cL b), (q, cL b')]) rfl rfl rfl rfl (by decide) [] rfl rfl rfl rfl (Nat.le_of_ble_eq_true rfl) ⟨Nat.le_of_ble_eq_true rfl, Nat.le_of_ble_eq_true rfl⟩ rfl dL_moments_73 ?_
    refine k_if_ne C 92 (by decide) dL_moments_76 (fun _ => ?_) (fun _ => ?_)
    · refine k_bipush C 60 (by decide) dL_moments_92 ?_
      refine k_iload_n C dL_moments_94 2 rfl ?_
      refine k_iload_n C dL_moments_95 5 rfl ?_
      refine k_iconst C 2 (by decide) dL_moments_96 ?_
      refine k_ishr C dL_moments_97 ?_
      refine k_iload C dL_moments_98 0 rfl ?_
      refine k_callS_i C (mL_below l D cI cJ (x >>> (2 &&& 31)) (nI sp) (nI_ne0 (by omega) (by omega))) (va_cwS 2 C.2.2.2.2.1 (kGS q553 q554 q34 q555) rfl rfl rfl hdL_below ⟨Nat.le_of_ble_eq_true rfl, Nat.le_of_ble_eq_true rfl⟩) [] [0, 1, 2, 3, 4, 5] [0, 1, 2, 3, 4, 5] [(z0, cZ (.ref z4) z1 X.2.2), (z1, cQ cJ z2 z3), (z2, cA4 cI X.1), (z3, cA4 cI X.2.1), (z4, cL b), (q, cL b')] ([(z0, cZ (.ref z4) z1 X.2.2), (z1, cQ cJ z2 z3), (z2, cA4 cI X.1), (z3, cA4 cI X.2.1), (z4, cL b), (q, cL b')]) rfl rfl rfl rfl (by decide) [] rfl rfl rfl rfl (Nat.le_of_ble_eq_true rfl) ⟨Nat.le_of_ble_eq_true rfl, Nat.le_of_ble_eq_true rfl⟩ rfl dL_moments_100 ?_
      obtain ⟨j, hj, ej⟩ := below_b (x >>> (2 &&& 31)) (d := sp) (by omega) (by omega)
      rw [ej]
      refine k_iadd C dL_moments_103 ?_
      rw [nI_add]
      refine k_min C q557 q558 q45 q559 (Nat.le_of_ble_eq_true rfl) (Nat.le_of_ble_eq_true rfl) (Nat.le_of_ble_eq_true rfl) (Nat.le_of_ble_eq_true rfl) dL_moments_104 ?_
      refine fin _ _ ?_ ?_
      · by_cases h : nI (f + j) < 60
        · rw [if_pos h, nI_toInt (by omega)]; omega
        · rw [if_neg h]; decide
      · by_cases h : nI (f + j) < 60
        · rw [if_pos h]
          rw [kltI, n60] at h
          omega
        · rw [if_neg h]; decide
    · refine k_iconst C 1 (by decide) dL_moments_79 ?_
      refine k_iload_n C dL_moments_80 5 rfl ?_
      refine k_iconst C 2 (by decide) dL_moments_81 ?_
      refine k_ishr C dL_moments_82 ?_
      refine k_bipush C 60 (by decide) dL_moments_83 ?_
      refine k_callS_i C (mL_below l D cI cJ (x >>> (2 &&& 31)) 60 (by decide)) (va_cwS 2 C.2.2.2.2.1 (kGS q553 q554 q34 q555) rfl rfl rfl hdL_below ⟨Nat.le_of_ble_eq_true rfl, Nat.le_of_ble_eq_true rfl⟩) [] [0, 1, 2, 3, 4, 5] [0, 1, 2, 3, 4, 5] [(z0, cZ (.ref z4) z1 X.2.2), (z1, cQ cJ z2 z3), (z2, cA4 cI X.1), (z3, cA4 cI X.2.1), (z4, cL b), (q, cL b')] ([(z0, cZ (.ref z4) z1 X.2.2), (z1, cQ cJ z2 z3), (z2, cA4 cI X.1), (z3, cA4 cI X.2.1), (z4, cL b), (q, cL b')]) rfl rfl rfl rfl (by decide) [] rfl rfl rfl rfl (Nat.le_of_ble_eq_true rfl) ⟨Nat.le_of_ble_eq_true rfl, Nat.le_of_ble_eq_true rfl⟩ rfl dL_moments_85 ?_
      obtain ⟨j, hj, ej⟩ := below_b (x >>> (2 &&& 31)) (d := 60) (by omega) (by omega)
      rw [e60, ej]
      refine k_iadd C dL_moments_88 ?_
      refine k_goto C 107 (by decide) dL_moments_89 ?_
      rw [show (1 : Int32) = nI 1 from by decide, nI_add]
      exact fin _ _ (by rw [nI_toInt (by omega)]; omega) (by rw [nI_toInt (by omega)]; omega)
  refine k_iload C dL_moments_53 0 rfl ?_
  refine k_iload_n C dL_moments_55 1 rfl ?_
  refine k_icmp_le C 68 (by decide) dL_moments_56 (fun _ => ?_) (fun c1 => ?_)
  · refine k_iconst C 1 (by decide) dL_moments_68 ?_
    exact tail 1 (by omega) (by omega)
  · rw [nI_leI (by omega) (by omega)] at c1
    refine k_iload C dL_moments_59 0 rfl ?_
    refine k_iload_n C dL_moments_61 1 rfl ?_
    refine k_isub C dL_moments_62 ?_
    refine k_iconst C 1 (by decide) dL_moments_63 ?_
    refine k_iadd C dL_moments_64 ?_
    refine k_goto C 69 (by decide) dL_moments_65 ?_
    have e : nI t - nI f + 1 = nI (t - f + 1) := by
      have e2 : nI t = nI (t - f) + nI f := by rw [nI_add]; congr 1; omega
      rw [e2, Int32.add_sub_cancel, nI_1]
    rw [e]
    exact tail (t - f + 1) (by omega) (by omega)
set_option maxHeartbeats 4000000 in
set_option maxRecDepth 100000 in
theorem mL_moments (l : Launch) (D : va_G) (cI cJ : ClassId) (z0 z1 z2 z3 z4 : Nat) (X : Zs) (b : Lb) (x : Int32) {i : Nat} (hi : i ≤ 512) {B : Ba} (hb : b = c10 B) (hF : FN i B) :
    kGi l D cI cJ yL_moments (.code yL_moments cL_moments 6 (some .int)) { frames := 5, cells := 1, slots := 10, locals := 120 } [.ref z0, .int x] [(z0, cZ (.ref z4) z1 X.2.2), (z1, cQ cJ z2 z3), (z2, cA4 cI X.1), (z3, cA4 cI X.2.1), (z4, cL b)] 1 10 (fun r U => 1 ≤ r.toInt ∧ r.toInt ≤ 60 ∧ U = [(z0, cZ (.ref z4) z1 X.2.2), (z1, cQ cJ z2 z3), (z2, cA4 cI X.1), (z3, cA4 cI X.2.1), (z4, cL b)]) := by
  refine fun sz => k_ofN (lv := [(0, .ref z0), (1, .int x)]) (by decide) sz (Nat.le_of_ble_eq_true rfl) rfl ?_
  intro p e s m args below meth c hsz hnm C
  refine k_aload_n C dL_moments_0 0 rfl ?_
  refine k_getX4 C 0 3 rfl (by decide) rfl q427 rfl dL_moments_1 ?_
  refine k_callGV_r C (mX3_copyB l D cI cJ z4 b) (cwV 0 C.2.2.2.2.1 (kGV q497 q498 q499 q47 q500) rfl rfl rfl ⟨rfl, hdX3_copy⟩ ⟨Nat.le_of_ble_eq_true rfl, Nat.le_of_ble_eq_true rfl⟩) [4] [0, 1, 2, 3] [(z0, cZ (.ref z4) z1 X.2.2), (z1, cQ cJ z2 z3), (z2, cA4 cI X.1), (z3, cA4 cI X.2.1)] rfl rfl rfl rfl (by decide) 4 3 rfl rfl rfl (Nat.le_of_ble_eq_true rfl) ⟨Nat.le_of_ble_eq_true rfl, Nat.le_of_ble_eq_true rfl⟩ rfl dL_moments_4 (fun r1 U2 h3 => ?_)
  subst h3
  refine k_wsub (w' := [(z0, cZ (.ref z4) z1 X.2.2), (z1, cQ cJ z2 z3), (z2, cA4 cI X.1), (z3, cA4 cI X.2.1), (z4, cL b), (r1, cL b)]) [0, 1, 2, 3, 4, 5] rfl rfl ?_
  refine k_astore_n C [(2, .ref r1), (0, .ref z0), (1, .int x)] (by decide) rfl dL_moments_7 ?_
  refine k_iconst C 1 (by decide) dL_moments_8 ?_
  refine k_istore_n C [(3, .int 1), (2, .ref r1), (0, .ref z0), (1, .int x)] (by decide) rfl dL_moments_9 ?_
  subst hb
  refine mom_l1 C hi (fun b9 f f1 f2 => ?_) 512 B 1 hF (Fl.low hi hF.1).2.1 (by omega) (by omega)
  refine k_iload_n C dL_moments_30 0 rfl ?_
  refine k_istore C [(4, .int (nI f)), (3, .int (nI f)), (2, .ref r1), (0, .ref z0), (1, .int x)] (by decide) rfl dL_moments_31 ?_
  exact mom_l2 C f2 (fun b8 t t1 t2 => mom_end C f1 f2 t1 t2 b8) 60 b9 f (by omega) (Nat.le_refl _) (Or.inl rfl)