/-! the court: what it tells -/
theorem hdX2_shortestDeadStroke : yX2_shortestDeadStroke.cls ≠ "java/lang/invoke/MethodHandle" ∧ yX2_shortestDeadStroke.cls ≠ "java/lang/invoke/VarHandle" ∧ (parseMethodDescriptor yX2_shortestDeadStroke.desc).map (fun d => d.parameters.length) = some 0 := by decide +kernel
noncomputable def LX2_shortestDeadStroke (n : Nat) (tag : Nat) (v1 : Int32) (v2 : Int32) (v3 : Int32) (v4 : Int32) (v5 : Int32) (X : Co) : Option (Int32 × Co) := match n with
  | 0 => none
  | n + 1 => match tag with
    | 0 =>
      if 2 < v3 then some (v1, X)
      else LX2_shortestDeadStroke n 1 v1 v2 v3 (-2) 0 X
    | 1 =>
      if 2 < v4 then LX2_shortestDeadStroke n 0 v1 v2 (v3 + 1) 0 0 X
      else LX2_shortestDeadStroke n 2 v1 v2 v3 v4 0 X
    | _ =>
      if 9 < v5 then LX2_shortestDeadStroke n 1 v1 v2 v3 (v4 + 1) 0 X
      else (if (fX2_tryStroke v3 v4 v5 v2 X).2.2.2.2.2.1.2.2.2.2.2.2.2.2.2.2 = 3 then LX2_shortestDeadStroke n 2 (((50 * (v3 + 2)) + (10 * (v4 + 2))) + v5) ((fX2_tryStroke v3 v4 v5 v2 X).2.2.2.2.2.1.2.2.2.2.2.2.2.2.2.1 - 1) v3 v4 (v5 + 1) (fX2_tryStroke v3 v4 v5 v2 X)
        else LX2_shortestDeadStroke n 2 v1 v2 v3 v4 (v5 + 1) (fX2_tryStroke v3 v4 v5 v2 X))
set_option maxHeartbeats 4000000 in
set_option maxRecDepth 100000 in
theorem lX2_shortestDeadStroke {p : Program} {e : Env} {s : State} {m : MethodId} {args : Array Value} {below : List Frame} {meth : Method} {c : Code} {A : Nat → Prop} (l : Launch) {D : va_G} {cI cJ : ClassId} (a0 a1 a2 a3 a4 a5 a6 : Nat)  (C : kCx p s m args meth c RX2 cX2_shortestDeadStroke 6 (some .int) D cI cJ A) : ∀ (n : Nat), (∀ (v1 : Int32) (v2 : Int32) (v3 : Int32) (v4 : Int32) (v5 : Int32) (X : Co) (res : Int32 × Co), LX2_shortestDeadStroke n 0 v1 v2 v3 v4 v5 X = some res → kW p l e { frames := 6, cells := 0, slots := 0, locals := 130 } s m args below meth c D A 6 0 0 (MQ below (va_Qi (fun (r : Int32) (_ : Unit) => r = res.1) (fun _ t => va_P D kCl (wC a0 a1 a2 a3 a4 a5 a6 res.2) t.heap) A) args s 0 0 A) (wC a0 a1 a2 a3 a4 a5 a6 X) 8 [(0, .ref a0), (1, .int v1), (2, .int v2), (3, .int v3)] []) ∧ (∀ (v1 : Int32) (v2 : Int32) (v3 : Int32) (v4 : Int32) (v5 : Int32) (X : Co) (res : Int32 × Co), LX2_shortestDeadStroke n 1 v1 v2 v3 v4 v5 X = some res → kW p l e { frames := 6, cells := 0, slots := 0, locals := 130 } s m args below meth c D A 6 0 0 (MQ below (va_Qi (fun (r : Int32) (_ : Unit) => r = res.1) (fun _ t => va_P D kCl (wC a0 a1 a2 a3 a4 a5 a6 res.2) t.heap) A) args s 0 0 A) (wC a0 a1 a2 a3 a4 a5 a6 X) 17 [(0, .ref a0), (1, .int v1), (2, .int v2), (3, .int v3), (4, .int v4)] []) ∧ (∀ (v1 : Int32) (v2 : Int32) (v3 : Int32) (v4 : Int32) (v5 : Int32) (X : Co) (res : Int32 × Co), LX2_shortestDeadStroke n 2 v1 v2 v3 v4 v5 X = some res → kW p l e { frames := 6, cells := 0, slots := 0, locals := 130 } s m args below meth c D A 6 0 0 (MQ below (va_Qi (fun (r : Int32) (_ : Unit) => r = res.1) (fun _ t => va_P D kCl (wC a0 a1 a2 a3 a4 a5 a6 res.2) t.heap) A) args s 0 0 A) (wC a0 a1 a2 a3 a4 a5 a6 X) 26 [(0, .ref a0), (1, .int v1), (2, .int v2), (3, .int v3), (4, .int v4), (5, .int v5)] []) := by
  intro n
  induction n with
  | zero => exact ⟨fun _ _ _ _ _ _ _ hr => absurd hr (fun h => nomatch h), fun _ _ _ _ _ _ _ hr => absurd hr (fun h => nomatch h), fun _ _ _ _ _ _ _ hr => absurd hr (fun h => nomatch h)⟩
  | succ n ih =>
    refine ⟨?_, ?_, ?_⟩
    · intro v1 v2 v3 v4 v5 X res hr
      refine k_iload_n C dX2_shortestDeadStroke_8 3 rfl ?_
      refine k_iconst C 2 (by decide) dX2_shortestDeadStroke_9 ?_
      refine k_icmp_gt C 100 (by decide) dX2_shortestDeadStroke_10 (fun c1 => ?_) (fun c1 => ?_)
      ·
        refine k_iload_n C dX2_shortestDeadStroke_100 1 rfl ?_
        have hL : LX2_shortestDeadStroke (n + 1) 0 v1 v2 v3 v4 v5 X = some (v1, X) := by exact (if_pos c1).trans rfl
        obtain rfl := Option.some.inj (hL.symm.trans hr)
        exact k_iret C rfl rfl rfl dX2_shortestDeadStroke_101
      ·
        refine k_bipush C (-2) (by decide) dX2_shortestDeadStroke_13 ?_
        refine k_istore C [(4, .int (-2)), (0, .ref a0), (1, .int v1), (2, .int v2), (3, .int v3)] (by decide) rfl dX2_shortestDeadStroke_15 ?_
        have hL : LX2_shortestDeadStroke (n + 1) 0 v1 v2 v3 v4 v5 X = LX2_shortestDeadStroke n 1 v1 v2 v3 (-2) 0 X := by exact (if_neg c1).trans rfl
        refine k_sub [1, 2, 3, 4, 0] rfl ?_
        exact ih.2.1 v1 v2 v3 (-2) 0 X res (hL.symm.trans hr)
    · intro v1 v2 v3 v4 v5 X res hr
      refine k_iload C dX2_shortestDeadStroke_17 4 rfl ?_
      refine k_iconst C 2 (by decide) dX2_shortestDeadStroke_19 ?_
      refine k_icmp_gt C 94 (by decide) dX2_shortestDeadStroke_20 (fun c2 => ?_) (fun c2 => ?_)
      ·
        refine k_iinc C (v3 + 1) [(3, .int (v3 + 1)), (0, .ref a0), (1, .int v1), (2, .int v2), (4, .int v4)] 3 rfl rfl (by decide) rfl dX2_shortestDeadStroke_94 ?_
        refine k_goto C 8 (by decide) dX2_shortestDeadStroke_97 ?_
        have hL : LX2_shortestDeadStroke (n + 1) 1 v1 v2 v3 v4 v5 X = LX2_shortestDeadStroke n 0 v1 v2 (v3 + 1) 0 0 X := by exact (if_pos c2).trans rfl
        refine k_sub [1, 2, 3, 0] rfl ?_
        exact ih.1 v1 v2 (v3 + 1) 0 0 X res (hL.symm.trans hr)
      ·
        refine k_iconst C 0 (by decide) dX2_shortestDeadStroke_23 ?_
        refine k_istore C [(5, .int 0), (0, .ref a0), (1, .int v1), (2, .int v2), (3, .int v3), (4, .int v4)] (by decide) rfl dX2_shortestDeadStroke_24 ?_
        have hL : LX2_shortestDeadStroke (n + 1) 1 v1 v2 v3 v4 v5 X = LX2_shortestDeadStroke n 2 v1 v2 v3 v4 0 X := by exact (if_neg c2).trans rfl
        refine k_sub [1, 2, 3, 4, 5, 0] rfl ?_
        exact ih.2.2 v1 v2 v3 v4 0 X res (hL.symm.trans hr)
    · intro v1 v2 v3 v4 v5 X res hr
      refine k_iload C dX2_shortestDeadStroke_26 5 rfl ?_
      refine k_bipush C 9 (by decide) dX2_shortestDeadStroke_28 ?_
      refine k_icmp_gt C 88 (by decide) dX2_shortestDeadStroke_30 (fun c3 => ?_) (fun c3 => ?_)
      ·
        refine k_iinc C (v4 + 1) [(4, .int (v4 + 1)), (0, .ref a0), (1, .int v1), (2, .int v2), (3, .int v3), (5, .int v5)] 4 rfl rfl (by decide) rfl dX2_shortestDeadStroke_88 ?_
        refine k_goto C 17 (by decide) dX2_shortestDeadStroke_91 ?_
        have hL : LX2_shortestDeadStroke (n + 1) 2 v1 v2 v3 v4 v5 X = LX2_shortestDeadStroke n 1 v1 v2 v3 (v4 + 1) 0 X := by exact (if_pos c3).trans rfl
        refine k_sub [1, 2, 3, 4, 0] rfl ?_
        exact ih.2.1 v1 v2 v3 (v4 + 1) 0 X res (hL.symm.trans hr)
      ·
        refine k_aload_n C dX2_shortestDeadStroke_33 0 rfl ?_
        refine k_iload_n C dX2_shortestDeadStroke_34 3 rfl ?_
        refine k_iload C dX2_shortestDeadStroke_35 4 rfl ?_
        refine k_iload C dX2_shortestDeadStroke_37 5 rfl ?_
        refine k_iload_n C dX2_shortestDeadStroke_39 2 rfl ?_
        refine k_callV_v C (mX2_tryStroke l D cI cJ a0 a1 a2 a3 a4 a5 a6 v3 v4 v5 v2 X) (cwV 4 C.2.2.2.2.1 (kGV q386 q388 q21 q35 q389) rfl rfl rfl ⟨rfl, hdX2_tryStroke⟩ ⟨Nat.le_of_ble_eq_true rfl, Nat.le_of_ble_eq_true rfl⟩) [0, 1, 2, 3, 4, 5, 6] [] [0, 1, 2, 3, 4, 5, 6] [] (wC a0 a1 a2 a3 a4 a5 a6 (fX2_tryStroke v3 v4 v5 v2 X)) rfl rfl rfl rfl (by decide) [a0, a1, a2, a3, a4, a5, a6] rfl rfl rfl rfl 0 2 rfl rfl rfl (Nat.le_of_ble_eq_true rfl) ⟨Nat.zero_le _, Nat.zero_le _⟩ rfl dX2_shortestDeadStroke_40 ?_
        generalize ezz4 : fX2_tryStroke v3 v4 v5 v2 X = zz4
        refine k_aload_n C dX2_shortestDeadStroke_43 0 rfl ?_
        refine k_getX2 C 0 5 rfl (by decide) rfl q127 rfl dX2_shortestDeadStroke_44 ?_
        refine k_getNX0 C 6 10 rfl (by decide) rfl qn6 rfl dX2_shortestDeadStroke_47 ?_
        refine k_iconst C 3 (by decide) dX2_shortestDeadStroke_50 ?_
        refine k_icmp_ne C 82 (by decide) dX2_shortestDeadStroke_51 (fun c5 => ?_) (fun c5 => ?_)
        ·
          refine k_iinc C (v5 + 1) [(5, .int (v5 + 1)), (0, .ref a0), (1, .int v1), (2, .int v2), (3, .int v3), (4, .int v4)] 5 rfl rfl (by decide) rfl dX2_shortestDeadStroke_82 ?_
          refine k_goto C 26 (by decide) dX2_shortestDeadStroke_85 ?_
          have hL : LX2_shortestDeadStroke (n + 1) 2 v1 v2 v3 v4 v5 X = LX2_shortestDeadStroke n 2 v1 v2 v3 v4 (v5 + 1) zz4 := by subst ezz4; exact (if_neg c3).trans ((if_neg c5).trans rfl)
          refine k_sub [1, 2, 3, 4, 5, 0] rfl ?_
          exact ih.2.2 v1 v2 v3 v4 (v5 + 1) zz4 res (hL.symm.trans hr)
        ·
          refine k_bipush C 50 (by decide) dX2_shortestDeadStroke_54 ?_
          refine k_iload_n C dX2_shortestDeadStroke_56 3 rfl ?_
          refine k_iconst C 2 (by decide) dX2_shortestDeadStroke_57 ?_
          refine k_iadd C dX2_shortestDeadStroke_58 ?_
          refine k_imul C dX2_shortestDeadStroke_59 ?_
          refine k_bipush C 10 (by decide) dX2_shortestDeadStroke_60 ?_
          refine k_iload C dX2_shortestDeadStroke_62 4 rfl ?_
          refine k_iconst C 2 (by decide) dX2_shortestDeadStroke_64 ?_
          refine k_iadd C dX2_shortestDeadStroke_65 ?_
          refine k_imul C dX2_shortestDeadStroke_66 ?_
          refine k_iadd C dX2_shortestDeadStroke_67 ?_
          refine k_iload C dX2_shortestDeadStroke_68 5 rfl ?_
          refine k_iadd C dX2_shortestDeadStroke_70 ?_
          refine k_istore_n C [(1, .int (((50 * (v3 + 2)) + (10 * (v4 + 2))) + v5)), (0, .ref a0), (2, .int v2), (3, .int v3), (4, .int v4), (5, .int v5)] (by decide) rfl dX2_shortestDeadStroke_71 ?_
          refine k_aload_n C dX2_shortestDeadStroke_72 1 rfl ?_
          refine k_getX2 C 0 5 rfl (by decide) rfl q127 rfl dX2_shortestDeadStroke_73 ?_
          refine k_getNX0 C 6 9 rfl (by decide) rfl qn5 rfl dX2_shortestDeadStroke_76 ?_
          refine k_iconst C 1 (by decide) dX2_shortestDeadStroke_79 ?_
          refine k_isub C dX2_shortestDeadStroke_80 ?_
          refine k_istore_n C [(2, .int (zz4.2.2.2.2.2.1.2.2.2.2.2.2.2.2.2.1 - 1)), (1, .int (((50 * (v3 + 2)) + (10 * (v4 + 2))) + v5)), (0, .ref a0), (3, .int v3), (4, .int v4), (5, .int v5)] (by decide) rfl dX2_shortestDeadStroke_81 ?_
          refine k_iinc C (v5 + 1) [(5, .int (v5 + 1)), (2, .int (zz4.2.2.2.2.2.1.2.2.2.2.2.2.2.2.2.1 - 1)), (1, .int (((50 * (v3 + 2)) + (10 * (v4 + 2))) + v5)), (0, .ref a0), (3, .int v3), (4, .int v4)] 5 rfl rfl (by decide) rfl dX2_shortestDeadStroke_82 ?_
          refine k_goto C 26 (by decide) dX2_shortestDeadStroke_85 ?_
          have hL : LX2_shortestDeadStroke (n + 1) 2 v1 v2 v3 v4 v5 X = LX2_shortestDeadStroke n 2 (((50 * (v3 + 2)) + (10 * (v4 + 2))) + v5) (zz4.2.2.2.2.2.1.2.2.2.2.2.2.2.2.2.1 - 1) v3 v4 (v5 + 1) zz4 := by subst ezz4; exact (if_neg c3).trans ((if_pos c5).trans rfl)
          refine k_sub [3, 2, 1, 4, 5, 0] rfl ?_
          exact ih.2.2 (((50 * (v3 + 2)) + (10 * (v4 + 2))) + v5) (zz4.2.2.2.2.2.1.2.2.2.2.2.2.2.2.2.1 - 1) v3 v4 (v5 + 1) zz4 res (hL.symm.trans hr)
noncomputable def FX2_shortestDeadStroke (X : Co) : Option (Int32 × Co) :=
  LX2_shortestDeadStroke 2000 0 (-1) 1000000 (-2) 0 0 X
set_option maxHeartbeats 4000000 in
set_option maxRecDepth 100000 in
theorem moX2_shortestDeadStroke (l : Launch) (D : va_G) (cI cJ : ClassId) (a0 a1 a2 a3 a4 a5 a6 : Nat)  (X : Co) (res : Int32 × Co) (hr : FX2_shortestDeadStroke X = some res) : kCi l D cI cJ yX2_shortestDeadStroke (.code yX2_shortestDeadStroke cX2_shortestDeadStroke 6 (some .int)) { frames := 6, cells := 0, slots := 0, locals := 130 } [.ref a0] (wC a0 a1 a2 a3 a4 a5 a6 X) res.1 (wC a0 a1 a2 a3 a4 a5 a6 res.2) := by
  refine fun sz => k_of (lv := [(0, .ref a0)]) (by decide) sz (Nat.le_of_ble_eq_true rfl) rfl ?_
  intro p e s m args below meth c hsz C
  refine k_iconst C (-1) (by decide) dX2_shortestDeadStroke_0 ?_
  refine k_istore_n C [(1, .int (-1)), (0, .ref a0)] (by decide) rfl dX2_shortestDeadStroke_1 ?_
  refine k_ldc C q385 dX2_shortestDeadStroke_2 ?_
  refine k_istore_n C [(2, .int 1000000), (1, .int (-1)), (0, .ref a0)] (by decide) rfl dX2_shortestDeadStroke_4 ?_
  refine k_bipush C (-2) (by decide) dX2_shortestDeadStroke_5 ?_
  refine k_istore_n C [(3, .int (-2)), (2, .int 1000000), (1, .int (-1)), (0, .ref a0)] (by decide) rfl dX2_shortestDeadStroke_7 ?_
  have hL : FX2_shortestDeadStroke X = LX2_shortestDeadStroke 2000 0 (-1) 1000000 (-2) 0 0 X := by exact rfl
  refine k_sub [3, 2, 1, 0] rfl ?_
  exact (lX2_shortestDeadStroke l a0 a1 a2 a3 a4 a5 a6 C 2000).1 (-1) 1000000 (-2) 0 0 X res (hL.symm.trans hr)

theorem kltI {a b : Int32} : a < b ↔ a.toInt < b.toInt := Int32.lt_iff_toInt_lt
theorem tX2_sds : ∀ (n : Nat), (∀ (v1 v2 v3 v4 v5 : Int32) (X : Co), v3.toInt ≤ 3 → 1 + 70 * (3 - v3.toInt) ≤ (n : Int) → (LX2_shortestDeadStroke n 0 v1 v2 v3 v4 v5 X).isSome = true) ∧
    (∀ (v1 v2 v3 v4 v5 : Int32) (X : Co), v3.toInt ≤ 2 → v4.toInt ≤ 3 → 12 * (3 - v4.toInt) + 2 + 70 * (2 - v3.toInt) ≤ (n : Int) → (LX2_shortestDeadStroke n 1 v1 v2 v3 v4 v5 X).isSome = true) ∧
    (∀ (v1 v2 v3 v4 v5 : Int32) (X : Co), v3.toInt ≤ 2 → v4.toInt ≤ 2 → v5.toInt ≤ 10 → 1 + (10 - v5.toInt) + 12 * (2 - v4.toInt) + 2 + 70 * (2 - v3.toInt) ≤ (n : Int) → (LX2_shortestDeadStroke n 2 v1 v2 v3 v4 v5 X).isSome = true) := by
  have e2 : ((2 : Int32)).toInt = 2 := by decide
  have e9 : ((9 : Int32)).toInt = 9 := by decide
  have e0 : ((0 : Int32)).toInt = 0 := by decide
  have em : ((-2 : Int32)).toInt = -2 := by decide
  intro n
  induction n with
  | zero =>
    refine ⟨fun v1 v2 v3 v4 v5 X h1 h2 => ?_, fun v1 v2 v3 v4 v5 X h1 h2 h3 => ?_, fun v1 v2 v3 v4 v5 X h1 h2 h3 h4 => ?_⟩ <;> exfalso <;> omega
  | succ n ih =>
    obtain ⟨i0, i1, i2⟩ := ih
    refine ⟨fun v1 v2 v3 v4 v5 X h1 h2 => ?_, fun v1 v2 v3 v4 v5 X h1 h2 h3 => ?_, fun v1 v2 v3 v4 v5 X h1 h2 h3 h4 => ?_⟩
    · show (if 2 < v3 then some (v1, X) else LX2_shortestDeadStroke n 1 v1 v2 v3 (-2) 0 X).isSome = true
      by_cases c : 2 < v3
      · rw [if_pos c]; rfl
      · rw [if_neg c]
        rw [kltI, e2] at c
        refine i1 _ _ _ _ _ _ (by omega) (by rw [em]; omega) ?_
        rw [em]; omega
    · show (if 2 < v4 then LX2_shortestDeadStroke n 0 v1 v2 (v3 + 1) 0 0 X else LX2_shortestDeadStroke n 2 v1 v2 v3 v4 0 X).isSome = true
      by_cases c : 2 < v4
      · rw [if_pos c]
        rw [kltI, e2] at c
        have e3 := kincI (a := v3) (m := 3) (by omega) (by omega)
        refine i0 _ _ _ _ _ _ (by rw [e3]; omega) ?_
        rw [e3]; omega
      · rw [if_neg c]
        rw [kltI, e2] at c
        refine i2 _ _ _ _ _ _ (by omega) (by omega) (by rw [e0]; omega) ?_
        rw [e0]; omega
    · unfold LX2_shortestDeadStroke
      show (if 9 < v5 then LX2_shortestDeadStroke n 1 v1 v2 v3 (v4 + 1) 0 X else _).isSome = true
      by_cases c : 9 < v5
      · rw [if_pos c]
        rw [kltI, e9] at c
        have e3 := kincI (a := v4) (m := 3) (by omega) (by omega)
        refine i1 _ _ _ _ _ _ (by omega) (by rw [e3]; omega) ?_
        rw [e3]; omega
      · rw [if_neg c]
        rw [kltI, e9] at c
        have e3 := kincI (a := v5) (m := 10) (by omega) (by omega)
        split
        · refine i2 _ _ _ _ _ _ (by omega) (by omega) (by rw [e3]; omega) ?_
          rw [e3]; omega
        · refine i2 _ _ _ _ _ _ (by omega) (by omega) (by rw [e3]; omega) ?_
          rw [e3]; omega
noncomputable def fX2_shortestDeadStroke (X : Co) : Int32 × Co := @Classical.epsilon (Int32 × Co) ⟨(0, X)⟩ (fun r => FX2_shortestDeadStroke X = some r)
theorem mX2_shortestDeadStroke (l : Launch) (D : va_G) (cI cJ : ClassId) (a0 a1 a2 a3 a4 a5 a6 : Nat)  (X : Co)  : kCi l D cI cJ yX2_shortestDeadStroke (.code yX2_shortestDeadStroke cX2_shortestDeadStroke 6 (some .int)) { frames := 6, cells := 0, slots := 0, locals := 130 } [.ref a0] (wC a0 a1 a2 a3 a4 a5 a6 X) (fX2_shortestDeadStroke X).1 (wC a0 a1 a2 a3 a4 a5 a6 (fX2_shortestDeadStroke X).2) :=
  moX2_shortestDeadStroke l D cI cJ a0 a1 a2 a3 a4 a5 a6 X _ (kSome ((0, X)) ((tX2_sds 2000).1 _ _ _ _ _ _ (by decide) (by decide)))

theorem hdX2_count : yX2_count.cls ≠ "java/lang/invoke/MethodHandle" ∧ yX2_count.cls ≠ "java/lang/invoke/VarHandle" ∧ (parseMethodDescriptor yX2_count.desc).map (fun d => d.parameters.length) = some 1 := by decide +kernel
noncomputable def fX2_count_0 (X : Co) : Int32 :=
  X.2.2.2.2.2.2.1
set_option maxHeartbeats 4000000 in
set_option maxRecDepth 100000 in
theorem mX2_count_0 (l : Launch) (D : va_G) (cI cJ : ClassId) (a0 a1 a2 a3 a4 a5 a6 : Nat) (X : Co)  : kCi l D cI cJ yX2_count (.code yX2_count cX2_count 2 (some .int)) { frames := 6, cells := 0, slots := 0, locals := 90 } [.ref a0, .int 0] (wC a0 a1 a2 a3 a4 a5 a6 X) (fX2_count_0 X) (wC a0 a1 a2 a3 a4 a5 a6 X) := by
  refine fun sz => k_of (lv := [(0, .ref a0), (1, .int 0)]) (by decide) sz (by exact Nat.le_of_ble_eq_true rfl) rfl ?_
  intro p e s m args below meth c hsz C
  refine k_iload_n C dX2_count_0 1 rfl ?_
  refine k_tabIn (off := 51) C 52 (by decide) (by decide) (by decide +kernel) (by decide) dX2_count_1 ?_
  refine k_aload_n C dX2_count_52 0 rfl ?_
  refine k_getX2 C 0 6 rfl (by decide) rfl q128 rfl dX2_count_53 ?_
  have hL : fX2_count_0 X = X.2.2.2.2.2.2.1 := by exact rfl
  exact k_iret C rfl (hL.symm) rfl dX2_count_56

noncomputable def fX2_count_1 (X : Co) : Int32 :=
  if X.2.2.2.2.2.2.2.1 = 0 then (-1)
  else (fX2_sideToStrike X)
set_option maxHeartbeats 4000000 in
set_option maxRecDepth 100000 in
theorem mX2_count_1 (l : Launch) (D : va_G) (cI cJ : ClassId) (a0 a1 a2 a3 a4 a5 a6 : Nat) (X : Co)  : kCi l D cI cJ yX2_count (.code yX2_count cX2_count 2 (some .int)) { frames := 6, cells := 0, slots := 0, locals := 90 } [.ref a0, .int 1] (wC a0 a1 a2 a3 a4 a5 a6 X) (fX2_count_1 X) (wC a0 a1 a2 a3 a4 a5 a6 X) := by
  refine fun sz => k_of (lv := [(0, .ref a0), (1, .int 1)]) (by decide) sz (by exact Nat.le_of_ble_eq_true rfl) rfl ?_
  intro p e s m args below meth c hsz C
  refine k_iload_n C dX2_count_0 1 rfl ?_
  refine k_tabIn (off := 56) C 57 (by decide) (by decide) (by decide +kernel) (by decide) dX2_count_1 ?_
  refine k_aload_n C dX2_count_57 0 rfl ?_
  refine k_getX2 C 0 7 rfl (by decide) rfl q129 rfl dX2_count_58 ?_
  refine k_if_eq C 71 (by decide) dX2_count_61 (fun c1 => ?_) (fun c1 => ?_)
  ·
    refine k_iconst C (-1) (by decide) dX2_count_71 ?_
    have hL : fX2_count_1 X = (-1) := by exact (if_pos c1).trans rfl
    exact k_iret C rfl (hL.symm) rfl dX2_count_72
  ·
    refine k_aload_n C dX2_count_64 0 rfl ?_
    refine k_callV_i C (mX2_sideToStrike l D cI cJ a0 a1 a2 a3 a4 a5 a6 X) (cwV 0 C.2.2.2.2.1 (kGV q264 q266 q4 q35 q267) rfl rfl rfl ⟨rfl, hdX2_sideToStrike⟩ ⟨Nat.le_of_ble_eq_true rfl, Nat.le_of_ble_eq_true rfl⟩) [0, 1, 2, 3, 4, 5, 6] [] [0, 1, 2, 3, 4, 5, 6] [] ([(a0, cF a1 a2 a3 a4 a5 a6 X.2.2.2.2.2.2), (a1, cS X.1), (a2, cS X.2.1), (a3, cB X.2.2.1), (a4, cB X.2.2.2.1), (a5, cB X.2.2.2.2.1), (a6, cB X.2.2.2.2.2.1)]) rfl rfl rfl rfl (by decide) [a0, a1, a2, a3, a4, a5, a6] rfl rfl rfl rfl 0 2 rfl rfl rfl (Nat.le_of_ble_eq_true rfl) ⟨Nat.zero_le _, Nat.zero_le _⟩ rfl dX2_count_65 ?_
    generalize er2 : fX2_sideToStrike X = r2
    refine k_goto C 72 (by decide) dX2_count_68 ?_
    have hL : fX2_count_1 X = r2 := by subst er2; exact (if_neg c1).trans rfl
    exact k_iret C rfl (hL.symm) rfl dX2_count_72

noncomputable def fX2_count_2 (X : Co) : Int32 :=
  X.2.2.2.2.2.2.2.2.1
set_option maxHeartbeats 4000000 in
set_option maxRecDepth 100000 in
theorem mX2_count_2 (l : Launch) (D : va_G) (cI cJ : ClassId) (a0 a1 a2 a3 a4 a5 a6 : Nat) (X : Co)  : kCi l D cI cJ yX2_count (.code yX2_count cX2_count 2 (some .int)) { frames := 6, cells := 0, slots := 0, locals := 90 } [.ref a0, .int 2] (wC a0 a1 a2 a3 a4 a5 a6 X) (fX2_count_2 X) (wC a0 a1 a2 a3 a4 a5 a6 X) := by
  refine fun sz => k_of (lv := [(0, .ref a0), (1, .int 2)]) (by decide) sz (by exact Nat.le_of_ble_eq_true rfl) rfl ?_
  intro p e s m args below meth c hsz C
  refine k_iload_n C dX2_count_0 1 rfl ?_
  refine k_tabIn (off := 72) C 73 (by decide) (by decide) (by decide +kernel) (by decide) dX2_count_1 ?_
  refine k_aload_n C dX2_count_73 0 rfl ?_
  refine k_getX2 C 0 8 rfl (by decide) rfl q130 rfl dX2_count_74 ?_
  have hL : fX2_count_2 X = X.2.2.2.2.2.2.2.2.1 := by exact rfl
  exact k_iret C rfl (hL.symm) rfl dX2_count_77

noncomputable def fX2_count_3 (X : Co) : Int32 :=
  X.2.2.2.2.2.2.2.2.2.2.2.1
set_option maxHeartbeats 4000000 in
set_option maxRecDepth 100000 in
theorem mX2_count_3 (l : Launch) (D : va_G) (cI cJ : ClassId) (a0 a1 a2 a3 a4 a5 a6 : Nat) (X : Co)  : kCi l D cI cJ yX2_count (.code yX2_count cX2_count 2 (some .int)) { frames := 6, cells := 0, slots := 0, locals := 90 } [.ref a0, .int 3] (wC a0 a1 a2 a3 a4 a5 a6 X) (fX2_count_3 X) (wC a0 a1 a2 a3 a4 a5 a6 X) := by
  refine fun sz => k_of (lv := [(0, .ref a0), (1, .int 3)]) (by decide) sz (by exact Nat.le_of_ble_eq_true rfl) rfl ?_
  intro p e s m args below meth c hsz C
  refine k_iload_n C dX2_count_0 1 rfl ?_
  refine k_tabIn (off := 77) C 78 (by decide) (by decide) (by decide +kernel) (by decide) dX2_count_1 ?_
  refine k_aload_n C dX2_count_78 0 rfl ?_
  refine k_getX2 C 0 11 rfl (by decide) rfl q133 rfl dX2_count_79 ?_
  have hL : fX2_count_3 X = X.2.2.2.2.2.2.2.2.2.2.2.1 := by exact rfl
  exact k_iret C rfl (hL.symm) rfl dX2_count_82

noncomputable def fX2_count_4 (X : Co) : Int32 :=
  X.2.2.2.2.2.2.2.2.2.2.2.2.2.1
set_option maxHeartbeats 4000000 in
set_option maxRecDepth 100000 in
theorem mX2_count_4 (l : Launch) (D : va_G) (cI cJ : ClassId) (a0 a1 a2 a3 a4 a5 a6 : Nat) (X : Co)  : kCi l D cI cJ yX2_count (.code yX2_count cX2_count 2 (some .int)) { frames := 6, cells := 0, slots := 0, locals := 90 } [.ref a0, .int 4] (wC a0 a1 a2 a3 a4 a5 a6 X) (fX2_count_4 X) (wC a0 a1 a2 a3 a4 a5 a6 X) := by
  refine fun sz => k_of (lv := [(0, .ref a0), (1, .int 4)]) (by decide) sz (by exact Nat.le_of_ble_eq_true rfl) rfl ?_
  intro p e s m args below meth c hsz C
  refine k_iload_n C dX2_count_0 1 rfl ?_
  refine k_tabIn (off := 82) C 83 (by decide) (by decide) (by decide +kernel) (by decide) dX2_count_1 ?_
  refine k_aload_n C dX2_count_83 0 rfl ?_
  refine k_getX2 C 0 13 rfl (by decide) rfl q135 rfl dX2_count_84 ?_
  have hL : fX2_count_4 X = X.2.2.2.2.2.2.2.2.2.2.2.2.2.1 := by exact rfl
  exact k_iret C rfl (hL.symm) rfl dX2_count_87

noncomputable def fX2_count_5 (X : Co) : Int32 :=
  X.2.2.2.2.2.2.2.2.2.1
set_option maxHeartbeats 4000000 in
set_option maxRecDepth 100000 in
theorem mX2_count_5 (l : Launch) (D : va_G) (cI cJ : ClassId) (a0 a1 a2 a3 a4 a5 a6 : Nat) (X : Co)  : kCi l D cI cJ yX2_count (.code yX2_count cX2_count 2 (some .int)) { frames := 6, cells := 0, slots := 0, locals := 90 } [.ref a0, .int 5] (wC a0 a1 a2 a3 a4 a5 a6 X) (fX2_count_5 X) (wC a0 a1 a2 a3 a4 a5 a6 X) := by
  refine fun sz => k_of (lv := [(0, .ref a0), (1, .int 5)]) (by decide) sz (by exact Nat.le_of_ble_eq_true rfl) rfl ?_
  intro p e s m args below meth c hsz C
  refine k_iload_n C dX2_count_0 1 rfl ?_
  refine k_tabIn (off := 87) C 88 (by decide) (by decide) (by decide +kernel) (by decide) dX2_count_1 ?_
  refine k_aload_n C dX2_count_88 0 rfl ?_
  refine k_getX2 C 0 9 rfl (by decide) rfl q131 rfl dX2_count_89 ?_
  have hL : fX2_count_5 X = X.2.2.2.2.2.2.2.2.2.1 := by exact rfl
  exact k_iret C rfl (hL.symm) rfl dX2_count_92

noncomputable def fX2_count_6 (X : Co) : Int32 :=
  if (fX2_canBeSet X) = 0 then 0
  else 1
set_option maxHeartbeats 4000000 in
set_option maxRecDepth 100000 in
theorem mX2_count_6 (l : Launch) (D : va_G) (cI cJ : ClassId) (a0 a1 a2 a3 a4 a5 a6 : Nat) (X : Co)  : kCi l D cI cJ yX2_count (.code yX2_count cX2_count 2 (some .int)) { frames := 6, cells := 0, slots := 0, locals := 90 } [.ref a0, .int 6] (wC a0 a1 a2 a3 a4 a5 a6 X) (fX2_count_6 X) (wC a0 a1 a2 a3 a4 a5 a6 X) := by
  refine fun sz => k_of (lv := [(0, .ref a0), (1, .int 6)]) (by decide) sz (by exact Nat.le_of_ble_eq_true rfl) rfl ?_
  intro p e s m args below meth c hsz C
  refine k_iload_n C dX2_count_0 1 rfl ?_
  refine k_tabIn (off := 92) C 93 (by decide) (by decide) (by decide +kernel) (by decide) dX2_count_1 ?_
  refine k_aload_n C dX2_count_93 0 rfl ?_
  refine k_callV_i C (mX2_canBeSet l D cI cJ a0 a1 a2 a3 a4 a5 a6 X) (cwV 0 C.2.2.2.2.1 (kGV q271 q273 q5 q35 q274) rfl rfl rfl ⟨rfl, hdX2_canBeSet⟩ ⟨Nat.le_of_ble_eq_true rfl, Nat.le_of_ble_eq_true rfl⟩) [0, 1, 2, 3, 4, 5, 6] [] [0, 1, 2, 3, 4, 5, 6] [] ([(a0, cF a1 a2 a3 a4 a5 a6 X.2.2.2.2.2.2), (a1, cS X.1), (a2, cS X.2.1), (a3, cB X.2.2.1), (a4, cB X.2.2.2.1), (a5, cB X.2.2.2.2.1), (a6, cB X.2.2.2.2.2.1)]) rfl rfl rfl rfl (by decide) [a0, a1, a2, a3, a4, a5, a6] rfl rfl rfl rfl 0 2 rfl rfl rfl (Nat.le_of_ble_eq_true rfl) ⟨Nat.zero_le _, Nat.zero_le _⟩ rfl dX2_count_94 ?_
  generalize er1 : fX2_canBeSet X = r1
  refine k_if_eq C 104 (by decide) dX2_count_97 (fun c2 => ?_) (fun c2 => ?_)
  ·
    refine k_iconst C 0 (by decide) dX2_count_104 ?_
    have hL : fX2_count_6 X = 0 := by subst er1; exact (if_pos c2).trans rfl
    exact k_iret C rfl (hL.symm) rfl dX2_count_105
  ·
    refine k_iconst C 1 (by decide) dX2_count_100 ?_
    refine k_goto C 105 (by decide) dX2_count_101 ?_
    have hL : fX2_count_6 X = 1 := by subst er1; exact (if_neg c2).trans rfl
    exact k_iret C rfl (hL.symm) rfl dX2_count_105

noncomputable def fX2_count_7 (X : Co) : Int32 :=
  X.2.2.2.2.2.2.2.2.2.2.1
set_option maxHeartbeats 4000000 in
set_option maxRecDepth 100000 in
theorem mX2_count_7 (l : Launch) (D : va_G) (cI cJ : ClassId) (a0 a1 a2 a3 a4 a5 a6 : Nat) (X : Co)  : kCi l D cI cJ yX2_count (.code yX2_count cX2_count 2 (some .int)) { frames := 6, cells := 0, slots := 0, locals := 90 } [.ref a0, .int 7] (wC a0 a1 a2 a3 a4 a5 a6 X) (fX2_count_7 X) (wC a0 a1 a2 a3 a4 a5 a6 X) := by
  refine fun sz => k_of (lv := [(0, .ref a0), (1, .int 7)]) (by decide) sz (by exact Nat.le_of_ble_eq_true rfl) rfl ?_
  intro p e s m args below meth c hsz C
  refine k_iload_n C dX2_count_0 1 rfl ?_
  refine k_tabIn (off := 105) C 106 (by decide) (by decide) (by decide +kernel) (by decide) dX2_count_1 ?_
  refine k_aload_n C dX2_count_106 0 rfl ?_
  refine k_getX2 C 0 10 rfl (by decide) rfl q132 rfl dX2_count_107 ?_
  have hL : fX2_count_7 X = X.2.2.2.2.2.2.2.2.2.2.1 := by exact rfl
  exact k_iret C rfl (hL.symm) rfl dX2_count_110

noncomputable def fX2_count_8 (X : Co) : Int32 :=
  X.2.2.2.2.2.2.2.2.2.2.2.2.2.2
set_option maxHeartbeats 4000000 in
set_option maxRecDepth 100000 in
theorem mX2_count_8 (l : Launch) (D : va_G) (cI cJ : ClassId) (a0 a1 a2 a3 a4 a5 a6 : Nat) (X : Co)  : kCi l D cI cJ yX2_count (.code yX2_count cX2_count 2 (some .int)) { frames := 6, cells := 0, slots := 0, locals := 90 } [.ref a0, .int 8] (wC a0 a1 a2 a3 a4 a5 a6 X) (fX2_count_8 X) (wC a0 a1 a2 a3 a4 a5 a6 X) := by
  refine fun sz => k_of (lv := [(0, .ref a0), (1, .int 8)]) (by decide) sz (by exact Nat.le_of_ble_eq_true rfl) rfl ?_
  intro p e s m args below meth c hsz C
  refine k_iload_n C dX2_count_0 1 rfl ?_
  refine k_tabIn (off := 110) C 111 (by decide) (by decide) (by decide +kernel) (by decide) dX2_count_1 ?_
  refine k_aload_n C dX2_count_111 0 rfl ?_
  refine k_getX2 C 0 14 rfl (by decide) rfl q136 rfl dX2_count_112 ?_
  have hL : fX2_count_8 X = X.2.2.2.2.2.2.2.2.2.2.2.2.2.2 := by exact rfl
  exact k_iret C rfl (hL.symm) rfl dX2_count_115

set_option maxHeartbeats 4000000 in
set_option maxRecDepth 100000 in
theorem mX2_isSide_k0 (l : Launch) (D : va_G) (cI cJ : ClassId)   : kCi l D cI cJ yX2_isSide (.code yX2_isSide cX2_isSide 1 (some .boolean)) { frames := 0, cells := 0, slots := 0, locals := 0 } [.int 0] [] (1) [] := by
  refine fun sz => k_of (lv := [(0, .int 0)]) (by decide) sz (by exact Nat.le_of_ble_eq_true rfl) rfl ?_
  intro p e s m args below meth c hsz C
  refine k_iload_n C dX2_isSide_0 0 rfl ?_
  refine k_if_eq C 9 (by decide) dX2_isSide_1 (fun _ => ?_) (fun h => absurd (by decide) h)
  refine k_iconst C 1 (by decide) dX2_isSide_9 ?_
  refine k_goto C 14 (by decide) dX2_isSide_10 ?_
  exact k_zret C rfl rfl rfl rfl dX2_isSide_14

theorem hdX2_told : yX2_told.cls ≠ "java/lang/invoke/MethodHandle" ∧ yX2_told.cls ≠ "java/lang/invoke/VarHandle" ∧ (parseMethodDescriptor yX2_told.desc).map (fun d => d.parameters.length) = some 2 := by decide +kernel
noncomputable def fX2_told_00 (X : Co) : Int32 :=
  X.1.1
set_option maxHeartbeats 4000000 in
set_option maxRecDepth 100000 in
theorem mX2_told_00 (l : Launch) (D : va_G) (cI cJ : ClassId) (a0 a1 a2 a3 a4 a5 a6 : Nat) (X : Co)  : kCi l D cI cJ yX2_told (.code yX2_told cX2_told 3 (some .int)) { frames := 6, cells := 0, slots := 0, locals := 90 } [.ref a0, .int 0, .int 0] (wC a0 a1 a2 a3 a4 a5 a6 X) (fX2_told_00 X) (wC a0 a1 a2 a3 a4 a5 a6 X) := by
  refine fun sz => k_of (lv := [(0, .ref a0), (1, .int 0), (2, .int 0)]) (by decide) sz (by exact Nat.le_of_ble_eq_true rfl) rfl ?_
  intro p e s m args below meth c hsz C
  refine k_iload_n C dX2_told_0 1 rfl ?_
  refine k_callS_i C (mX2_isSide_k0 l D cI cJ) (va_cwS 1 C.2.2.2.2.1 (kGS q248 q249 q35 q250) rfl rfl rfl hdX2_isSide ⟨Nat.le_of_ble_eq_true rfl, Nat.le_of_ble_eq_true rfl⟩) [] [0, 1, 2, 3, 4, 5, 6] [0, 1, 2, 3, 4, 5, 6] [(a0, cF a1 a2 a3 a4 a5 a6 X.2.2.2.2.2.2), (a1, cS X.1), (a2, cS X.2.1), (a3, cB X.2.2.1), (a4, cB X.2.2.2.1), (a5, cB X.2.2.2.2.1), (a6, cB X.2.2.2.2.2.1)] ([(a0, cF a1 a2 a3 a4 a5 a6 X.2.2.2.2.2.2), (a1, cS X.1), (a2, cS X.2.1), (a3, cB X.2.2.1), (a4, cB X.2.2.2.1), (a5, cB X.2.2.2.2.1), (a6, cB X.2.2.2.2.2.1)]) rfl rfl rfl rfl (by decide) [] rfl rfl rfl rfl (Nat.le_of_ble_eq_true rfl) ⟨Nat.zero_le _, Nat.zero_le _⟩ rfl dX2_told_1 ?_
  refine k_if_eq C 16 (by decide) dX2_told_4 (fun h => absurd h (by decide)) (fun _ => ?_)
  refine k_iload_n C dX2_told_7 2 rfl ?_
  refine k_if_lt C 16 (by decide) dX2_told_8 (fun h => absurd h (by decide)) (fun _ => ?_)
  refine k_iload_n C dX2_told_11 2 rfl ?_
  refine k_iconst C 4 (by decide) dX2_told_12 ?_
  refine k_icmp_lt C 26 (by decide) dX2_told_13 (fun _ => ?_) (fun h => absurd (by decide) h)
  refine k_aload_n C dX2_told_26 0 rfl ?_
  refine k_iload_n C dX2_told_27 1 rfl ?_
  refine k_callV_r C (mX2_sideOf_1 l D cI cJ a0 a1 a2 a3 a4 a5 a6 0 X (by decide)) (cwV 1 C.2.2.2.2.1 (kGV q252 q254 q2 q35 q255) rfl rfl rfl ⟨rfl, hdX2_sideOf⟩ ⟨Nat.le_of_ble_eq_true rfl, Nat.le_of_ble_eq_true rfl⟩) [0, 1, 2, 3, 4, 5, 6] [] [0, 1, 2, 3, 4, 5, 6] [] ([(a0, cF a1 a2 a3 a4 a5 a6 X.2.2.2.2.2.2), (a1, cS X.1), (a2, cS X.2.1), (a3, cB X.2.2.1), (a4, cB X.2.2.2.1), (a5, cB X.2.2.2.2.1), (a6, cB X.2.2.2.2.2.1)]) rfl rfl rfl rfl (by decide) [a0, a1, a2, a3, a4, a5, a6] rfl rfl rfl rfl 0 2 rfl rfl rfl (Nat.le_of_ble_eq_true rfl) ⟨Nat.zero_le _, Nat.zero_le _⟩ rfl dX2_told_28 ?_
  refine k_iload_n C dX2_told_31 2 rfl ?_
  refine k_callN_i C (mX1_part_0 l D cI cJ a1 X.1) ⟨va_cnB 1 C.2.2.2.2.1 (kGN q259) rfl rfl rfl (C.2.2.2.2.2.2.1 _ qn9) (C.2.2.2.2.1 _ q36) hdX1_part ⟨Nat.le_of_ble_eq_true rfl, Nat.le_of_ble_eq_true rfl⟩, C.2.2.2.2.1 _ q258, C.2.2.2.2.1 _ q3⟩ [1] [0, 2, 3, 4, 5, 6] [0, 6, 1, 2, 3, 4, 5] [(a0, cF a1 a2 a3 a4 a5 a6 X.2.2.2.2.2.2), (a2, cS X.2.1), (a3, cB X.2.2.1), (a4, cB X.2.2.2.1), (a5, cB X.2.2.2.2.1), (a6, cB X.2.2.2.2.2.1)] ([(a0, cF a1 a2 a3 a4 a5 a6 X.2.2.2.2.2.2), (a1, cS X.1), (a2, cS X.2.1), (a3, cB X.2.2.1), (a4, cB X.2.2.2.1), (a5, cB X.2.2.2.2.1), (a6, cB X.2.2.2.2.2.1)]) rfl rfl rfl rfl (by decide) [a1] rfl rfl rfl rfl 1 1 rfl rfl rfl (Nat.le_of_ble_eq_true rfl) ⟨Nat.zero_le _, Nat.zero_le _⟩ rfl dX2_told_32 ?_
  have hL : fX2_told_00 X = X.1.1 := by exact rfl
  exact k_iret C rfl (hL.symm) rfl dX2_told_35

noncomputable def fX2_told_01 (X : Co) : Int32 :=
  X.1.2.1
set_option maxHeartbeats 4000000 in
set_option maxRecDepth 100000 in
theorem mX2_told_01 (l : Launch) (D : va_G) (cI cJ : ClassId) (a0 a1 a2 a3 a4 a5 a6 : Nat) (X : Co)  : kCi l D cI cJ yX2_told (.code yX2_told cX2_told 3 (some .int)) { frames := 6, cells := 0, slots := 0, locals := 90 } [.ref a0, .int 0, .int 1] (wC a0 a1 a2 a3 a4 a5 a6 X) (fX2_told_01 X) (wC a0 a1 a2 a3 a4 a5 a6 X) := by
  refine fun sz => k_of (lv := [(0, .ref a0), (1, .int 0), (2, .int 1)]) (by decide) sz (by exact Nat.le_of_ble_eq_true rfl) rfl ?_
  intro p e s m args below meth c hsz C
  refine k_iload_n C dX2_told_0 1 rfl ?_
  refine k_callS_i C (mX2_isSide_k0 l D cI cJ) (va_cwS 1 C.2.2.2.2.1 (kGS q248 q249 q35 q250) rfl rfl rfl hdX2_isSide ⟨Nat.le_of_ble_eq_true rfl, Nat.le_of_ble_eq_true rfl⟩) [] [0, 1, 2, 3, 4, 5, 6] [0, 1, 2, 3, 4, 5, 6] [(a0, cF a1 a2 a3 a4 a5 a6 X.2.2.2.2.2.2), (a1, cS X.1), (a2, cS X.2.1), (a3, cB X.2.2.1), (a4, cB X.2.2.2.1), (a5, cB X.2.2.2.2.1), (a6, cB X.2.2.2.2.2.1)] ([(a0, cF a1 a2 a3 a4 a5 a6 X.2.2.2.2.2.2), (a1, cS X.1), (a2, cS X.2.1), (a3, cB X.2.2.1), (a4, cB X.2.2.2.1), (a5, cB X.2.2.2.2.1), (a6, cB X.2.2.2.2.2.1)]) rfl rfl rfl rfl (by decide) [] rfl rfl rfl rfl (Nat.le_of_ble_eq_true rfl) ⟨Nat.zero_le _, Nat.zero_le _⟩ rfl dX2_told_1 ?_
  refine k_if_eq C 16 (by decide) dX2_told_4 (fun h => absurd h (by decide)) (fun _ => ?_)
  refine k_iload_n C dX2_told_7 2 rfl ?_
  refine k_if_lt C 16 (by decide) dX2_told_8 (fun h => absurd h (by decide)) (fun _ => ?_)
  refine k_iload_n C dX2_told_11 2 rfl ?_
  refine k_iconst C 4 (by decide) dX2_told_12 ?_
  refine k_icmp_lt C 26 (by decide) dX2_told_13 (fun _ => ?_) (fun h => absurd (by decide) h)
  refine k_aload_n C dX2_told_26 0 rfl ?_
  refine k_iload_n C dX2_told_27 1 rfl ?_
  refine k_callV_r C (mX2_sideOf_1 l D cI cJ a0 a1 a2 a3 a4 a5 a6 0 X (by decide)) (cwV 1 C.2.2.2.2.1 (kGV q252 q254 q2 q35 q255) rfl rfl rfl ⟨rfl, hdX2_sideOf⟩ ⟨Nat.le_of_ble_eq_true rfl, Nat.le_of_ble_eq_true rfl⟩) [0, 1, 2, 3, 4, 5, 6] [] [0, 1, 2, 3, 4, 5, 6] [] ([(a0, cF a1 a2 a3 a4 a5 a6 X.2.2.2.2.2.2), (a1, cS X.1), (a2, cS X.2.1), (a3, cB X.2.2.1), (a4, cB X.2.2.2.1), (a5, cB X.2.2.2.2.1), (a6, cB X.2.2.2.2.2.1)]) rfl rfl rfl rfl (by decide) [a0, a1, a2, a3, a4, a5, a6] rfl rfl rfl rfl 0 2 rfl rfl rfl (Nat.le_of_ble_eq_true rfl) ⟨Nat.zero_le _, Nat.zero_le _⟩ rfl dX2_told_28 ?_
  refine k_iload_n C dX2_told_31 2 rfl ?_
  refine k_callN_i C (mX1_part_1 l D cI cJ a1 X.1) ⟨va_cnB 1 C.2.2.2.2.1 (kGN q259) rfl rfl rfl (C.2.2.2.2.2.2.1 _ qn9) (C.2.2.2.2.1 _ q36) hdX1_part ⟨Nat.le_of_ble_eq_true rfl, Nat.le_of_ble_eq_true rfl⟩, C.2.2.2.2.1 _ q258, C.2.2.2.2.1 _ q3⟩ [1] [0, 2, 3, 4, 5, 6] [0, 6, 1, 2, 3, 4, 5] [(a0, cF a1 a2 a3 a4 a5 a6 X.2.2.2.2.2.2), (a2, cS X.2.1), (a3, cB X.2.2.1), (a4, cB X.2.2.2.1), (a5, cB X.2.2.2.2.1), (a6, cB X.2.2.2.2.2.1)] ([(a0, cF a1 a2 a3 a4 a5 a6 X.2.2.2.2.2.2), (a1, cS X.1), (a2, cS X.2.1), (a3, cB X.2.2.1), (a4, cB X.2.2.2.1), (a5, cB X.2.2.2.2.1), (a6, cB X.2.2.2.2.2.1)]) rfl rfl rfl rfl (by decide) [a1] rfl rfl rfl rfl 1 1 rfl rfl rfl (Nat.le_of_ble_eq_true rfl) ⟨Nat.zero_le _, Nat.zero_le _⟩ rfl dX2_told_32 ?_
  have hL : fX2_told_01 X = X.1.2.1 := by exact rfl
  exact k_iret C rfl (hL.symm) rfl dX2_told_35

noncomputable def fX2_told_02 (X : Co) : Int32 :=
  X.1.2.2.1
set_option maxHeartbeats 4000000 in
set_option maxRecDepth 100000 in
theorem mX2_told_02 (l : Launch) (D : va_G) (cI cJ : ClassId) (a0 a1 a2 a3 a4 a5 a6 : Nat) (X : Co)  : kCi l D cI cJ yX2_told (.code yX2_told cX2_told 3 (some .int)) { frames := 6, cells := 0, slots := 0, locals := 90 } [.ref a0, .int 0, .int 2] (wC a0 a1 a2 a3 a4 a5 a6 X) (fX2_told_02 X) (wC a0 a1 a2 a3 a4 a5 a6 X) := by
  refine fun sz => k_of (lv := [(0, .ref a0), (1, .int 0), (2, .int 2)]) (by decide) sz (by exact Nat.le_of_ble_eq_true rfl) rfl ?_
  intro p e s m args below meth c hsz C
  refine k_iload_n C dX2_told_0 1 rfl ?_
  refine k_callS_i C (mX2_isSide_k0 l D cI cJ) (va_cwS 1 C.2.2.2.2.1 (kGS q248 q249 q35 q250) rfl rfl rfl hdX2_isSide ⟨Nat.le_of_ble_eq_true rfl, Nat.le_of_ble_eq_true rfl⟩) [] [0, 1, 2, 3, 4, 5, 6] [0, 1, 2, 3, 4, 5, 6] [(a0, cF a1 a2 a3 a4 a5 a6 X.2.2.2.2.2.2), (a1, cS X.1), (a2, cS X.2.1), (a3, cB X.2.2.1), (a4, cB X.2.2.2.1), (a5, cB X.2.2.2.2.1), (a6, cB X.2.2.2.2.2.1)] ([(a0, cF a1 a2 a3 a4 a5 a6 X.2.2.2.2.2.2), (a1, cS X.1), (a2, cS X.2.1), (a3, cB X.2.2.1), (a4, cB X.2.2.2.1), (a5, cB X.2.2.2.2.1), (a6, cB X.2.2.2.2.2.1)]) rfl rfl rfl rfl (by decide) [] rfl rfl rfl rfl (Nat.le_of_ble_eq_true rfl) ⟨Nat.zero_le _, Nat.zero_le _⟩ rfl dX2_told_1 ?_
  refine k_if_eq C 16 (by decide) dX2_told_4 (fun h => absurd h (by decide)) (fun _ => ?_)
  refine k_iload_n C dX2_told_7 2 rfl ?_
  refine k_if_lt C 16 (by decide) dX2_told_8 (fun h => absurd h (by decide)) (fun _ => ?_)
  refine k_iload_n C dX2_told_11 2 rfl ?_
  refine k_iconst C 4 (by decide) dX2_told_12 ?_
  refine k_icmp_lt C 26 (by decide) dX2_told_13 (fun _ => ?_) (fun h => absurd (by decide) h)
  refine k_aload_n C dX2_told_26 0 rfl ?_
  refine k_iload_n C dX2_told_27 1 rfl ?_
  refine k_callV_r C (mX2_sideOf_1 l D cI cJ a0 a1 a2 a3 a4 a5 a6 0 X (by decide)) (cwV 1 C.2.2.2.2.1 (kGV q252 q254 q2 q35 q255) rfl rfl rfl ⟨rfl, hdX2_sideOf⟩ ⟨Nat.le_of_ble_eq_true rfl, Nat.le_of_ble_eq_true rfl⟩) [0, 1, 2, 3, 4, 5, 6] [] [0, 1, 2, 3, 4, 5, 6] [] ([(a0, cF a1 a2 a3 a4 a5 a6 X.2.2.2.2.2.2), (a1, cS X.1), (a2, cS X.2.1), (a3, cB X.2.2.1), (a4, cB X.2.2.2.1), (a5, cB X.2.2.2.2.1), (a6, cB X.2.2.2.2.2.1)]) rfl rfl rfl rfl (by decide) [a0, a1, a2, a3, a4, a5, a6] rfl rfl rfl rfl 0 2 rfl rfl rfl (Nat.le_of_ble_eq_true rfl) ⟨Nat.zero_le _, Nat.zero_le _⟩ rfl dX2_told_28 ?_
  refine k_iload_n C dX2_told_31 2 rfl ?_
  refine k_callN_i C (mX1_part_2 l D cI cJ a1 X.1) ⟨va_cnB 1 C.2.2.2.2.1 (kGN q259) rfl rfl rfl (C.2.2.2.2.2.2.1 _ qn9) (C.2.2.2.2.1 _ q36) hdX1_part ⟨Nat.le_of_ble_eq_true rfl, Nat.le_of_ble_eq_true rfl⟩, C.2.2.2.2.1 _ q258, C.2.2.2.2.1 _ q3⟩ [1] [0, 2, 3, 4, 5, 6] [0, 6, 1, 2, 3, 4, 5] [(a0, cF a1 a2 a3 a4 a5 a6 X.2.2.2.2.2.2), (a2, cS X.2.1), (a3, cB X.2.2.1), (a4, cB X.2.2.2.1), (a5, cB X.2.2.2.2.1), (a6, cB X.2.2.2.2.2.1)] ([(a0, cF a1 a2 a3 a4 a5 a6 X.2.2.2.2.2.2), (a1, cS X.1), (a2, cS X.2.1), (a3, cB X.2.2.1), (a4, cB X.2.2.2.1), (a5, cB X.2.2.2.2.1), (a6, cB X.2.2.2.2.2.1)]) rfl rfl rfl rfl (by decide) [a1] rfl rfl rfl rfl 1 1 rfl rfl rfl (Nat.le_of_ble_eq_true rfl) ⟨Nat.zero_le _, Nat.zero_le _⟩ rfl dX2_told_32 ?_
  have hL : fX2_told_02 X = X.1.2.2.1 := by exact rfl
  exact k_iret C rfl (hL.symm) rfl dX2_told_35

noncomputable def fX2_told_03 (X : Co) : Int32 :=
  X.1.2.2.2
set_option maxHeartbeats 4000000 in
set_option maxRecDepth 100000 in
theorem mX2_told_03 (l : Launch) (D : va_G) (cI cJ : ClassId) (a0 a1 a2 a3 a4 a5 a6 : Nat) (X : Co)  : kCi l D cI cJ yX2_told (.code yX2_told cX2_told 3 (some .int)) { frames := 6, cells := 0, slots := 0, locals := 90 } [.ref a0, .int 0, .int 3] (wC a0 a1 a2 a3 a4 a5 a6 X) (fX2_told_03 X) (wC a0 a1 a2 a3 a4 a5 a6 X) := by
  refine fun sz => k_of (lv := [(0, .ref a0), (1, .int 0), (2, .int 3)]) (by decide) sz (by exact Nat.le_of_ble_eq_true rfl) rfl ?_
  intro p e s m args below meth c hsz C
  refine k_iload_n C dX2_told_0 1 rfl ?_
  refine k_callS_i C (mX2_isSide_k0 l D cI cJ) (va_cwS 1 C.2.2.2.2.1 (kGS q248 q249 q35 q250) rfl rfl rfl hdX2_isSide ⟨Nat.le_of_ble_eq_true rfl, Nat.le_of_ble_eq_true rfl⟩) [] [0, 1, 2, 3, 4, 5, 6] [0, 1, 2, 3, 4, 5, 6] [(a0, cF a1 a2 a3 a4 a5 a6 X.2.2.2.2.2.2), (a1, cS X.1), (a2, cS X.2.1), (a3, cB X.2.2.1), (a4, cB X.2.2.2.1), (a5, cB X.2.2.2.2.1), (a6, cB X.2.2.2.2.2.1)] ([(a0, cF a1 a2 a3 a4 a5 a6 X.2.2.2.2.2.2), (a1, cS X.1), (a2, cS X.2.1), (a3, cB X.2.2.1), (a4, cB X.2.2.2.1), (a5, cB X.2.2.2.2.1), (a6, cB X.2.2.2.2.2.1)]) rfl rfl rfl rfl (by decide) [] rfl rfl rfl rfl (Nat.le_of_ble_eq_true rfl) ⟨Nat.zero_le _, Nat.zero_le _⟩ rfl dX2_told_1 ?_
  refine k_if_eq C 16 (by decide) dX2_told_4 (fun h => absurd h (by decide)) (fun _ => ?_)
  refine k_iload_n C dX2_told_7 2 rfl ?_
  refine k_if_lt C 16 (by decide) dX2_told_8 (fun h => absurd h (by decide)) (fun _ => ?_)
  refine k_iload_n C dX2_told_11 2 rfl ?_
  refine k_iconst C 4 (by decide) dX2_told_12 ?_
  refine k_icmp_lt C 26 (by decide) dX2_told_13 (fun _ => ?_) (fun h => absurd (by decide) h)
  refine k_aload_n C dX2_told_26 0 rfl ?_
  refine k_iload_n C dX2_told_27 1 rfl ?_
  refine k_callV_r C (mX2_sideOf_1 l D cI cJ a0 a1 a2 a3 a4 a5 a6 0 X (by decide)) (cwV 1 C.2.2.2.2.1 (kGV q252 q254 q2 q35 q255) rfl rfl rfl ⟨rfl, hdX2_sideOf⟩ ⟨Nat.le_of_ble_eq_true rfl, Nat.le_of_ble_eq_true rfl⟩) [0, 1, 2, 3, 4, 5, 6] [] [0, 1, 2, 3, 4, 5, 6] [] ([(a0, cF a1 a2 a3 a4 a5 a6 X.2.2.2.2.2.2), (a1, cS X.1), (a2, cS X.2.1), (a3, cB X.2.2.1), (a4, cB X.2.2.2.1), (a5, cB X.2.2.2.2.1), (a6, cB X.2.2.2.2.2.1)]) rfl rfl rfl rfl (by decide) [a0, a1, a2, a3, a4, a5, a6] rfl rfl rfl rfl 0 2 rfl rfl rfl (Nat.le_of_ble_eq_true rfl) ⟨Nat.zero_le _, Nat.zero_le _⟩ rfl dX2_told_28 ?_
  refine k_iload_n C dX2_told_31 2 rfl ?_
  refine k_callN_i C (mX1_part_3 l D cI cJ a1 X.1) ⟨va_cnB 1 C.2.2.2.2.1 (kGN q259) rfl rfl rfl (C.2.2.2.2.2.2.1 _ qn9) (C.2.2.2.2.1 _ q36) hdX1_part ⟨Nat.le_of_ble_eq_true rfl, Nat.le_of_ble_eq_true rfl⟩, C.2.2.2.2.1 _ q258, C.2.2.2.2.1 _ q3⟩ [1] [0, 2, 3, 4, 5, 6] [0, 6, 1, 2, 3, 4, 5] [(a0, cF a1 a2 a3 a4 a5 a6 X.2.2.2.2.2.2), (a2, cS X.2.1), (a3, cB X.2.2.1), (a4, cB X.2.2.2.1), (a5, cB X.2.2.2.2.1), (a6, cB X.2.2.2.2.2.1)] ([(a0, cF a1 a2 a3 a4 a5 a6 X.2.2.2.2.2.2), (a1, cS X.1), (a2, cS X.2.1), (a3, cB X.2.2.1), (a4, cB X.2.2.2.1), (a5, cB X.2.2.2.2.1), (a6, cB X.2.2.2.2.2.1)]) rfl rfl rfl rfl (by decide) [a1] rfl rfl rfl rfl 1 1 rfl rfl rfl (Nat.le_of_ble_eq_true rfl) ⟨Nat.zero_le _, Nat.zero_le _⟩ rfl dX2_told_32 ?_
  have hL : fX2_told_03 X = X.1.2.2.2 := by exact rfl
  exact k_iret C rfl (hL.symm) rfl dX2_told_35

set_option maxHeartbeats 4000000 in
set_option maxRecDepth 100000 in
theorem mX2_isSide_k1 (l : Launch) (D : va_G) (cI cJ : ClassId)   : kCi l D cI cJ yX2_isSide (.code yX2_isSide cX2_isSide 1 (some .boolean)) { frames := 0, cells := 0, slots := 0, locals := 0 } [.int 1] [] (1) [] := by
  refine fun sz => k_of (lv := [(0, .int 1)]) (by decide) sz (by exact Nat.le_of_ble_eq_true rfl) rfl ?_
  intro p e s m args below meth c hsz C
  refine k_iload_n C dX2_isSide_0 0 rfl ?_
  refine k_if_eq C 9 (by decide) dX2_isSide_1 (fun h => absurd h (by decide)) (fun _ => ?_)
  refine k_iload_n C dX2_isSide_4 0 rfl ?_
  refine k_iconst C 1 (by decide) dX2_isSide_5 ?_
  refine k_icmp_ne C 13 (by decide) dX2_isSide_6 (fun h => absurd (by decide) h) (fun _ => ?_)
  refine k_iconst C 1 (by decide) dX2_isSide_9 ?_
  refine k_goto C 14 (by decide) dX2_isSide_10 ?_
  exact k_zret C rfl rfl rfl rfl dX2_isSide_14

noncomputable def fX2_told_10 (X : Co) : Int32 :=
  X.2.1.1
set_option maxHeartbeats 4000000 in
set_option maxRecDepth 100000 in
theorem mX2_told_10 (l : Launch) (D : va_G) (cI cJ : ClassId) (a0 a1 a2 a3 a4 a5 a6 : Nat) (X : Co)  : kCi l D cI cJ yX2_told (.code yX2_told cX2_told 3 (some .int)) { frames := 6, cells := 0, slots := 0, locals := 90 } [.ref a0, .int 1, .int 0] (wC a0 a1 a2 a3 a4 a5 a6 X) (fX2_told_10 X) (wC a0 a1 a2 a3 a4 a5 a6 X) := by
  refine fun sz => k_of (lv := [(0, .ref a0), (1, .int 1), (2, .int 0)]) (by decide) sz (by exact Nat.le_of_ble_eq_true rfl) rfl ?_
  intro p e s m args below meth c hsz C
  refine k_iload_n C dX2_told_0 1 rfl ?_
  refine k_callS_i C (mX2_isSide_k1 l D cI cJ) (va_cwS 1 C.2.2.2.2.1 (kGS q248 q249 q35 q250) rfl rfl rfl hdX2_isSide ⟨Nat.le_of_ble_eq_true rfl, Nat.le_of_ble_eq_true rfl⟩) [] [0, 1, 2, 3, 4, 5, 6] [0, 1, 2, 3, 4, 5, 6] [(a0, cF a1 a2 a3 a4 a5 a6 X.2.2.2.2.2.2), (a1, cS X.1), (a2, cS X.2.1), (a3, cB X.2.2.1), (a4, cB X.2.2.2.1), (a5, cB X.2.2.2.2.1), (a6, cB X.2.2.2.2.2.1)] ([(a0, cF a1 a2 a3 a4 a5 a6 X.2.2.2.2.2.2), (a1, cS X.1), (a2, cS X.2.1), (a3, cB X.2.2.1), (a4, cB X.2.2.2.1), (a5, cB X.2.2.2.2.1), (a6, cB X.2.2.2.2.2.1)]) rfl rfl rfl rfl (by decide) [] rfl rfl rfl rfl (Nat.le_of_ble_eq_true rfl) ⟨Nat.zero_le _, Nat.zero_le _⟩ rfl dX2_told_1 ?_
  refine k_if_eq C 16 (by decide) dX2_told_4 (fun h => absurd h (by decide)) (fun _ => ?_)
  refine k_iload_n C dX2_told_7 2 rfl ?_
  refine k_if_lt C 16 (by decide) dX2_told_8 (fun h => absurd h (by decide)) (fun _ => ?_)
  refine k_iload_n C dX2_told_11 2 rfl ?_
  refine k_iconst C 4 (by decide) dX2_told_12 ?_
  refine k_icmp_lt C 26 (by decide) dX2_told_13 (fun _ => ?_) (fun h => absurd (by decide) h)
  refine k_aload_n C dX2_told_26 0 rfl ?_
  refine k_iload_n C dX2_told_27 1 rfl ?_
  refine k_callV_r C (mX2_sideOf_2 l D cI cJ a0 a1 a2 a3 a4 a5 a6 1 X (by decide)) (cwV 1 C.2.2.2.2.1 (kGV q252 q254 q2 q35 q255) rfl rfl rfl ⟨rfl, hdX2_sideOf⟩ ⟨Nat.le_of_ble_eq_true rfl, Nat.le_of_ble_eq_true rfl⟩) [0, 1, 2, 3, 4, 5, 6] [] [0, 1, 2, 3, 4, 5, 6] [] ([(a0, cF a1 a2 a3 a4 a5 a6 X.2.2.2.2.2.2), (a1, cS X.1), (a2, cS X.2.1), (a3, cB X.2.2.1), (a4, cB X.2.2.2.1), (a5, cB X.2.2.2.2.1), (a6, cB X.2.2.2.2.2.1)]) rfl rfl rfl rfl (by decide) [a0, a1, a2, a3, a4, a5, a6] rfl rfl rfl rfl 0 2 rfl rfl rfl (Nat.le_of_ble_eq_true rfl) ⟨Nat.zero_le _, Nat.zero_le _⟩ rfl dX2_told_28 ?_
  refine k_iload_n C dX2_told_31 2 rfl ?_
  refine k_callN_i C (mX1_part_0 l D cI cJ a2 X.2.1) ⟨va_cnB 1 C.2.2.2.2.1 (kGN q259) rfl rfl rfl (C.2.2.2.2.2.2.1 _ qn9) (C.2.2.2.2.1 _ q36) hdX1_part ⟨Nat.le_of_ble_eq_true rfl, Nat.le_of_ble_eq_true rfl⟩, C.2.2.2.2.1 _ q258, C.2.2.2.2.1 _ q3⟩ [2] [0, 1, 3, 4, 5, 6] [0, 1, 6, 2, 3, 4, 5] [(a0, cF a1 a2 a3 a4 a5 a6 X.2.2.2.2.2.2), (a1, cS X.1), (a3, cB X.2.2.1), (a4, cB X.2.2.2.1), (a5, cB X.2.2.2.2.1), (a6, cB X.2.2.2.2.2.1)] ([(a0, cF a1 a2 a3 a4 a5 a6 X.2.2.2.2.2.2), (a1, cS X.1), (a2, cS X.2.1), (a3, cB X.2.2.1), (a4, cB X.2.2.2.1), (a5, cB X.2.2.2.2.1), (a6, cB X.2.2.2.2.2.1)]) rfl rfl rfl rfl (by decide) [a2] rfl rfl rfl rfl 2 1 rfl rfl rfl (Nat.le_of_ble_eq_true rfl) ⟨Nat.zero_le _, Nat.zero_le _⟩ rfl dX2_told_32 ?_
  have hL : fX2_told_10 X = X.2.1.1 := by exact rfl
  exact k_iret C rfl (hL.symm) rfl dX2_told_35

noncomputable def fX2_told_11 (X : Co) : Int32 :=
  X.2.1.2.1
set_option maxHeartbeats 4000000 in
set_option maxRecDepth 100000 in
theorem mX2_told_11 (l : Launch) (D : va_G) (cI cJ : ClassId) (a0 a1 a2 a3 a4 a5 a6 : Nat) (X : Co)  : kCi l D cI cJ yX2_told (.code yX2_told cX2_told 3 (some .int)) { frames := 6, cells := 0, slots := 0, locals := 90 } [.ref a0, .int 1, .int 1] (wC a0 a1 a2 a3 a4 a5 a6 X) (fX2_told_11 X) (wC a0 a1 a2 a3 a4 a5 a6 X) := by
  refine fun sz => k_of (lv := [(0, .ref a0), (1, .int 1), (2, .int 1)]) (by decide) sz (by exact Nat.le_of_ble_eq_true rfl) rfl ?_
  intro p e s m args below meth c hsz C
  refine k_iload_n C dX2_told_0 1 rfl ?_
  refine k_callS_i C (mX2_isSide_k1 l D cI cJ) (va_cwS 1 C.2.2.2.2.1 (kGS q248 q249 q35 q250) rfl rfl rfl hdX2_isSide ⟨Nat.le_of_ble_eq_true rfl, Nat.le_of_ble_eq_true rfl⟩) [] [0, 1, 2, 3, 4, 5, 6] [0, 1, 2, 3, 4, 5, 6] [(a0, cF a1 a2 a3 a4 a5 a6 X.2.2.2.2.2.2), (a1, cS X.1), (a2, cS X.2.1), (a3, cB X.2.2.1), (a4, cB X.2.2.2.1), (a5, cB X.2.2.2.2.1), (a6, cB X.2.2.2.2.2.1)] ([(a0, cF a1 a2 a3 a4 a5 a6 X.2.2.2.2.2.2), (a1, cS X.1), (a2, cS X.2.1), (a3, cB X.2.2.1), (a4, cB X.2.2.2.1), (a5, cB X.2.2.2.2.1), (a6, cB X.2.2.2.2.2.1)]) rfl rfl rfl rfl (by decide) [] rfl rfl rfl rfl (Nat.le_of_ble_eq_true rfl) ⟨Nat.zero_le _, Nat.zero_le _⟩ rfl dX2_told_1 ?_
  refine k_if_eq C 16 (by decide) dX2_told_4 (fun h => absurd h (by decide)) (fun _ => ?_)
  refine k_iload_n C dX2_told_7 2 rfl ?_
  refine k_if_lt C 16 (by decide) dX2_told_8 (fun h => absurd h (by decide)) (fun _ => ?_)
  refine k_iload_n C dX2_told_11 2 rfl ?_
  refine k_iconst C 4 (by decide) dX2_told_12 ?_
  refine k_icmp_lt C 26 (by decide) dX2_told_13 (fun _ => ?_) (fun h => absurd (by decide) h)
  refine k_aload_n C dX2_told_26 0 rfl ?_
  refine k_iload_n C dX2_told_27 1 rfl ?_
  refine k_callV_r C (mX2_sideOf_2 l D cI cJ a0 a1 a2 a3 a4 a5 a6 1 X (by decide)) (cwV 1 C.2.2.2.2.1 (kGV q252 q254 q2 q35 q255) rfl rfl rfl ⟨rfl, hdX2_sideOf⟩ ⟨Nat.le_of_ble_eq_true rfl, Nat.le_of_ble_eq_true rfl⟩) [0, 1, 2, 3, 4, 5, 6] [] [0, 1, 2, 3, 4, 5, 6] [] ([(a0, cF a1 a2 a3 a4 a5 a6 X.2.2.2.2.2.2), (a1, cS X.1), (a2, cS X.2.1), (a3, cB X.2.2.1), (a4, cB X.2.2.2.1), (a5, cB X.2.2.2.2.1), (a6, cB X.2.2.2.2.2.1)]) rfl rfl rfl rfl (by decide) [a0, a1, a2, a3, a4, a5, a6] rfl rfl rfl rfl 0 2 rfl rfl rfl (Nat.le_of_ble_eq_true rfl) ⟨Nat.zero_le _, Nat.zero_le _⟩ rfl dX2_told_28 ?_
  refine k_iload_n C dX2_told_31 2 rfl ?_
  refine k_callN_i C (mX1_part_1 l D cI cJ a2 X.2.1) ⟨va_cnB 1 C.2.2.2.2.1 (kGN q259) rfl rfl rfl (C.2.2.2.2.2.2.1 _ qn9) (C.2.2.2.2.1 _ q36) hdX1_part ⟨Nat.le_of_ble_eq_true rfl, Nat.le_of_ble_eq_true rfl⟩, C.2.2.2.2.1 _ q258, C.2.2.2.2.1 _ q3⟩ [2] [0, 1, 3, 4, 5, 6] [0, 1, 6, 2, 3, 4, 5] [(a0, cF a1 a2 a3 a4 a5 a6 X.2.2.2.2.2.2), (a1, cS X.1), (a3, cB X.2.2.1), (a4, cB X.2.2.2.1), (a5, cB X.2.2.2.2.1), (a6, cB X.2.2.2.2.2.1)] ([(a0, cF a1 a2 a3 a4 a5 a6 X.2.2.2.2.2.2), (a1, cS X.1), (a2, cS X.2.1), (a3, cB X.2.2.1), (a4, cB X.2.2.2.1), (a5, cB X.2.2.2.2.1), (a6, cB X.2.2.2.2.2.1)]) rfl rfl rfl rfl (by decide) [a2] rfl rfl rfl rfl 2 1 rfl rfl rfl (Nat.le_of_ble_eq_true rfl) ⟨Nat.zero_le _, Nat.zero_le _⟩ rfl dX2_told_32 ?_
  have hL : fX2_told_11 X = X.2.1.2.1 := by exact rfl
  exact k_iret C rfl (hL.symm) rfl dX2_told_35

noncomputable def fX2_told_12 (X : Co) : Int32 :=
  X.2.1.2.2.1
set_option maxHeartbeats 4000000 in
set_option maxRecDepth 100000 in
theorem mX2_told_12 (l : Launch) (D : va_G) (cI cJ : ClassId) (a0 a1 a2 a3 a4 a5 a6 : Nat) (X : Co)  : kCi l D cI cJ yX2_told (.code yX2_told cX2_told 3 (some .int)) { frames := 6, cells := 0, slots := 0, locals := 90 } [.ref a0, .int 1, .int 2] (wC a0 a1 a2 a3 a4 a5 a6 X) (fX2_told_12 X) (wC a0 a1 a2 a3 a4 a5 a6 X) := by
  refine fun sz => k_of (lv := [(0, .ref a0), (1, .int 1), (2, .int 2)]) (by decide) sz (by exact Nat.le_of_ble_eq_true rfl) rfl ?_
  intro p e s m args below meth c hsz C
  refine k_iload_n C dX2_told_0 1 rfl ?_
  refine k_callS_i C (mX2_isSide_k1 l D cI cJ) (va_cwS 1 C.2.2.2.2.1 (kGS q248 q249 q35 q250) rfl rfl rfl hdX2_isSide ⟨Nat.le_of_ble_eq_true rfl, Nat.le_of_ble_eq_true rfl⟩) [] [0, 1, 2, 3, 4, 5, 6] [0, 1, 2, 3, 4, 5, 6] [(a0, cF a1 a2 a3 a4 a5 a6 X.2.2.2.2.2.2), (a1, cS X.1), (a2, cS X.2.1), (a3, cB X.2.2.1), (a4, cB X.2.2.2.1), (a5, cB X.2.2.2.2.1), (a6, cB X.2.2.2.2.2.1)] ([(a0, cF a1 a2 a3 a4 a5 a6 X.2.2.2.2.2.2), (a1, cS X.1), (a2, cS X.2.1), (a3, cB X.2.2.1), (a4, cB X.2.2.2.1), (a5, cB X.2.2.2.2.1), (a6, cB X.2.2.2.2.2.1)]) rfl rfl rfl rfl (by decide) [] rfl rfl rfl rfl (Nat.le_of_ble_eq_true rfl) ⟨Nat.zero_le _, Nat.zero_le _⟩ rfl dX2_told_1 ?_
  refine k_if_eq C 16 (by decide) dX2_told_4 (fun h => absurd h (by decide)) (fun _ => ?_)
  refine k_iload_n C dX2_told_7 2 rfl ?_
  refine k_if_lt C 16 (by decide) dX2_told_8 (fun h => absurd h (by decide)) (fun _ => ?_)
  refine k_iload_n C dX2_told_11 2 rfl ?_
  refine k_iconst C 4 (by decide) dX2_told_12 ?_
  refine k_icmp_lt C 26 (by decide) dX2_told_13 (fun _ => ?_) (fun h => absurd (by decide) h)
  refine k_aload_n C dX2_told_26 0 rfl ?_
  refine k_iload_n C dX2_told_27 1 rfl ?_
  refine k_callV_r C (mX2_sideOf_2 l D cI cJ a0 a1 a2 a3 a4 a5 a6 1 X (by decide)) (cwV 1 C.2.2.2.2.1 (kGV q252 q254 q2 q35 q255) rfl rfl rfl ⟨rfl, hdX2_sideOf⟩ ⟨Nat.le_of_ble_eq_true rfl, Nat.le_of_ble_eq_true rfl⟩) [0, 1, 2, 3, 4, 5, 6] [] [0, 1, 2, 3, 4, 5, 6] [] ([(a0, cF a1 a2 a3 a4 a5 a6 X.2.2.2.2.2.2), (a1, cS X.1), (a2, cS X.2.1), (a3, cB X.2.2.1), (a4, cB X.2.2.2.1), (a5, cB X.2.2.2.2.1), (a6, cB X.2.2.2.2.2.1)]) rfl rfl rfl rfl (by decide) [a0, a1, a2, a3, a4, a5, a6] rfl rfl rfl rfl 0 2 rfl rfl rfl (Nat.le_of_ble_eq_true rfl) ⟨Nat.zero_le _, Nat.zero_le _⟩ rfl dX2_told_28 ?_
  refine k_iload_n C dX2_told_31 2 rfl ?_
  refine k_callN_i C (mX1_part_2 l D cI cJ a2 X.2.1) ⟨va_cnB 1 C.2.2.2.2.1 (kGN q259) rfl rfl rfl (C.2.2.2.2.2.2.1 _ qn9) (C.2.2.2.2.1 _ q36) hdX1_part ⟨Nat.le_of_ble_eq_true rfl, Nat.le_of_ble_eq_true rfl⟩, C.2.2.2.2.1 _ q258, C.2.2.2.2.1 _ q3⟩ [2] [0, 1, 3, 4, 5, 6] [0, 1, 6, 2, 3, 4, 5] [(a0, cF a1 a2 a3 a4 a5 a6 X.2.2.2.2.2.2), (a1, cS X.1), (a3, cB X.2.2.1), (a4, cB X.2.2.2.1), (a5, cB X.2.2.2.2.1), (a6, cB X.2.2.2.2.2.1)] ([(a0, cF a1 a2 a3 a4 a5 a6 X.2.2.2.2.2.2), (a1, cS X.1), (a2, cS X.2.1), (a3, cB X.2.2.1), (a4, cB X.2.2.2.1), (a5, cB X.2.2.2.2.1), (a6, cB X.2.2.2.2.2.1)]) rfl rfl rfl rfl (by decide) [a2] rfl rfl rfl rfl 2 1 rfl rfl rfl (Nat.le_of_ble_eq_true rfl) ⟨Nat.zero_le _, Nat.zero_le _⟩ rfl dX2_told_32 ?_
  have hL : fX2_told_12 X = X.2.1.2.2.1 := by exact rfl
  exact k_iret C rfl (hL.symm) rfl dX2_told_35

noncomputable def fX2_told_13 (X : Co) : Int32 :=
  X.2.1.2.2.2
set_option maxHeartbeats 4000000 in
set_option maxRecDepth 100000 in
theorem mX2_told_13 (l : Launch) (D : va_G) (cI cJ : ClassId) (a0 a1 a2 a3 a4 a5 a6 : Nat) (X : Co)  : kCi l D cI cJ yX2_told (.code yX2_told cX2_told 3 (some .int)) { frames := 6, cells := 0, slots := 0, locals := 90 } [.ref a0, .int 1, .int 3] (wC a0 a1 a2 a3 a4 a5 a6 X) (fX2_told_13 X) (wC a0 a1 a2 a3 a4 a5 a6 X) := by
  refine fun sz => k_of (lv := [(0, .ref a0), (1, .int 1), (2, .int 3)]) (by decide) sz (by exact Nat.le_of_ble_eq_true rfl) rfl ?_
  intro p e s m args below meth c hsz C
  refine k_iload_n C dX2_told_0 1 rfl ?_
  refine k_callS_i C (mX2_isSide_k1 l D cI cJ) (va_cwS 1 C.2.2.2.2.1 (kGS q248 q249 q35 q250) rfl rfl rfl hdX2_isSide ⟨Nat.le_of_ble_eq_true rfl, Nat.le_of_ble_eq_true rfl⟩) [] [0, 1, 2, 3, 4, 5, 6] [0, 1, 2, 3, 4, 5, 6] [(a0, cF a1 a2 a3 a4 a5 a6 X.2.2.2.2.2.2), (a1, cS X.1), (a2, cS X.2.1), (a3, cB X.2.2.1), (a4, cB X.2.2.2.1), (a5, cB X.2.2.2.2.1), (a6, cB X.2.2.2.2.2.1)] ([(a0, cF a1 a2 a3 a4 a5 a6 X.2.2.2.2.2.2), (a1, cS X.1), (a2, cS X.2.1), (a3, cB X.2.2.1), (a4, cB X.2.2.2.1), (a5, cB X.2.2.2.2.1), (a6, cB X.2.2.2.2.2.1)]) rfl rfl rfl rfl (by decide) [] rfl rfl rfl rfl (Nat.le_of_ble_eq_true rfl) ⟨Nat.zero_le _, Nat.zero_le _⟩ rfl dX2_told_1 ?_
  refine k_if_eq C 16 (by decide) dX2_told_4 (fun h => absurd h (by decide)) (fun _ => ?_)
  refine k_iload_n C dX2_told_7 2 rfl ?_
  refine k_if_lt C 16 (by decide) dX2_told_8 (fun h => absurd h (by decide)) (fun _ => ?_)
  refine k_iload_n C dX2_told_11 2 rfl ?_
  refine k_iconst C 4 (by decide) dX2_told_12 ?_
  refine k_icmp_lt C 26 (by decide) dX2_told_13 (fun _ => ?_) (fun h => absurd (by decide) h)
  refine k_aload_n C dX2_told_26 0 rfl ?_
  refine k_iload_n C dX2_told_27 1 rfl ?_
  refine k_callV_r C (mX2_sideOf_2 l D cI cJ a0 a1 a2 a3 a4 a5 a6 1 X (by decide)) (cwV 1 C.2.2.2.2.1 (kGV q252 q254 q2 q35 q255) rfl rfl rfl ⟨rfl, hdX2_sideOf⟩ ⟨Nat.le_of_ble_eq_true rfl, Nat.le_of_ble_eq_true rfl⟩) [0, 1, 2, 3, 4, 5, 6] [] [0, 1, 2, 3, 4, 5, 6] [] ([(a0, cF a1 a2 a3 a4 a5 a6 X.2.2.2.2.2.2), (a1, cS X.1), (a2, cS X.2.1), (a3, cB X.2.2.1), (a4, cB X.2.2.2.1), (a5, cB X.2.2.2.2.1), (a6, cB X.2.2.2.2.2.1)]) rfl rfl rfl rfl (by decide) [a0, a1, a2, a3, a4, a5, a6] rfl rfl rfl rfl 0 2 rfl rfl rfl (Nat.le_of_ble_eq_true rfl) ⟨Nat.zero_le _, Nat.zero_le _⟩ rfl dX2_told_28 ?_
  refine k_iload_n C dX2_told_31 2 rfl ?_
  refine k_callN_i C (mX1_part_3 l D cI cJ a2 X.2.1) ⟨va_cnB 1 C.2.2.2.2.1 (kGN q259) rfl rfl rfl (C.2.2.2.2.2.2.1 _ qn9) (C.2.2.2.2.1 _ q36) hdX1_part ⟨Nat.le_of_ble_eq_true rfl, Nat.le_of_ble_eq_true rfl⟩, C.2.2.2.2.1 _ q258, C.2.2.2.2.1 _ q3⟩ [2] [0, 1, 3, 4, 5, 6] [0, 1, 6, 2, 3, 4, 5] [(a0, cF a1 a2 a3 a4 a5 a6 X.2.2.2.2.2.2), (a1, cS X.1), (a3, cB X.2.2.1), (a4, cB X.2.2.2.1), (a5, cB X.2.2.2.2.1), (a6, cB X.2.2.2.2.2.1)] ([(a0, cF a1 a2 a3 a4 a5 a6 X.2.2.2.2.2.2), (a1, cS X.1), (a2, cS X.2.1), (a3, cB X.2.2.1), (a4, cB X.2.2.2.1), (a5, cB X.2.2.2.2.1), (a6, cB X.2.2.2.2.2.1)]) rfl rfl rfl rfl (by decide) [a2] rfl rfl rfl rfl 2 1 rfl rfl rfl (Nat.le_of_ble_eq_true rfl) ⟨Nat.zero_le _, Nat.zero_le _⟩ rfl dX2_told_32 ?_
  have hL : fX2_told_13 X = X.2.1.2.2.2 := by exact rfl
  exact k_iret C rfl (hL.symm) rfl dX2_told_35

theorem hdX2_ball : yX2_ball.cls ≠ "java/lang/invoke/MethodHandle" ∧ yX2_ball.cls ≠ "java/lang/invoke/VarHandle" ∧ (parseMethodDescriptor yX2_ball.desc).map (fun d => d.parameters.length) = some 1 := by decide +kernel
noncomputable def fX2_ball_0 (X : Co) : Int32 :=
  if X.2.2.2.2.2.2.2.1 = 0 then 0
  else X.2.2.1.1
set_option maxHeartbeats 4000000 in
set_option maxRecDepth 100000 in
theorem mX2_ball_0 (l : Launch) (D : va_G) (cI cJ : ClassId) (a0 a1 a2 a3 a4 a5 a6 : Nat) (X : Co)  : kCi l D cI cJ yX2_ball (.code yX2_ball cX2_ball 2 (some .int)) { frames := 6, cells := 0, slots := 0, locals := 90 } [.ref a0, .int 0] (wC a0 a1 a2 a3 a4 a5 a6 X) (fX2_ball_0 X) (wC a0 a1 a2 a3 a4 a5 a6 X) := by
  refine fun sz => k_of (lv := [(0, .ref a0), (1, .int 0)]) (by decide) sz (by exact Nat.le_of_ble_eq_true rfl) rfl ?_
  intro p e s m args below meth c hsz C
  refine k_iload_n C dX2_ball_0 1 rfl ?_
  refine k_if_lt C 10 (by decide) dX2_ball_1 (fun h => absurd h (by decide)) (fun _ => ?_)
  refine k_iload_n C dX2_ball_4 1 rfl ?_
  refine k_bipush C 6 (by decide) dX2_ball_5 ?_
  refine k_icmp_lt C 20 (by decide) dX2_ball_7 (fun _ => ?_) (fun h => absurd (by decide) h)
  refine k_aload_n C dX2_ball_20 0 rfl ?_
  refine k_getX2 C 0 7 rfl (by decide) rfl q129 rfl dX2_ball_21 ?_
  refine k_if_eq C 38 (by decide) dX2_ball_24 (fun c1 => ?_) (fun c1 => ?_)
  ·
    refine k_iconst C 0 (by decide) dX2_ball_38 ?_
    have hL : fX2_ball_0 X = 0 := by exact (if_pos c1).trans rfl
    exact k_iret C rfl (hL.symm) rfl dX2_ball_39
  ·
    refine k_aload_n C dX2_ball_27 0 rfl ?_
    refine k_getX2 C 0 2 rfl (by decide) rfl q124 rfl dX2_ball_28 ?_
    refine k_iload_n C dX2_ball_31 1 rfl ?_
    refine k_callN_i C (mX0_part_0 l D cI cJ a3 X.2.2.1) ⟨va_cnB 1 C.2.2.2.2.1 (kGN q243) rfl rfl rfl (C.2.2.2.2.2.2.1 _ qn10) (C.2.2.2.2.1 _ q37) hdX0_part ⟨Nat.le_of_ble_eq_true rfl, Nat.le_of_ble_eq_true rfl⟩, C.2.2.2.2.1 _ q242, C.2.2.2.2.1 _ q1⟩ [3] [0, 1, 2, 4, 5, 6] [0, 1, 2, 6, 3, 4, 5] [(a0, cF a1 a2 a3 a4 a5 a6 X.2.2.2.2.2.2), (a1, cS X.1), (a2, cS X.2.1), (a4, cB X.2.2.2.1), (a5, cB X.2.2.2.2.1), (a6, cB X.2.2.2.2.2.1)] ([(a0, cF a1 a2 a3 a4 a5 a6 X.2.2.2.2.2.2), (a1, cS X.1), (a2, cS X.2.1), (a3, cB X.2.2.1), (a4, cB X.2.2.2.1), (a5, cB X.2.2.2.2.1), (a6, cB X.2.2.2.2.2.1)]) rfl rfl rfl rfl (by decide) [a3] rfl rfl rfl rfl 3 0 rfl rfl rfl (Nat.le_of_ble_eq_true rfl) ⟨Nat.zero_le _, Nat.zero_le _⟩ rfl dX2_ball_32 ?_
    refine k_goto C 39 (by decide) dX2_ball_35 ?_
    have hL : fX2_ball_0 X = X.2.2.1.1 := by exact (if_neg c1).trans rfl
    exact k_iret C rfl (hL.symm) rfl dX2_ball_39

noncomputable def fX2_ball_1 (X : Co) : Int32 :=
  if X.2.2.2.2.2.2.2.1 = 0 then 0
  else X.2.2.1.2.1
set_option maxHeartbeats 4000000 in
set_option maxRecDepth 100000 in
theorem mX2_ball_1 (l : Launch) (D : va_G) (cI cJ : ClassId) (a0 a1 a2 a3 a4 a5 a6 : Nat) (X : Co)  : kCi l D cI cJ yX2_ball (.code yX2_ball cX2_ball 2 (some .int)) { frames := 6, cells := 0, slots := 0, locals := 90 } [.ref a0, .int 1] (wC a0 a1 a2 a3 a4 a5 a6 X) (fX2_ball_1 X) (wC a0 a1 a2 a3 a4 a5 a6 X) := by
  refine fun sz => k_of (lv := [(0, .ref a0), (1, .int 1)]) (by decide) sz (by exact Nat.le_of_ble_eq_true rfl) rfl ?_
  intro p e s m args below meth c hsz C
  refine k_iload_n C dX2_ball_0 1 rfl ?_
  refine k_if_lt C 10 (by decide) dX2_ball_1 (fun h => absurd h (by decide)) (fun _ => ?_)
  refine k_iload_n C dX2_ball_4 1 rfl ?_
  refine k_bipush C 6 (by decide) dX2_ball_5 ?_
  refine k_icmp_lt C 20 (by decide) dX2_ball_7 (fun _ => ?_) (fun h => absurd (by decide) h)
  refine k_aload_n C dX2_ball_20 0 rfl ?_
  refine k_getX2 C 0 7 rfl (by decide) rfl q129 rfl dX2_ball_21 ?_
  refine k_if_eq C 38 (by decide) dX2_ball_24 (fun c1 => ?_) (fun c1 => ?_)
  ·
    refine k_iconst C 0 (by decide) dX2_ball_38 ?_
    have hL : fX2_ball_1 X = 0 := by exact (if_pos c1).trans rfl
    exact k_iret C rfl (hL.symm) rfl dX2_ball_39
  ·
    refine k_aload_n C dX2_ball_27 0 rfl ?_
    refine k_getX2 C 0 2 rfl (by decide) rfl q124 rfl dX2_ball_28 ?_
    refine k_iload_n C dX2_ball_31 1 rfl ?_
    refine k_callN_i C (mX0_part_1 l D cI cJ a3 X.2.2.1) ⟨va_cnB 1 C.2.2.2.2.1 (kGN q243) rfl rfl rfl (C.2.2.2.2.2.2.1 _ qn10) (C.2.2.2.2.1 _ q37) hdX0_part ⟨Nat.le_of_ble_eq_true rfl, Nat.le_of_ble_eq_true rfl⟩, C.2.2.2.2.1 _ q242, C.2.2.2.2.1 _ q1⟩ [3] [0, 1, 2, 4, 5, 6] [0, 1, 2, 6, 3, 4, 5] [(a0, cF a1 a2 a3 a4 a5 a6 X.2.2.2.2.2.2), (a1, cS X.1), (a2, cS X.2.1), (a4, cB X.2.2.2.1), (a5, cB X.2.2.2.2.1), (a6, cB X.2.2.2.2.2.1)] ([(a0, cF a1 a2 a3 a4 a5 a6 X.2.2.2.2.2.2), (a1, cS X.1), (a2, cS X.2.1), (a3, cB X.2.2.1), (a4, cB X.2.2.2.1), (a5, cB X.2.2.2.2.1), (a6, cB X.2.2.2.2.2.1)]) rfl rfl rfl rfl (by decide) [a3] rfl rfl rfl rfl 3 0 rfl rfl rfl (Nat.le_of_ble_eq_true rfl) ⟨Nat.zero_le _, Nat.zero_le _⟩ rfl dX2_ball_32 ?_
    refine k_goto C 39 (by decide) dX2_ball_35 ?_
    have hL : fX2_ball_1 X = X.2.2.1.2.1 := by exact (if_neg c1).trans rfl
    exact k_iret C rfl (hL.symm) rfl dX2_ball_39

noncomputable def fX2_ball_2 (X : Co) : Int32 :=
  if X.2.2.2.2.2.2.2.1 = 0 then 0
  else X.2.2.1.2.2.1
set_option maxHeartbeats 4000000 in
set_option maxRecDepth 100000 in
theorem mX2_ball_2 (l : Launch) (D : va_G) (cI cJ : ClassId) (a0 a1 a2 a3 a4 a5 a6 : Nat) (X : Co)  : kCi l D cI cJ yX2_ball (.code yX2_ball cX2_ball 2 (some .int)) { frames := 6, cells := 0, slots := 0, locals := 90 } [.ref a0, .int 2] (wC a0 a1 a2 a3 a4 a5 a6 X) (fX2_ball_2 X) (wC a0 a1 a2 a3 a4 a5 a6 X) := by
  refine fun sz => k_of (lv := [(0, .ref a0), (1, .int 2)]) (by decide) sz (by exact Nat.le_of_ble_eq_true rfl) rfl ?_
  intro p e s m args below meth c hsz C
  refine k_iload_n C dX2_ball_0 1 rfl ?_
  refine k_if_lt C 10 (by decide) dX2_ball_1 (fun h => absurd h (by decide)) (fun _ => ?_)
  refine k_iload_n C dX2_ball_4 1 rfl ?_
  refine k_bipush C 6 (by decide) dX2_ball_5 ?_
  refine k_icmp_lt C 20 (by decide) dX2_ball_7 (fun _ => ?_) (fun h => absurd (by decide) h)
  refine k_aload_n C dX2_ball_20 0 rfl ?_
  refine k_getX2 C 0 7 rfl (by decide) rfl q129 rfl dX2_ball_21 ?_
  refine k_if_eq C 38 (by decide) dX2_ball_24 (fun c1 => ?_) (fun c1 => ?_)
  ·
    refine k_iconst C 0 (by decide) dX2_ball_38 ?_
    have hL : fX2_ball_2 X = 0 := by exact (if_pos c1).trans rfl
    exact k_iret C rfl (hL.symm) rfl dX2_ball_39
  ·
    refine k_aload_n C dX2_ball_27 0 rfl ?_
    refine k_getX2 C 0 2 rfl (by decide) rfl q124 rfl dX2_ball_28 ?_
    refine k_iload_n C dX2_ball_31 1 rfl ?_
    refine k_callN_i C (mX0_part_2 l D cI cJ a3 X.2.2.1) ⟨va_cnB 1 C.2.2.2.2.1 (kGN q243) rfl rfl rfl (C.2.2.2.2.2.2.1 _ qn10) (C.2.2.2.2.1 _ q37) hdX0_part ⟨Nat.le_of_ble_eq_true rfl, Nat.le_of_ble_eq_true rfl⟩, C.2.2.2.2.1 _ q242, C.2.2.2.2.1 _ q1⟩ [3] [0, 1, 2, 4, 5, 6] [0, 1, 2, 6, 3, 4, 5] [(a0, cF a1 a2 a3 a4 a5 a6 X.2.2.2.2.2.2), (a1, cS X.1), (a2, cS X.2.1), (a4, cB X.2.2.2.1), (a5, cB X.2.2.2.2.1), (a6, cB X.2.2.2.2.2.1)] ([(a0, cF a1 a2 a3 a4 a5 a6 X.2.2.2.2.2.2), (a1, cS X.1), (a2, cS X.2.1), (a3, cB X.2.2.1), (a4, cB X.2.2.2.1), (a5, cB X.2.2.2.2.1), (a6, cB X.2.2.2.2.2.1)]) rfl rfl rfl rfl (by decide) [a3] rfl rfl rfl rfl 3 0 rfl rfl rfl (Nat.le_of_ble_eq_true rfl) ⟨Nat.zero_le _, Nat.zero_le _⟩ rfl dX2_ball_32 ?_
    refine k_goto C 39 (by decide) dX2_ball_35 ?_
    have hL : fX2_ball_2 X = X.2.2.1.2.2.1 := by exact (if_neg c1).trans rfl
    exact k_iret C rfl (hL.symm) rfl dX2_ball_39

noncomputable def fX2_ball_3 (X : Co) : Int32 :=
  if X.2.2.2.2.2.2.2.1 = 0 then 0
  else X.2.2.1.2.2.2.1
set_option maxHeartbeats 4000000 in
set_option maxRecDepth 100000 in
theorem mX2_ball_3 (l : Launch) (D : va_G) (cI cJ : ClassId) (a0 a1 a2 a3 a4 a5 a6 : Nat) (X : Co)  : kCi l D cI cJ yX2_ball (.code yX2_ball cX2_ball 2 (some .int)) { frames := 6, cells := 0, slots := 0, locals := 90 } [.ref a0, .int 3] (wC a0 a1 a2 a3 a4 a5 a6 X) (fX2_ball_3 X) (wC a0 a1 a2 a3 a4 a5 a6 X) := by
  refine fun sz => k_of (lv := [(0, .ref a0), (1, .int 3)]) (by decide) sz (by exact Nat.le_of_ble_eq_true rfl) rfl ?_
  intro p e s m args below meth c hsz C
  refine k_iload_n C dX2_ball_0 1 rfl ?_
  refine k_if_lt C 10 (by decide) dX2_ball_1 (fun h => absurd h (by decide)) (fun _ => ?_)
  refine k_iload_n C dX2_ball_4 1 rfl ?_
  refine k_bipush C 6 (by decide) dX2_ball_5 ?_
  refine k_icmp_lt C 20 (by decide) dX2_ball_7 (fun _ => ?_) (fun h => absurd (by decide) h)
  refine k_aload_n C dX2_ball_20 0 rfl ?_
  refine k_getX2 C 0 7 rfl (by decide) rfl q129 rfl dX2_ball_21 ?_
  refine k_if_eq C 38 (by decide) dX2_ball_24 (fun c1 => ?_) (fun c1 => ?_)
  ·
    refine k_iconst C 0 (by decide) dX2_ball_38 ?_
    have hL : fX2_ball_3 X = 0 := by exact (if_pos c1).trans rfl
    exact k_iret C rfl (hL.symm) rfl dX2_ball_39
  ·
    refine k_aload_n C dX2_ball_27 0 rfl ?_
    refine k_getX2 C 0 2 rfl (by decide) rfl q124 rfl dX2_ball_28 ?_
    refine k_iload_n C dX2_ball_31 1 rfl ?_
    refine k_callN_i C (mX0_part_3 l D cI cJ a3 X.2.2.1) ⟨va_cnB 1 C.2.2.2.2.1 (kGN q243) rfl rfl rfl (C.2.2.2.2.2.2.1 _ qn10) (C.2.2.2.2.1 _ q37) hdX0_part ⟨Nat.le_of_ble_eq_true rfl, Nat.le_of_ble_eq_true rfl⟩, C.2.2.2.2.1 _ q242, C.2.2.2.2.1 _ q1⟩ [3] [0, 1, 2, 4, 5, 6] [0, 1, 2, 6, 3, 4, 5] [(a0, cF a1 a2 a3 a4 a5 a6 X.2.2.2.2.2.2), (a1, cS X.1), (a2, cS X.2.1), (a4, cB X.2.2.2.1), (a5, cB X.2.2.2.2.1), (a6, cB X.2.2.2.2.2.1)] ([(a0, cF a1 a2 a3 a4 a5 a6 X.2.2.2.2.2.2), (a1, cS X.1), (a2, cS X.2.1), (a3, cB X.2.2.1), (a4, cB X.2.2.2.1), (a5, cB X.2.2.2.2.1), (a6, cB X.2.2.2.2.2.1)]) rfl rfl rfl rfl (by decide) [a3] rfl rfl rfl rfl 3 0 rfl rfl rfl (Nat.le_of_ble_eq_true rfl) ⟨Nat.zero_le _, Nat.zero_le _⟩ rfl dX2_ball_32 ?_
    refine k_goto C 39 (by decide) dX2_ball_35 ?_
    have hL : fX2_ball_3 X = X.2.2.1.2.2.2.1 := by exact (if_neg c1).trans rfl
    exact k_iret C rfl (hL.symm) rfl dX2_ball_39

noncomputable def fX2_ball_4 (X : Co) : Int32 :=
  if X.2.2.2.2.2.2.2.1 = 0 then 0
  else X.2.2.1.2.2.2.2.1
set_option maxHeartbeats 4000000 in
set_option maxRecDepth 100000 in
theorem mX2_ball_4 (l : Launch) (D : va_G) (cI cJ : ClassId) (a0 a1 a2 a3 a4 a5 a6 : Nat) (X : Co)  : kCi l D cI cJ yX2_ball (.code yX2_ball cX2_ball 2 (some .int)) { frames := 6, cells := 0, slots := 0, locals := 90 } [.ref a0, .int 4] (wC a0 a1 a2 a3 a4 a5 a6 X) (fX2_ball_4 X) (wC a0 a1 a2 a3 a4 a5 a6 X) := by
  refine fun sz => k_of (lv := [(0, .ref a0), (1, .int 4)]) (by decide) sz (by exact Nat.le_of_ble_eq_true rfl) rfl ?_
  intro p e s m args below meth c hsz C
  refine k_iload_n C dX2_ball_0 1 rfl ?_
  refine k_if_lt C 10 (by decide) dX2_ball_1 (fun h => absurd h (by decide)) (fun _ => ?_)
  refine k_iload_n C dX2_ball_4 1 rfl ?_
  refine k_bipush C 6 (by decide) dX2_ball_5 ?_
  refine k_icmp_lt C 20 (by decide) dX2_ball_7 (fun _ => ?_) (fun h => absurd (by decide) h)
  refine k_aload_n C dX2_ball_20 0 rfl ?_
  refine k_getX2 C 0 7 rfl (by decide) rfl q129 rfl dX2_ball_21 ?_
  refine k_if_eq C 38 (by decide) dX2_ball_24 (fun c1 => ?_) (fun c1 => ?_)
  ·
    refine k_iconst C 0 (by decide) dX2_ball_38 ?_
    have hL : fX2_ball_4 X = 0 := by exact (if_pos c1).trans rfl
    exact k_iret C rfl (hL.symm) rfl dX2_ball_39
  ·
    refine k_aload_n C dX2_ball_27 0 rfl ?_
    refine k_getX2 C 0 2 rfl (by decide) rfl q124 rfl dX2_ball_28 ?_
    refine k_iload_n C dX2_ball_31 1 rfl ?_
    refine k_callN_i C (mX0_part_4 l D cI cJ a3 X.2.2.1) ⟨va_cnB 1 C.2.2.2.2.1 (kGN q243) rfl rfl rfl (C.2.2.2.2.2.2.1 _ qn10) (C.2.2.2.2.1 _ q37) hdX0_part ⟨Nat.le_of_ble_eq_true rfl, Nat.le_of_ble_eq_true rfl⟩, C.2.2.2.2.1 _ q242, C.2.2.2.2.1 _ q1⟩ [3] [0, 1, 2, 4, 5, 6] [0, 1, 2, 6, 3, 4, 5] [(a0, cF a1 a2 a3 a4 a5 a6 X.2.2.2.2.2.2), (a1, cS X.1), (a2, cS X.2.1), (a4, cB X.2.2.2.1), (a5, cB X.2.2.2.2.1), (a6, cB X.2.2.2.2.2.1)] ([(a0, cF a1 a2 a3 a4 a5 a6 X.2.2.2.2.2.2), (a1, cS X.1), (a2, cS X.2.1), (a3, cB X.2.2.1), (a4, cB X.2.2.2.1), (a5, cB X.2.2.2.2.1), (a6, cB X.2.2.2.2.2.1)]) rfl rfl rfl rfl (by decide) [a3] rfl rfl rfl rfl 3 0 rfl rfl rfl (Nat.le_of_ble_eq_true rfl) ⟨Nat.zero_le _, Nat.zero_le _⟩ rfl dX2_ball_32 ?_
    refine k_goto C 39 (by decide) dX2_ball_35 ?_
    have hL : fX2_ball_4 X = X.2.2.1.2.2.2.2.1 := by exact (if_neg c1).trans rfl
    exact k_iret C rfl (hL.symm) rfl dX2_ball_39

noncomputable def fX2_ball_5 (X : Co) : Int32 :=
  if X.2.2.2.2.2.2.2.1 = 0 then 0
  else X.2.2.1.2.2.2.2.2.1
set_option maxHeartbeats 4000000 in
set_option maxRecDepth 100000 in
theorem mX2_ball_5 (l : Launch) (D : va_G) (cI cJ : ClassId) (a0 a1 a2 a3 a4 a5 a6 : Nat) (X : Co)  : kCi l D cI cJ yX2_ball (.code yX2_ball cX2_ball 2 (some .int)) { frames := 6, cells := 0, slots := 0, locals := 90 } [.ref a0, .int 5] (wC a0 a1 a2 a3 a4 a5 a6 X) (fX2_ball_5 X) (wC a0 a1 a2 a3 a4 a5 a6 X) := by
  refine fun sz => k_of (lv := [(0, .ref a0), (1, .int 5)]) (by decide) sz (by exact Nat.le_of_ble_eq_true rfl) rfl ?_
  intro p e s m args below meth c hsz C
  refine k_iload_n C dX2_ball_0 1 rfl ?_
  refine k_if_lt C 10 (by decide) dX2_ball_1 (fun h => absurd h (by decide)) (fun _ => ?_)
  refine k_iload_n C dX2_ball_4 1 rfl ?_
  refine k_bipush C 6 (by decide) dX2_ball_5 ?_
  refine k_icmp_lt C 20 (by decide) dX2_ball_7 (fun _ => ?_) (fun h => absurd (by decide) h)
  refine k_aload_n C dX2_ball_20 0 rfl ?_
  refine k_getX2 C 0 7 rfl (by decide) rfl q129 rfl dX2_ball_21 ?_
  refine k_if_eq C 38 (by decide) dX2_ball_24 (fun c1 => ?_) (fun c1 => ?_)
  ·
    refine k_iconst C 0 (by decide) dX2_ball_38 ?_
    have hL : fX2_ball_5 X = 0 := by exact (if_pos c1).trans rfl
    exact k_iret C rfl (hL.symm) rfl dX2_ball_39
  ·
    refine k_aload_n C dX2_ball_27 0 rfl ?_
    refine k_getX2 C 0 2 rfl (by decide) rfl q124 rfl dX2_ball_28 ?_
    refine k_iload_n C dX2_ball_31 1 rfl ?_
    refine k_callN_i C (mX0_part_5 l D cI cJ a3 X.2.2.1) ⟨va_cnB 1 C.2.2.2.2.1 (kGN q243) rfl rfl rfl (C.2.2.2.2.2.2.1 _ qn10) (C.2.2.2.2.1 _ q37) hdX0_part ⟨Nat.le_of_ble_eq_true rfl, Nat.le_of_ble_eq_true rfl⟩, C.2.2.2.2.1 _ q242, C.2.2.2.2.1 _ q1⟩ [3] [0, 1, 2, 4, 5, 6] [0, 1, 2, 6, 3, 4, 5] [(a0, cF a1 a2 a3 a4 a5 a6 X.2.2.2.2.2.2), (a1, cS X.1), (a2, cS X.2.1), (a4, cB X.2.2.2.1), (a5, cB X.2.2.2.2.1), (a6, cB X.2.2.2.2.2.1)] ([(a0, cF a1 a2 a3 a4 a5 a6 X.2.2.2.2.2.2), (a1, cS X.1), (a2, cS X.2.1), (a3, cB X.2.2.1), (a4, cB X.2.2.2.1), (a5, cB X.2.2.2.2.1), (a6, cB X.2.2.2.2.2.1)]) rfl rfl rfl rfl (by decide) [a3] rfl rfl rfl rfl 3 0 rfl rfl rfl (Nat.le_of_ble_eq_true rfl) ⟨Nat.zero_le _, Nat.zero_le _⟩ rfl dX2_ball_32 ?_
    refine k_goto C 39 (by decide) dX2_ball_35 ?_
    have hL : fX2_ball_5 X = X.2.2.1.2.2.2.2.2.1 := by exact (if_neg c1).trans rfl
    exact k_iret C rfl (hL.symm) rfl dX2_ball_39

theorem hdX2_end : yX2_end.cls ≠ "java/lang/invoke/MethodHandle" ∧ yX2_end.cls ≠ "java/lang/invoke/VarHandle" ∧ (parseMethodDescriptor yX2_end.desc).map (fun d => d.parameters.length) = some 1 := by decide +kernel
noncomputable def fX2_end_0 (X : Co) : Int32 :=
  if X.2.2.2.2.2.2.2.1 = 0 then 0
  else X.2.2.2.1.2.2.2.2.2.2.2.2.2.2
set_option maxHeartbeats 4000000 in
set_option maxRecDepth 100000 in
theorem mX2_end_0 (l : Launch) (D : va_G) (cI cJ : ClassId) (a0 a1 a2 a3 a4 a5 a6 : Nat) (X : Co)  : kCi l D cI cJ yX2_end (.code yX2_end cX2_end 2 (some .int)) { frames := 6, cells := 0, slots := 0, locals := 90 } [.ref a0, .int 0] (wC a0 a1 a2 a3 a4 a5 a6 X) (fX2_end_0 X) (wC a0 a1 a2 a3 a4 a5 a6 X) := by
  refine fun sz => k_of (lv := [(0, .ref a0), (1, .int 0)]) (by decide) sz (by exact Nat.le_of_ble_eq_true rfl) rfl ?_
  intro p e s m args below meth c hsz C
  refine k_iload_n C dX2_end_0 1 rfl ?_
  refine k_if_lt C 9 (by decide) dX2_end_1 (fun h => absurd h (by decide)) (fun _ => ?_)
  refine k_iload_n C dX2_end_4 1 rfl ?_
  refine k_iconst C 5 (by decide) dX2_end_5 ?_
  refine k_icmp_lt C 19 (by decide) dX2_end_6 (fun _ => ?_) (fun h => absurd (by decide) h)
  refine k_aload_n C dX2_end_19 0 rfl ?_
  refine k_getX2 C 0 7 rfl (by decide) rfl q129 rfl dX2_end_20 ?_
  refine k_if_eq C 37 (by decide) dX2_end_23 (fun c1 => ?_) (fun c1 => ?_)
  ·
    refine k_iconst C 0 (by decide) dX2_end_37 ?_
    have hL : fX2_end_0 X = 0 := by exact (if_pos c1).trans rfl
    exact k_iret C rfl (hL.symm) rfl dX2_end_38
  ·
    refine k_aload_n C dX2_end_26 0 rfl ?_
    refine k_getX2 C 0 3 rfl (by decide) rfl q125 rfl dX2_end_27 ?_
    refine k_iload_n C dX2_end_30 1 rfl ?_
    refine k_callN_i C (mX0_endPart_0 l D cI cJ a4 X.2.2.2.1) ⟨va_cnB 1 C.2.2.2.2.1 (kGN q361) rfl rfl rfl (C.2.2.2.2.2.2.1 _ qn11) (C.2.2.2.2.1 _ q37) hdX0_endPart ⟨Nat.le_of_ble_eq_true rfl, Nat.le_of_ble_eq_true rfl⟩, C.2.2.2.2.1 _ q360, C.2.2.2.2.1 _ q17⟩ [4] [0, 1, 2, 3, 5, 6] [0, 1, 2, 3, 6, 4, 5] [(a0, cF a1 a2 a3 a4 a5 a6 X.2.2.2.2.2.2), (a1, cS X.1), (a2, cS X.2.1), (a3, cB X.2.2.1), (a5, cB X.2.2.2.2.1), (a6, cB X.2.2.2.2.2.1)] ([(a0, cF a1 a2 a3 a4 a5 a6 X.2.2.2.2.2.2), (a1, cS X.1), (a2, cS X.2.1), (a3, cB X.2.2.1), (a4, cB X.2.2.2.1), (a5, cB X.2.2.2.2.1), (a6, cB X.2.2.2.2.2.1)]) rfl rfl rfl rfl (by decide) [a4] rfl rfl rfl rfl 4 0 rfl rfl rfl (Nat.le_of_ble_eq_true rfl) ⟨Nat.zero_le _, Nat.zero_le _⟩ rfl dX2_end_31 ?_
    refine k_goto C 38 (by decide) dX2_end_34 ?_
    have hL : fX2_end_0 X = X.2.2.2.1.2.2.2.2.2.2.2.2.2.2 := by exact (if_neg c1).trans rfl
    exact k_iret C rfl (hL.symm) rfl dX2_end_38

noncomputable def fX2_end_1 (X : Co) : Int32 :=
  if X.2.2.2.2.2.2.2.1 = 0 then 0
  else X.2.2.2.1.2.2.2.2.2.2.2.2.2.1
set_option maxHeartbeats 4000000 in
set_option maxRecDepth 100000 in
theorem mX2_end_1 (l : Launch) (D : va_G) (cI cJ : ClassId) (a0 a1 a2 a3 a4 a5 a6 : Nat) (X : Co)  : kCi l D cI cJ yX2_end (.code yX2_end cX2_end 2 (some .int)) { frames := 6, cells := 0, slots := 0, locals := 90 } [.ref a0, .int 1] (wC a0 a1 a2 a3 a4 a5 a6 X) (fX2_end_1 X) (wC a0 a1 a2 a3 a4 a5 a6 X) := by
  refine fun sz => k_of (lv := [(0, .ref a0), (1, .int 1)]) (by decide) sz (by exact Nat.le_of_ble_eq_true rfl) rfl ?_
  intro p e s m args below meth c hsz C
  refine k_iload_n C dX2_end_0 1 rfl ?_
  refine k_if_lt C 9 (by decide) dX2_end_1 (fun h => absurd h (by decide)) (fun _ => ?_)
  refine k_iload_n C dX2_end_4 1 rfl ?_
  refine k_iconst C 5 (by decide) dX2_end_5 ?_
  refine k_icmp_lt C 19 (by decide) dX2_end_6 (fun _ => ?_) (fun h => absurd (by decide) h)
  refine k_aload_n C dX2_end_19 0 rfl ?_
  refine k_getX2 C 0 7 rfl (by decide) rfl q129 rfl dX2_end_20 ?_
  refine k_if_eq C 37 (by decide) dX2_end_23 (fun c1 => ?_) (fun c1 => ?_)
  ·
    refine k_iconst C 0 (by decide) dX2_end_37 ?_
    have hL : fX2_end_1 X = 0 := by exact (if_pos c1).trans rfl
    exact k_iret C rfl (hL.symm) rfl dX2_end_38
  ·
    refine k_aload_n C dX2_end_26 0 rfl ?_
    refine k_getX2 C 0 3 rfl (by decide) rfl q125 rfl dX2_end_27 ?_
    refine k_iload_n C dX2_end_30 1 rfl ?_
    refine k_callN_i C (mX0_endPart_1 l D cI cJ a4 X.2.2.2.1) ⟨va_cnB 1 C.2.2.2.2.1 (kGN q361) rfl rfl rfl (C.2.2.2.2.2.2.1 _ qn11) (C.2.2.2.2.1 _ q37) hdX0_endPart ⟨Nat.le_of_ble_eq_true rfl, Nat.le_of_ble_eq_true rfl⟩, C.2.2.2.2.1 _ q360, C.2.2.2.2.1 _ q17⟩ [4] [0, 1, 2, 3, 5, 6] [0, 1, 2, 3, 6, 4, 5] [(a0, cF a1 a2 a3 a4 a5 a6 X.2.2.2.2.2.2), (a1, cS X.1), (a2, cS X.2.1), (a3, cB X.2.2.1), (a5, cB X.2.2.2.2.1), (a6, cB X.2.2.2.2.2.1)] ([(a0, cF a1 a2 a3 a4 a5 a6 X.2.2.2.2.2.2), (a1, cS X.1), (a2, cS X.2.1), (a3, cB X.2.2.1), (a4, cB X.2.2.2.1), (a5, cB X.2.2.2.2.1), (a6, cB X.2.2.2.2.2.1)]) rfl rfl rfl rfl (by decide) [a4] rfl rfl rfl rfl 4 0 rfl rfl rfl (Nat.le_of_ble_eq_true rfl) ⟨Nat.zero_le _, Nat.zero_le _⟩ rfl dX2_end_31 ?_
    refine k_goto C 38 (by decide) dX2_end_34 ?_
    have hL : fX2_end_1 X = X.2.2.2.1.2.2.2.2.2.2.2.2.2.1 := by exact (if_neg c1).trans rfl
    exact k_iret C rfl (hL.symm) rfl dX2_end_38

noncomputable def fX2_end_2 (X : Co) : Int32 :=
  if X.2.2.2.2.2.2.2.1 = 0 then 0
  else X.2.2.2.1.2.2.2.2.2.2.1
set_option maxHeartbeats 4000000 in
set_option maxRecDepth 100000 in
theorem mX2_end_2 (l : Launch) (D : va_G) (cI cJ : ClassId) (a0 a1 a2 a3 a4 a5 a6 : Nat) (X : Co)  : kCi l D cI cJ yX2_end (.code yX2_end cX2_end 2 (some .int)) { frames := 6, cells := 0, slots := 0, locals := 90 } [.ref a0, .int 2] (wC a0 a1 a2 a3 a4 a5 a6 X) (fX2_end_2 X) (wC a0 a1 a2 a3 a4 a5 a6 X) := by
  refine fun sz => k_of (lv := [(0, .ref a0), (1, .int 2)]) (by decide) sz (by exact Nat.le_of_ble_eq_true rfl) rfl ?_
  intro p e s m args below meth c hsz C
  refine k_iload_n C dX2_end_0 1 rfl ?_
  refine k_if_lt C 9 (by decide) dX2_end_1 (fun h => absurd h (by decide)) (fun _ => ?_)
  refine k_iload_n C dX2_end_4 1 rfl ?_
  refine k_iconst C 5 (by decide) dX2_end_5 ?_
  refine k_icmp_lt C 19 (by decide) dX2_end_6 (fun _ => ?_) (fun h => absurd (by decide) h)
  refine k_aload_n C dX2_end_19 0 rfl ?_
  refine k_getX2 C 0 7 rfl (by decide) rfl q129 rfl dX2_end_20 ?_
  refine k_if_eq C 37 (by decide) dX2_end_23 (fun c1 => ?_) (fun c1 => ?_)
  ·
    refine k_iconst C 0 (by decide) dX2_end_37 ?_
    have hL : fX2_end_2 X = 0 := by exact (if_pos c1).trans rfl
    exact k_iret C rfl (hL.symm) rfl dX2_end_38
  ·
    refine k_aload_n C dX2_end_26 0 rfl ?_
    refine k_getX2 C 0 3 rfl (by decide) rfl q125 rfl dX2_end_27 ?_
    refine k_iload_n C dX2_end_30 1 rfl ?_
    refine k_callN_i C (mX0_endPart_2 l D cI cJ a4 X.2.2.2.1) ⟨va_cnB 1 C.2.2.2.2.1 (kGN q361) rfl rfl rfl (C.2.2.2.2.2.2.1 _ qn11) (C.2.2.2.2.1 _ q37) hdX0_endPart ⟨Nat.le_of_ble_eq_true rfl, Nat.le_of_ble_eq_true rfl⟩, C.2.2.2.2.1 _ q360, C.2.2.2.2.1 _ q17⟩ [4] [0, 1, 2, 3, 5, 6] [0, 1, 2, 3, 6, 4, 5] [(a0, cF a1 a2 a3 a4 a5 a6 X.2.2.2.2.2.2), (a1, cS X.1), (a2, cS X.2.1), (a3, cB X.2.2.1), (a5, cB X.2.2.2.2.1), (a6, cB X.2.2.2.2.2.1)] ([(a0, cF a1 a2 a3 a4 a5 a6 X.2.2.2.2.2.2), (a1, cS X.1), (a2, cS X.2.1), (a3, cB X.2.2.1), (a4, cB X.2.2.2.1), (a5, cB X.2.2.2.2.1), (a6, cB X.2.2.2.2.2.1)]) rfl rfl rfl rfl (by decide) [a4] rfl rfl rfl rfl 4 0 rfl rfl rfl (Nat.le_of_ble_eq_true rfl) ⟨Nat.zero_le _, Nat.zero_le _⟩ rfl dX2_end_31 ?_
    refine k_goto C 38 (by decide) dX2_end_34 ?_
    have hL : fX2_end_2 X = X.2.2.2.1.2.2.2.2.2.2.1 := by exact (if_neg c1).trans rfl
    exact k_iret C rfl (hL.symm) rfl dX2_end_38

noncomputable def fX2_end_3 (X : Co) : Int32 :=
  if X.2.2.2.2.2.2.2.1 = 0 then 0
  else X.2.2.2.1.2.2.2.2.2.2.2.1
set_option maxHeartbeats 4000000 in
set_option maxRecDepth 100000 in
theorem mX2_end_3 (l : Launch) (D : va_G) (cI cJ : ClassId) (a0 a1 a2 a3 a4 a5 a6 : Nat) (X : Co)  : kCi l D cI cJ yX2_end (.code yX2_end cX2_end 2 (some .int)) { frames := 6, cells := 0, slots := 0, locals := 90 } [.ref a0, .int 3] (wC a0 a1 a2 a3 a4 a5 a6 X) (fX2_end_3 X) (wC a0 a1 a2 a3 a4 a5 a6 X) := by
  refine fun sz => k_of (lv := [(0, .ref a0), (1, .int 3)]) (by decide) sz (by exact Nat.le_of_ble_eq_true rfl) rfl ?_
  intro p e s m args below meth c hsz C
  refine k_iload_n C dX2_end_0 1 rfl ?_
  refine k_if_lt C 9 (by decide) dX2_end_1 (fun h => absurd h (by decide)) (fun _ => ?_)
  refine k_iload_n C dX2_end_4 1 rfl ?_
  refine k_iconst C 5 (by decide) dX2_end_5 ?_
  refine k_icmp_lt C 19 (by decide) dX2_end_6 (fun _ => ?_) (fun h => absurd (by decide) h)
  refine k_aload_n C dX2_end_19 0 rfl ?_
  refine k_getX2 C 0 7 rfl (by decide) rfl q129 rfl dX2_end_20 ?_
  refine k_if_eq C 37 (by decide) dX2_end_23 (fun c1 => ?_) (fun c1 => ?_)
  ·
    refine k_iconst C 0 (by decide) dX2_end_37 ?_
    have hL : fX2_end_3 X = 0 := by exact (if_pos c1).trans rfl
    exact k_iret C rfl (hL.symm) rfl dX2_end_38
  ·
    refine k_aload_n C dX2_end_26 0 rfl ?_
    refine k_getX2 C 0 3 rfl (by decide) rfl q125 rfl dX2_end_27 ?_
    refine k_iload_n C dX2_end_30 1 rfl ?_
    refine k_callN_i C (mX0_endPart_3 l D cI cJ a4 X.2.2.2.1) ⟨va_cnB 1 C.2.2.2.2.1 (kGN q361) rfl rfl rfl (C.2.2.2.2.2.2.1 _ qn11) (C.2.2.2.2.1 _ q37) hdX0_endPart ⟨Nat.le_of_ble_eq_true rfl, Nat.le_of_ble_eq_true rfl⟩, C.2.2.2.2.1 _ q360, C.2.2.2.2.1 _ q17⟩ [4] [0, 1, 2, 3, 5, 6] [0, 1, 2, 3, 6, 4, 5] [(a0, cF a1 a2 a3 a4 a5 a6 X.2.2.2.2.2.2), (a1, cS X.1), (a2, cS X.2.1), (a3, cB X.2.2.1), (a5, cB X.2.2.2.2.1), (a6, cB X.2.2.2.2.2.1)] ([(a0, cF a1 a2 a3 a4 a5 a6 X.2.2.2.2.2.2), (a1, cS X.1), (a2, cS X.2.1), (a3, cB X.2.2.1), (a4, cB X.2.2.2.1), (a5, cB X.2.2.2.2.1), (a6, cB X.2.2.2.2.2.1)]) rfl rfl rfl rfl (by decide) [a4] rfl rfl rfl rfl 4 0 rfl rfl rfl (Nat.le_of_ble_eq_true rfl) ⟨Nat.zero_le _, Nat.zero_le _⟩ rfl dX2_end_31 ?_
    refine k_goto C 38 (by decide) dX2_end_34 ?_
    have hL : fX2_end_3 X = X.2.2.2.1.2.2.2.2.2.2.2.1 := by exact (if_neg c1).trans rfl
    exact k_iret C rfl (hL.symm) rfl dX2_end_38

noncomputable def fX2_end_4 (X : Co) : Int32 :=
  if X.2.2.2.2.2.2.2.1 = 0 then 0
  else X.2.2.2.1.2.2.2.2.2.2.2.2.1
set_option maxHeartbeats 4000000 in
set_option maxRecDepth 100000 in
theorem mX2_end_4 (l : Launch) (D : va_G) (cI cJ : ClassId) (a0 a1 a2 a3 a4 a5 a6 : Nat) (X : Co)  : kCi l D cI cJ yX2_end (.code yX2_end cX2_end 2 (some .int)) { frames := 6, cells := 0, slots := 0, locals := 90 } [.ref a0, .int 4] (wC a0 a1 a2 a3 a4 a5 a6 X) (fX2_end_4 X) (wC a0 a1 a2 a3 a4 a5 a6 X) := by
  refine fun sz => k_of (lv := [(0, .ref a0), (1, .int 4)]) (by decide) sz (by exact Nat.le_of_ble_eq_true rfl) rfl ?_
  intro p e s m args below meth c hsz C
  refine k_iload_n C dX2_end_0 1 rfl ?_
  refine k_if_lt C 9 (by decide) dX2_end_1 (fun h => absurd h (by decide)) (fun _ => ?_)
  refine k_iload_n C dX2_end_4 1 rfl ?_
  refine k_iconst C 5 (by decide) dX2_end_5 ?_
  refine k_icmp_lt C 19 (by decide) dX2_end_6 (fun _ => ?_) (fun h => absurd (by decide) h)
  refine k_aload_n C dX2_end_19 0 rfl ?_
  refine k_getX2 C 0 7 rfl (by decide) rfl q129 rfl dX2_end_20 ?_
  refine k_if_eq C 37 (by decide) dX2_end_23 (fun c1 => ?_) (fun c1 => ?_)
  ·
    refine k_iconst C 0 (by decide) dX2_end_37 ?_
    have hL : fX2_end_4 X = 0 := by exact (if_pos c1).trans rfl
    exact k_iret C rfl (hL.symm) rfl dX2_end_38
  ·
    refine k_aload_n C dX2_end_26 0 rfl ?_
    refine k_getX2 C 0 3 rfl (by decide) rfl q125 rfl dX2_end_27 ?_
    refine k_iload_n C dX2_end_30 1 rfl ?_
    refine k_callN_i C (mX0_endPart_4 l D cI cJ a4 X.2.2.2.1) ⟨va_cnB 1 C.2.2.2.2.1 (kGN q361) rfl rfl rfl (C.2.2.2.2.2.2.1 _ qn11) (C.2.2.2.2.1 _ q37) hdX0_endPart ⟨Nat.le_of_ble_eq_true rfl, Nat.le_of_ble_eq_true rfl⟩, C.2.2.2.2.1 _ q360, C.2.2.2.2.1 _ q17⟩ [4] [0, 1, 2, 3, 5, 6] [0, 1, 2, 3, 6, 4, 5] [(a0, cF a1 a2 a3 a4 a5 a6 X.2.2.2.2.2.2), (a1, cS X.1), (a2, cS X.2.1), (a3, cB X.2.2.1), (a5, cB X.2.2.2.2.1), (a6, cB X.2.2.2.2.2.1)] ([(a0, cF a1 a2 a3 a4 a5 a6 X.2.2.2.2.2.2), (a1, cS X.1), (a2, cS X.2.1), (a3, cB X.2.2.1), (a4, cB X.2.2.2.1), (a5, cB X.2.2.2.2.1), (a6, cB X.2.2.2.2.2.1)]) rfl rfl rfl rfl (by decide) [a4] rfl rfl rfl rfl 4 0 rfl rfl rfl (Nat.le_of_ble_eq_true rfl) ⟨Nat.zero_le _, Nat.zero_le _⟩ rfl dX2_end_31 ?_
    refine k_goto C 38 (by decide) dX2_end_34 ?_
    have hL : fX2_end_4 X = X.2.2.2.1.2.2.2.2.2.2.2.2.1 := by exact (if_neg c1).trans rfl
    exact k_iret C rfl (hL.symm) rfl dX2_end_38

theorem hdX2_digest : yX2_digest.cls ≠ "java/lang/invoke/MethodHandle" ∧ yX2_digest.cls ≠ "java/lang/invoke/VarHandle" ∧ (parseMethodDescriptor yX2_digest.desc).map (fun d => d.parameters.length) = some 0 := by decide +kernel
noncomputable def fX2_digest (X : Co) : Int64 :=
  ((((((((((((((((((((((((((((((((((((((((((((((((((((((((1801 * 31) + ((fX2_count_0 X)).toInt64) * 31) + ((fX2_count_1 X)).toInt64) * 31) + ((fX2_count_2 X)).toInt64) * 31) + ((fX2_count_3 X)).toInt64) * 31) + ((fX2_count_4 X)).toInt64) * 31) + ((fX2_count_5 X)).toInt64) * 31) + ((fX2_count_6 X)).toInt64) * 31) + ((fX2_count_7 X)).toInt64) * 31) + ((fX2_count_8 X)).toInt64) * 31) + ((fX2_told_00 X)).toInt64) * 31) + ((fX2_told_01 X)).toInt64) * 31) + ((fX2_told_02 X)).toInt64) * 31) + ((fX2_told_03 X)).toInt64) * 31) + ((fX2_told_10 X)).toInt64) * 31) + ((fX2_told_11 X)).toInt64) * 31) + ((fX2_told_12 X)).toInt64) * 31) + ((fX2_told_13 X)).toInt64) * 31) + ((fX2_ball_0 X)).toInt64) * 31) + ((fX2_ball_1 X)).toInt64) * 31) + ((fX2_ball_2 X)).toInt64) * 31) + ((fX2_ball_3 X)).toInt64) * 31) + ((fX2_ball_4 X)).toInt64) * 31) + ((fX2_ball_5 X)).toInt64) * 31) + ((fX2_end_0 X)).toInt64) * 31) + ((fX2_end_1 X)).toInt64) * 31) + ((fX2_end_2 X)).toInt64) * 31) + ((fX2_end_3 X)).toInt64) * 31) + ((fX2_end_4 X)).toInt64)
set_option maxHeartbeats 4000000 in
set_option maxRecDepth 100000 in
theorem mX2_digest (l : Launch) (D : va_G) (cI cJ : ClassId) (a0 a1 a2 a3 a4 a5 a6 : Nat) (X : Co)  : kCl_ l D cI cJ yX2_digest (.code yX2_digest cX2_digest 5 (some .long)) { frames := 7, cells := 0, slots := 0, locals := 112 } [.ref a0] (wC a0 a1 a2 a3 a4 a5 a6 X) (fX2_digest X) (wC a0 a1 a2 a3 a4 a5 a6 X) := by
  refine fun sz => k_of (lv := [(0, .ref a0)]) (by decide) sz (by exact Nat.le_of_ble_eq_true rfl) rfl ?_
  intro p e s m args below meth c hsz C
  refine k_ldc2 C q409 dX2_digest_0 ?_
  refine k_lstore_n C [(1, .long 1801), (0, .ref a0)] (by decide) rfl dX2_digest_3 ?_
  refine k_iconst C 0 (by decide) dX2_digest_4 ?_
  refine k_istore_n C [(3, .int 0), (1, .long 1801), (0, .ref a0)] (by decide) rfl dX2_digest_5 ?_
  refine k_iload_n C dX2_digest_6 0 rfl ?_
  refine k_bipush C 9 (by decide) dX2_digest_7 ?_
  refine k_icmp_ge C 31 (by decide) dX2_digest_9 (fun h => absurd h (by decide)) (fun _ => ?_)
  refine k_lload_n C dX2_digest_12 1 rfl ?_
  refine k_ldc2 C q410 dX2_digest_13 ?_
  refine k_lmul C dX2_digest_16 ?_
  refine k_aload_n C dX2_digest_17 2 rfl ?_
  refine k_iload_n C dX2_digest_18 0 rfl ?_
  refine k_callV_i C (mX2_count_0 l D cI cJ a0 a1 a2 a3 a4 a5 a6 X) (cwV 1 C.2.2.2.2.1 (kGV q411 q261 q262 q35 q263) rfl rfl rfl ⟨rfl, hdX2_count⟩ ⟨Nat.le_of_ble_eq_true rfl, Nat.le_of_ble_eq_true rfl⟩) [0, 1, 2, 3, 4, 5, 6] [] [0, 1, 2, 3, 4, 5, 6] [] ([(a0, cF a1 a2 a3 a4 a5 a6 X.2.2.2.2.2.2), (a1, cS X.1), (a2, cS X.2.1), (a3, cB X.2.2.1), (a4, cB X.2.2.2.1), (a5, cB X.2.2.2.2.1), (a6, cB X.2.2.2.2.2.1)]) rfl rfl rfl rfl (by decide) [a0, a1, a2, a3, a4, a5, a6] rfl rfl rfl rfl 0 2 rfl rfl rfl (Nat.le_of_ble_eq_true rfl) ⟨Nat.zero_le _, Nat.zero_le _⟩ rfl dX2_digest_19 ?_
  generalize er1 : fX2_count_0 X = r1
  refine k_i2l C dX2_digest_22 ?_
  refine k_ladd C dX2_digest_23 ?_
  refine k_lstore_n C [(1, .long ((1801 * 31) + (r1).toInt64)), (3, .int 0), (0, .ref a0)] (by decide) rfl dX2_digest_24 ?_
  refine k_iinc C 1 [(3, .int 1), (1, .long ((1801 * 31) + (r1).toInt64)), (0, .ref a0)] 1 rfl (by decide) (by decide) rfl dX2_digest_25 ?_
  refine k_goto C 6 (by decide) dX2_digest_28 ?_
  refine k_iload_n C dX2_digest_6 0 rfl ?_
  refine k_bipush C 9 (by decide) dX2_digest_7 ?_
  refine k_icmp_ge C 31 (by decide) dX2_digest_9 (fun h => absurd h (by decide)) (fun _ => ?_)
  refine k_lload_n C dX2_digest_12 1 rfl ?_
  refine k_ldc2 C q410 dX2_digest_13 ?_
  refine k_lmul C dX2_digest_16 ?_
  refine k_aload_n C dX2_digest_17 2 rfl ?_
  refine k_iload_n C dX2_digest_18 0 rfl ?_
  refine k_callV_i C (mX2_count_1 l D cI cJ a0 a1 a2 a3 a4 a5 a6 X) (cwV 1 C.2.2.2.2.1 (kGV q411 q261 q262 q35 q263) rfl rfl rfl ⟨rfl, hdX2_count⟩ ⟨Nat.le_of_ble_eq_true rfl, Nat.le_of_ble_eq_true rfl⟩) [0, 1, 2, 3, 4, 5, 6] [] [0, 1, 2, 3, 4, 5, 6] [] ([(a0, cF a1 a2 a3 a4 a5 a6 X.2.2.2.2.2.2), (a1, cS X.1), (a2, cS X.2.1), (a3, cB X.2.2.1), (a4, cB X.2.2.2.1), (a5, cB X.2.2.2.2.1), (a6, cB X.2.2.2.2.2.1)]) rfl rfl rfl rfl (by decide) [a0, a1, a2, a3, a4, a5, a6] rfl rfl rfl rfl 0 2 rfl rfl rfl (Nat.le_of_ble_eq_true rfl) ⟨Nat.zero_le _, Nat.zero_le _⟩ rfl dX2_digest_19 ?_
  generalize er2 : fX2_count_1 X = r2
  refine k_i2l C dX2_digest_22 ?_
  refine k_ladd C dX2_digest_23 ?_
  refine k_lstore_n C [(1, .long ((((1801 * 31) + (r1).toInt64) * 31) + (r2).toInt64)), (3, .int 1), (0, .ref a0)] (by decide) rfl dX2_digest_24 ?_
  refine k_iinc C 2 [(3, .int 2), (1, .long ((((1801 * 31) + (r1).toInt64) * 31) + (r2).toInt64)), (0, .ref a0)] 1 rfl (by decide) (by decide) rfl dX2_digest_25 ?_
  refine k_goto C 6 (by decide) dX2_digest_28 ?_
  refine k_iload_n C dX2_digest_6 0 rfl ?_
  refine k_bipush C 9 (by decide) dX2_digest_7 ?_
  refine k_icmp_ge C 31 (by decide) dX2_digest_9 (fun h => absurd h (by decide)) (fun _ => ?_)
  refine k_lload_n C dX2_digest_12 1 rfl ?_
  refine k_ldc2 C q410 dX2_digest_13 ?_
  refine k_lmul C dX2_digest_16 ?_
  refine k_aload_n C dX2_digest_17 2 rfl ?_
  refine k_iload_n C dX2_digest_18 0 rfl ?_
  refine k_callV_i C (mX2_count_2 l D cI cJ a0 a1 a2 a3 a4 a5 a6 X) (cwV 1 C.2.2.2.2.1 (kGV q411 q261 q262 q35 q263) rfl rfl rfl ⟨rfl, hdX2_count⟩ ⟨Nat.le_of_ble_eq_true rfl, Nat.le_of_ble_eq_true rfl⟩) [0, 1, 2, 3, 4, 5, 6] [] [0, 1, 2, 3, 4, 5, 6] [] ([(a0, cF a1 a2 a3 a4 a5 a6 X.2.2.2.2.2.2), (a1, cS X.1), (a2, cS X.2.1), (a3, cB X.2.2.1), (a4, cB X.2.2.2.1), (a5, cB X.2.2.2.2.1), (a6, cB X.2.2.2.2.2.1)]) rfl rfl rfl rfl (by decide) [a0, a1, a2, a3, a4, a5, a6] rfl rfl rfl rfl 0 2 rfl rfl rfl (Nat.le_of_ble_eq_true rfl) ⟨Nat.zero_le _, Nat.zero_le _⟩ rfl dX2_digest_19 ?_
  generalize er3 : fX2_count_2 X = r3
  refine k_i2l C dX2_digest_22 ?_
  refine k_ladd C dX2_digest_23 ?_
  refine k_lstore_n C [(1, .long ((((((1801 * 31) + (r1).toInt64) * 31) + (r2).toInt64) * 31) + (r3).toInt64)), (3, .int 2), (0, .ref a0)] (by decide) rfl dX2_digest_24 ?_
  refine k_iinc C 3 [(3, .int 3), (1, .long ((((((1801 * 31) + (r1).toInt64) * 31) + (r2).toInt64) * 31) + (r3).toInt64)), (0, .ref a0)] 1 rfl (by decide) (by decide) rfl dX2_digest_25 ?_
  refine k_goto C 6 (by decide) dX2_digest_28 ?_
  refine k_iload_n C dX2_digest_6 0 rfl ?_
  refine k_bipush C 9 (by decide) dX2_digest_7 ?_
  refine k_icmp_ge C 31 (by decide) dX2_digest_9 (fun h => absurd h (by decide)) (fun _ => ?_)
  refine k_lload_n C dX2_digest_12 1 rfl ?_
  refine k_ldc2 C q410 dX2_digest_13 ?_
  refine k_lmul C dX2_digest_16 ?_
  refine k_aload_n C dX2_digest_17 2 rfl ?_
  refine k_iload_n C dX2_digest_18 0 rfl ?_
  refine k_callV_i C (mX2_count_3 l D cI cJ a0 a1 a2 a3 a4 a5 a6 X) (cwV 1 C.2.2.2.2.1 (kGV q411 q261 q262 q35 q263) rfl rfl rfl ⟨rfl, hdX2_count⟩ ⟨Nat.le_of_ble_eq_true rfl, Nat.le_of_ble_eq_true rfl⟩) [0, 1, 2, 3, 4, 5, 6] [] [0, 1, 2, 3, 4, 5, 6] [] ([(a0, cF a1 a2 a3 a4 a5 a6 X.2.2.2.2.2.2), (a1, cS X.1), (a2, cS X.2.1), (a3, cB X.2.2.1), (a4, cB X.2.2.2.1), (a5, cB X.2.2.2.2.1), (a6, cB X.2.2.2.2.2.1)]) rfl rfl rfl rfl (by decide) [a0, a1, a2, a3, a4, a5, a6] rfl rfl rfl rfl 0 2 rfl rfl rfl (Nat.le_of_ble_eq_true rfl) ⟨Nat.zero_le _, Nat.zero_le _⟩ rfl dX2_digest_19 ?_
  generalize er4 : fX2_count_3 X = r4
  refine k_i2l C dX2_digest_22 ?_
  refine k_ladd C dX2_digest_23 ?_
  refine k_lstore_n C [(1, .long ((((((((1801 * 31) + (r1).toInt64) * 31) + (r2).toInt64) * 31) + (r3).toInt64) * 31) + (r4).toInt64)), (3, .int 3), (0, .ref a0)] (by decide) rfl dX2_digest_24 ?_
  refine k_iinc C 4 [(3, .int 4), (1, .long ((((((((1801 * 31) + (r1).toInt64) * 31) + (r2).toInt64) * 31) + (r3).toInt64) * 31) + (r4).toInt64)), (0, .ref a0)] 1 rfl (by decide) (by decide) rfl dX2_digest_25 ?_
  refine k_goto C 6 (by decide) dX2_digest_28 ?_
  refine k_iload_n C dX2_digest_6 0 rfl ?_
  refine k_bipush C 9 (by decide) dX2_digest_7 ?_
  refine k_icmp_ge C 31 (by decide) dX2_digest_9 (fun h => absurd h (by decide)) (fun _ => ?_)
  refine k_lload_n C dX2_digest_12 1 rfl ?_
  refine k_ldc2 C q410 dX2_digest_13 ?_
  refine k_lmul C dX2_digest_16 ?_
  refine k_aload_n C dX2_digest_17 2 rfl ?_
  refine k_iload_n C dX2_digest_18 0 rfl ?_
  refine k_callV_i C (mX2_count_4 l D cI cJ a0 a1 a2 a3 a4 a5 a6 X) (cwV 1 C.2.2.2.2.1 (kGV q411 q261 q262 q35 q263) rfl rfl rfl ⟨rfl, hdX2_count⟩ ⟨Nat.le_of_ble_eq_true rfl, Nat.le_of_ble_eq_true rfl⟩) [0, 1, 2, 3, 4, 5, 6] [] [0, 1, 2, 3, 4, 5, 6] [] ([(a0, cF a1 a2 a3 a4 a5 a6 X.2.2.2.2.2.2), (a1, cS X.1), (a2, cS X.2.1), (a3, cB X.2.2.1), (a4, cB X.2.2.2.1), (a5, cB X.2.2.2.2.1), (a6, cB X.2.2.2.2.2.1)]) rfl rfl rfl rfl (by decide) [a0, a1, a2, a3, a4, a5, a6] rfl rfl rfl rfl 0 2 rfl rfl rfl (Nat.le_of_ble_eq_true rfl) ⟨Nat.zero_le _, Nat.zero_le _⟩ rfl dX2_digest_19 ?_
  generalize er5 : fX2_count_4 X = r5
  refine k_i2l C dX2_digest_22 ?_
  refine k_ladd C dX2_digest_23 ?_
  refine k_lstore_n C [(1, .long ((((((((((1801 * 31) + (r1).toInt64) * 31) + (r2).toInt64) * 31) + (r3).toInt64) * 31) + (r4).toInt64) * 31) + (r5).toInt64)), (3, .int 4), (0, .ref a0)] (by decide) rfl dX2_digest_24 ?_
  refine k_iinc C 5 [(3, .int 5), (1, .long ((((((((((1801 * 31) + (r1).toInt64) * 31) + (r2).toInt64) * 31) + (r3).toInt64) * 31) + (r4).toInt64) * 31) + (r5).toInt64)), (0, .ref a0)] 1 rfl (by decide) (by decide) rfl dX2_digest_25 ?_
  refine k_goto C 6 (by decide) dX2_digest_28 ?_
  refine k_iload_n C dX2_digest_6 0 rfl ?_
  refine k_bipush C 9 (by decide) dX2_digest_7 ?_
  refine k_icmp_ge C 31 (by decide) dX2_digest_9 (fun h => absurd h (by decide)) (fun _ => ?_)
  refine k_lload_n C dX2_digest_12 1 rfl ?_
  refine k_ldc2 C q410 dX2_digest_13 ?_
  refine k_lmul C dX2_digest_16 ?_
  refine k_aload_n C dX2_digest_17 2 rfl ?_
  refine k_iload_n C dX2_digest_18 0 rfl ?_
  refine k_callV_i C (mX2_count_5 l D cI cJ a0 a1 a2 a3 a4 a5 a6 X) (cwV 1 C.2.2.2.2.1 (kGV q411 q261 q262 q35 q263) rfl rfl rfl ⟨rfl, hdX2_count⟩ ⟨Nat.le_of_ble_eq_true rfl, Nat.le_of_ble_eq_true rfl⟩) [0, 1, 2, 3, 4, 5, 6] [] [0, 1, 2, 3, 4, 5, 6] [] ([(a0, cF a1 a2 a3 a4 a5 a6 X.2.2.2.2.2.2), (a1, cS X.1), (a2, cS X.2.1), (a3, cB X.2.2.1), (a4, cB X.2.2.2.1), (a5, cB X.2.2.2.2.1), (a6, cB X.2.2.2.2.2.1)]) rfl rfl rfl rfl (by decide) [a0, a1, a2, a3, a4, a5, a6] rfl rfl rfl rfl 0 2 rfl rfl rfl (Nat.le_of_ble_eq_true rfl) ⟨Nat.zero_le _, Nat.zero_le _⟩ rfl dX2_digest_19 ?_
  generalize er6 : fX2_count_5 X = r6
  refine k_i2l C dX2_digest_22 ?_
  refine k_ladd C dX2_digest_23 ?_
  refine k_lstore_n C [(1, .long ((((((((((((1801 * 31) + (r1).toInt64) * 31) + (r2).toInt64) * 31) + (r3).toInt64) * 31) + (r4).toInt64) * 31) + (r5).toInt64) * 31) + (r6).toInt64)), (3, .int 5), (0, .ref a0)] (by decide) rfl dX2_digest_24 ?_
  refine k_iinc C 6 [(3, .int 6), (1, .long ((((((((((((1801 * 31) + (r1).toInt64) * 31) + (r2).toInt64) * 31) + (r3).toInt64) * 31) + (r4).toInt64) * 31) + (r5).toInt64) * 31) + (r6).toInt64)), (0, .ref a0)] 1 rfl (by decide) (by decide) rfl dX2_digest_25 ?_
  refine k_goto C 6 (by decide) dX2_digest_28 ?_
  refine k_iload_n C dX2_digest_6 0 rfl ?_
  refine k_bipush C 9 (by decide) dX2_digest_7 ?_
  refine k_icmp_ge C 31 (by decide) dX2_digest_9 (fun h => absurd h (by decide)) (fun _ => ?_)
  refine k_lload_n C dX2_digest_12 1 rfl ?_
  refine k_ldc2 C q410 dX2_digest_13 ?_
  refine k_lmul C dX2_digest_16 ?_
  refine k_aload_n C dX2_digest_17 2 rfl ?_
  refine k_iload_n C dX2_digest_18 0 rfl ?_
  refine k_callV_i C (mX2_count_6 l D cI cJ a0 a1 a2 a3 a4 a5 a6 X) (cwV 1 C.2.2.2.2.1 (kGV q411 q261 q262 q35 q263) rfl rfl rfl ⟨rfl, hdX2_count⟩ ⟨Nat.le_of_ble_eq_true rfl, Nat.le_of_ble_eq_true rfl⟩) [0, 1, 2, 3, 4, 5, 6] [] [0, 1, 2, 3, 4, 5, 6] [] ([(a0, cF a1 a2 a3 a4 a5 a6 X.2.2.2.2.2.2), (a1, cS X.1), (a2, cS X.2.1), (a3, cB X.2.2.1), (a4, cB X.2.2.2.1), (a5, cB X.2.2.2.2.1), (a6, cB X.2.2.2.2.2.1)]) rfl rfl rfl rfl (by decide) [a0, a1, a2, a3, a4, a5, a6] rfl rfl rfl rfl 0 2 rfl rfl rfl (Nat.le_of_ble_eq_true rfl) ⟨Nat.zero_le _, Nat.zero_le _⟩ rfl dX2_digest_19 ?_
  generalize er7 : fX2_count_6 X = r7
  refine k_i2l C dX2_digest_22 ?_
  refine k_ladd C dX2_digest_23 ?_
  refine k_lstore_n C [(1, .long ((((((((((((((1801 * 31) + (r1).toInt64) * 31) + (r2).toInt64) * 31) + (r3).toInt64) * 31) + (r4).toInt64) * 31) + (r5).toInt64) * 31) + (r6).toInt64) * 31) + (r7).toInt64)), (3, .int 6), (0, .ref a0)] (by decide) rfl dX2_digest_24 ?_
  refine k_iinc C 7 [(3, .int 7), (1, .long ((((((((((((((1801 * 31) + (r1).toInt64) * 31) + (r2).toInt64) * 31) + (r3).toInt64) * 31) + (r4).toInt64) * 31) + (r5).toInt64) * 31) + (r6).toInt64) * 31) + (r7).toInt64)), (0, .ref a0)] 1 rfl (by decide) (by decide) rfl dX2_digest_25 ?_
  refine k_goto C 6 (by decide) dX2_digest_28 ?_
  refine k_iload_n C dX2_digest_6 0 rfl ?_
  refine k_bipush C 9 (by decide) dX2_digest_7 ?_
  refine k_icmp_ge C 31 (by decide) dX2_digest_9 (fun h => absurd h (by decide)) (fun _ => ?_)
  refine k_lload_n C dX2_digest_12 1 rfl ?_
  refine k_ldc2 C q410 dX2_digest_13 ?_
  refine k_lmul C dX2_digest_16 ?_
  refine k_aload_n C dX2_digest_17 2 rfl ?_
  refine k_iload_n C dX2_digest_18 0 rfl ?_
  refine k_callV_i C (mX2_count_7 l D cI cJ a0 a1 a2 a3 a4 a5 a6 X) (cwV 1 C.2.2.2.2.1 (kGV q411 q261 q262 q35 q263) rfl rfl rfl ⟨rfl, hdX2_count⟩ ⟨Nat.le_of_ble_eq_true rfl, Nat.le_of_ble_eq_true rfl⟩) [0, 1, 2, 3, 4, 5, 6] [] [0, 1, 2, 3, 4, 5, 6] [] ([(a0, cF a1 a2 a3 a4 a5 a6 X.2.2.2.2.2.2), (a1, cS X.1), (a2, cS X.2.1), (a3, cB X.2.2.1), (a4, cB X.2.2.2.1), (a5, cB X.2.2.2.2.1), (a6, cB X.2.2.2.2.2.1)]) rfl rfl rfl rfl (by decide) [a0, a1, a2, a3, a4, a5, a6] rfl rfl rfl rfl 0 2 rfl rfl rfl (Nat.le_of_ble_eq_true rfl) ⟨Nat.zero_le _, Nat.zero_le _⟩ rfl dX2_digest_19 ?_
  generalize er8 : fX2_count_7 X = r8
  refine k_i2l C dX2_digest_22 ?_
  refine k_ladd C dX2_digest_23 ?_
  refine k_lstore_n C [(1, .long ((((((((((((((((1801 * 31) + (r1).toInt64) * 31) + (r2).toInt64) * 31) + (r3).toInt64) * 31) + (r4).toInt64) * 31) + (r5).toInt64) * 31) + (r6).toInt64) * 31) + (r7).toInt64) * 31) + (r8).toInt64)), (3, .int 7), (0, .ref a0)] (by decide) rfl dX2_digest_24 ?_
  refine k_iinc C 8 [(3, .int 8), (1, .long ((((((((((((((((1801 * 31) + (r1).toInt64) * 31) + (r2).toInt64) * 31) + (r3).toInt64) * 31) + (r4).toInt64) * 31) + (r5).toInt64) * 31) + (r6).toInt64) * 31) + (r7).toInt64) * 31) + (r8).toInt64)), (0, .ref a0)] 1 rfl (by decide) (by decide) rfl dX2_digest_25 ?_
  refine k_goto C 6 (by decide) dX2_digest_28 ?_
  refine k_iload_n C dX2_digest_6 0 rfl ?_
  refine k_bipush C 9 (by decide) dX2_digest_7 ?_
  refine k_icmp_ge C 31 (by decide) dX2_digest_9 (fun h => absurd h (by decide)) (fun _ => ?_)
  refine k_lload_n C dX2_digest_12 1 rfl ?_
  refine k_ldc2 C q410 dX2_digest_13 ?_
  refine k_lmul C dX2_digest_16 ?_
  refine k_aload_n C dX2_digest_17 2 rfl ?_
  refine k_iload_n C dX2_digest_18 0 rfl ?_
  refine k_callV_i C (mX2_count_8 l D cI cJ a0 a1 a2 a3 a4 a5 a6 X) (cwV 1 C.2.2.2.2.1 (kGV q411 q261 q262 q35 q263) rfl rfl rfl ⟨rfl, hdX2_count⟩ ⟨Nat.le_of_ble_eq_true rfl, Nat.le_of_ble_eq_true rfl⟩) [0, 1, 2, 3, 4, 5, 6] [] [0, 1, 2, 3, 4, 5, 6] [] ([(a0, cF a1 a2 a3 a4 a5 a6 X.2.2.2.2.2.2), (a1, cS X.1), (a2, cS X.2.1), (a3, cB X.2.2.1), (a4, cB X.2.2.2.1), (a5, cB X.2.2.2.2.1), (a6, cB X.2.2.2.2.2.1)]) rfl rfl rfl rfl (by decide) [a0, a1, a2, a3, a4, a5, a6] rfl rfl rfl rfl 0 2 rfl rfl rfl (Nat.le_of_ble_eq_true rfl) ⟨Nat.zero_le _, Nat.zero_le _⟩ rfl dX2_digest_19 ?_
  generalize er9 : fX2_count_8 X = r9
  refine k_i2l C dX2_digest_22 ?_
  refine k_ladd C dX2_digest_23 ?_
  refine k_lstore_n C [(1, .long ((((((((((((((((((1801 * 31) + (r1).toInt64) * 31) + (r2).toInt64) * 31) + (r3).toInt64) * 31) + (r4).toInt64) * 31) + (r5).toInt64) * 31) + (r6).toInt64) * 31) + (r7).toInt64) * 31) + (r8).toInt64) * 31) + (r9).toInt64)), (3, .int 8), (0, .ref a0)] (by decide) rfl dX2_digest_24 ?_
  refine k_iinc C 9 [(3, .int 9), (1, .long ((((((((((((((((((1801 * 31) + (r1).toInt64) * 31) + (r2).toInt64) * 31) + (r3).toInt64) * 31) + (r4).toInt64) * 31) + (r5).toInt64) * 31) + (r6).toInt64) * 31) + (r7).toInt64) * 31) + (r8).toInt64) * 31) + (r9).toInt64)), (0, .ref a0)] 1 rfl (by decide) (by decide) rfl dX2_digest_25 ?_
  refine k_goto C 6 (by decide) dX2_digest_28 ?_
  refine k_iload_n C dX2_digest_6 0 rfl ?_
  refine k_bipush C 9 (by decide) dX2_digest_7 ?_
  refine k_icmp_ge C 31 (by decide) dX2_digest_9 (fun _ => ?_) (fun h => absurd (by decide) h)
  refine k_iconst C 0 (by decide) dX2_digest_31 ?_
  refine k_istore_n C [(3, .int 0), (1, .long ((((((((((((((((((1801 * 31) + (r1).toInt64) * 31) + (r2).toInt64) * 31) + (r3).toInt64) * 31) + (r4).toInt64) * 31) + (r5).toInt64) * 31) + (r6).toInt64) * 31) + (r7).toInt64) * 31) + (r8).toInt64) * 31) + (r9).toInt64)), (0, .ref a0)] (by decide) rfl dX2_digest_32 ?_
  refine k_iload_n C dX2_digest_33 0 rfl ?_
  refine k_iconst C 2 (by decide) dX2_digest_34 ?_
  refine k_icmp_ge C 74 (by decide) dX2_digest_35 (fun h => absurd h (by decide)) (fun _ => ?_)
  refine k_iconst C 0 (by decide) dX2_digest_38 ?_
  refine k_istore C [(4, .int 0), (3, .int 0), (1, .long ((((((((((((((((((1801 * 31) + (r1).toInt64) * 31) + (r2).toInt64) * 31) + (r3).toInt64) * 31) + (r4).toInt64) * 31) + (r5).toInt64) * 31) + (r6).toInt64) * 31) + (r7).toInt64) * 31) + (r8).toInt64) * 31) + (r9).toInt64)), (0, .ref a0)] (by decide) rfl dX2_digest_39 ?_
  refine k_iload C dX2_digest_41 0 rfl ?_
  refine k_iconst C 4 (by decide) dX2_digest_43 ?_
  refine k_icmp_ge C 68 (by decide) dX2_digest_44 (fun h => absurd h (by decide)) (fun _ => ?_)
  refine k_lload_n C dX2_digest_47 2 rfl ?_
  refine k_ldc2 C q410 dX2_digest_48 ?_
  refine k_lmul C dX2_digest_51 ?_
  refine k_aload_n C dX2_digest_52 3 rfl ?_
  refine k_iload_n C dX2_digest_53 1 rfl ?_
  refine k_iload C dX2_digest_54 0 rfl ?_
  refine k_callV_i C (mX2_told_00 l D cI cJ a0 a1 a2 a3 a4 a5 a6 X) (cwV 2 C.2.2.2.2.1 (kGV q412 q245 q246 q35 q247) rfl rfl rfl ⟨rfl, hdX2_told⟩ ⟨Nat.le_of_ble_eq_true rfl, Nat.le_of_ble_eq_true rfl⟩) [0, 1, 2, 3, 4, 5, 6] [] [0, 1, 2, 3, 4, 5, 6] [] ([(a0, cF a1 a2 a3 a4 a5 a6 X.2.2.2.2.2.2), (a1, cS X.1), (a2, cS X.2.1), (a3, cB X.2.2.1), (a4, cB X.2.2.2.1), (a5, cB X.2.2.2.2.1), (a6, cB X.2.2.2.2.2.1)]) rfl rfl rfl rfl (by decide) [a0, a1, a2, a3, a4, a5, a6] rfl rfl rfl rfl 0 2 rfl rfl rfl (Nat.le_of_ble_eq_true rfl) ⟨Nat.zero_le _, Nat.zero_le _⟩ rfl dX2_digest_56 ?_
  generalize er10 : fX2_told_00 X = r10
  refine k_i2l C dX2_digest_59 ?_
  refine k_ladd C dX2_digest_60 ?_
  refine k_lstore_n C [(1, .long ((((((((((((((((((((1801 * 31) + (r1).toInt64) * 31) + (r2).toInt64) * 31) + (r3).toInt64) * 31) + (r4).toInt64) * 31) + (r5).toInt64) * 31) + (r6).toInt64) * 31) + (r7).toInt64) * 31) + (r8).toInt64) * 31) + (r9).toInt64) * 31) + (r10).toInt64)), (4, .int 0), (3, .int 0), (0, .ref a0)] (by decide) rfl dX2_digest_61 ?_
  refine k_iinc C 1 [(4, .int 1), (1, .long ((((((((((((((((((((1801 * 31) + (r1).toInt64) * 31) + (r2).toInt64) * 31) + (r3).toInt64) * 31) + (r4).toInt64) * 31) + (r5).toInt64) * 31) + (r6).toInt64) * 31) + (r7).toInt64) * 31) + (r8).toInt64) * 31) + (r9).toInt64) * 31) + (r10).toInt64)), (3, .int 0), (0, .ref a0)] 1 rfl (by decide) (by decide) rfl dX2_digest_62 ?_
  refine k_goto C 41 (by decide) dX2_digest_65 ?_
  refine k_iload C dX2_digest_41 0 rfl ?_
  refine k_iconst C 4 (by decide) dX2_digest_43 ?_
  refine k_icmp_ge C 68 (by decide) dX2_digest_44 (fun h => absurd h (by decide)) (fun _ => ?_)
  refine k_lload_n C dX2_digest_47 1 rfl ?_
  refine k_ldc2 C q410 dX2_digest_48 ?_
  refine k_lmul C dX2_digest_51 ?_
  refine k_aload_n C dX2_digest_52 3 rfl ?_
  refine k_iload_n C dX2_digest_53 2 rfl ?_
  refine k_iload C dX2_digest_54 0 rfl ?_
  refine k_callV_i C (mX2_told_01 l D cI cJ a0 a1 a2 a3 a4 a5 a6 X) (cwV 2 C.2.2.2.2.1 (kGV q412 q245 q246 q35 q247) rfl rfl rfl ⟨rfl, hdX2_told⟩ ⟨Nat.le_of_ble_eq_true rfl, Nat.le_of_ble_eq_true rfl⟩) [0, 1, 2, 3, 4, 5, 6] [] [0, 1, 2, 3, 4, 5, 6] [] ([(a0, cF a1 a2 a3 a4 a5 a6 X.2.2.2.2.2.2), (a1, cS X.1), (a2, cS X.2.1), (a3, cB X.2.2.1), (a4, cB X.2.2.2.1), (a5, cB X.2.2.2.2.1), (a6, cB X.2.2.2.2.2.1)]) rfl rfl rfl rfl (by decide) [a0, a1, a2, a3, a4, a5, a6] rfl rfl rfl rfl 0 2 rfl rfl rfl (Nat.le_of_ble_eq_true rfl) ⟨Nat.zero_le _, Nat.zero_le _⟩ rfl dX2_digest_56 ?_
  generalize er11 : fX2_told_01 X = r11
  refine k_i2l C dX2_digest_59 ?_
  refine k_ladd C dX2_digest_60 ?_
  refine k_lstore_n C [(1, .long ((((((((((((((((((((((1801 * 31) + (r1).toInt64) * 31) + (r2).toInt64) * 31) + (r3).toInt64) * 31) + (r4).toInt64) * 31) + (r5).toInt64) * 31) + (r6).toInt64) * 31) + (r7).toInt64) * 31) + (r8).toInt64) * 31) + (r9).toInt64) * 31) + (r10).toInt64) * 31) + (r11).toInt64)), (4, .int 1), (3, .int 0), (0, .ref a0)] (by decide) rfl dX2_digest_61 ?_
  refine k_iinc C 2 [(4, .int 2), (1, .long ((((((((((((((((((((((1801 * 31) + (r1).toInt64) * 31) + (r2).toInt64) * 31) + (r3).toInt64) * 31) + (r4).toInt64) * 31) + (r5).toInt64) * 31) + (r6).toInt64) * 31) + (r7).toInt64) * 31) + (r8).toInt64) * 31) + (r9).toInt64) * 31) + (r10).toInt64) * 31) + (r11).toInt64)), (3, .int 0), (0, .ref a0)] 1 rfl (by decide) (by decide) rfl dX2_digest_62 ?_
  refine k_goto C 41 (by decide) dX2_digest_65 ?_
  refine k_iload C dX2_digest_41 0 rfl ?_
  refine k_iconst C 4 (by decide) dX2_digest_43 ?_
  refine k_icmp_ge C 68 (by decide) dX2_digest_44 (fun h => absurd h (by decide)) (fun _ => ?_)
  refine k_lload_n C dX2_digest_47 1 rfl ?_
  refine k_ldc2 C q410 dX2_digest_48 ?_
  refine k_lmul C dX2_digest_51 ?_
  refine k_aload_n C dX2_digest_52 3 rfl ?_
  refine k_iload_n C dX2_digest_53 2 rfl ?_
  refine k_iload C dX2_digest_54 0 rfl ?_
  refine k_callV_i C (mX2_told_02 l D cI cJ a0 a1 a2 a3 a4 a5 a6 X) (cwV 2 C.2.2.2.2.1 (kGV q412 q245 q246 q35 q247) rfl rfl rfl ⟨rfl, hdX2_told⟩ ⟨Nat.le_of_ble_eq_true rfl, Nat.le_of_ble_eq_true rfl⟩) [0, 1, 2, 3, 4, 5, 6] [] [0, 1, 2, 3, 4, 5, 6] [] ([(a0, cF a1 a2 a3 a4 a5 a6 X.2.2.2.2.2.2), (a1, cS X.1), (a2, cS X.2.1), (a3, cB X.2.2.1), (a4, cB X.2.2.2.1), (a5, cB X.2.2.2.2.1), (a6, cB X.2.2.2.2.2.1)]) rfl rfl rfl rfl (by decide) [a0, a1, a2, a3, a4, a5, a6] rfl rfl rfl rfl 0 2 rfl rfl rfl (Nat.le_of_ble_eq_true rfl) ⟨Nat.zero_le _, Nat.zero_le _⟩ rfl dX2_digest_56 ?_
  generalize er12 : fX2_told_02 X = r12
  refine k_i2l C dX2_digest_59 ?_
  refine k_ladd C dX2_digest_60 ?_
  refine k_lstore_n C [(1, .long ((((((((((((((((((((((((1801 * 31) + (r1).toInt64) * 31) + (r2).toInt64) * 31) + (r3).toInt64) * 31) + (r4).toInt64) * 31) + (r5).toInt64) * 31) + (r6).toInt64) * 31) + (r7).toInt64) * 31) + (r8).toInt64) * 31) + (r9).toInt64) * 31) + (r10).toInt64) * 31) + (r11).toInt64) * 31) + (r12).toInt64)), (4, .int 2), (3, .int 0), (0, .ref a0)] (by decide) rfl dX2_digest_61 ?_
  refine k_iinc C 3 [(4, .int 3), (1, .long ((((((((((((((((((((((((1801 * 31) + (r1).toInt64) * 31) + (r2).toInt64) * 31) + (r3).toInt64) * 31) + (r4).toInt64) * 31) + (r5).toInt64) * 31) + (r6).toInt64) * 31) + (r7).toInt64) * 31) + (r8).toInt64) * 31) + (r9).toInt64) * 31) + (r10).toInt64) * 31) + (r11).toInt64) * 31) + (r12).toInt64)), (3, .int 0), (0, .ref a0)] 1 rfl (by decide) (by decide) rfl dX2_digest_62 ?_
  refine k_goto C 41 (by decide) dX2_digest_65 ?_
  refine k_iload C dX2_digest_41 0 rfl ?_
  refine k_iconst C 4 (by decide) dX2_digest_43 ?_
  refine k_icmp_ge C 68 (by decide) dX2_digest_44 (fun h => absurd h (by decide)) (fun _ => ?_)
  refine k_lload_n C dX2_digest_47 1 rfl ?_
  refine k_ldc2 C q410 dX2_digest_48 ?_
  refine k_lmul C dX2_digest_51 ?_
  refine k_aload_n C dX2_digest_52 3 rfl ?_
  refine k_iload_n C dX2_digest_53 2 rfl ?_
  refine k_iload C dX2_digest_54 0 rfl ?_
  refine k_callV_i C (mX2_told_03 l D cI cJ a0 a1 a2 a3 a4 a5 a6 X) (cwV 2 C.2.2.2.2.1 (kGV q412 q245 q246 q35 q247) rfl rfl rfl ⟨rfl, hdX2_told⟩ ⟨Nat.le_of_ble_eq_true rfl, Nat.le_of_ble_eq_true rfl⟩) [0, 1, 2, 3, 4, 5, 6] [] [0, 1, 2, 3, 4, 5, 6] [] ([(a0, cF a1 a2 a3 a4 a5 a6 X.2.2.2.2.2.2), (a1, cS X.1), (a2, cS X.2.1), (a3, cB X.2.2.1), (a4, cB X.2.2.2.1), (a5, cB X.2.2.2.2.1), (a6, cB X.2.2.2.2.2.1)]) rfl rfl rfl rfl (by decide) [a0, a1, a2, a3, a4, a5, a6] rfl rfl rfl rfl 0 2 rfl rfl rfl (Nat.le_of_ble_eq_true rfl) ⟨Nat.zero_le _, Nat.zero_le _⟩ rfl dX2_digest_56 ?_
  generalize er13 : fX2_told_03 X = r13
  refine k_i2l C dX2_digest_59 ?_
  refine k_ladd C dX2_digest_60 ?_
  refine k_lstore_n C [(1, .long ((((((((((((((((((((((((((1801 * 31) + (r1).toInt64) * 31) + (r2).toInt64) * 31) + (r3).toInt64) * 31) + (r4).toInt64) * 31) + (r5).toInt64) * 31) + (r6).toInt64) * 31) + (r7).toInt64) * 31) + (r8).toInt64) * 31) + (r9).toInt64) * 31) + (r10).toInt64) * 31) + (r11).toInt64) * 31) + (r12).toInt64) * 31) + (r13).toInt64)), (4, .int 3), (3, .int 0), (0, .ref a0)] (by decide) rfl dX2_digest_61 ?_
  refine k_iinc C 4 [(4, .int 4), (1, .long ((((((((((((((((((((((((((1801 * 31) + (r1).toInt64) * 31) + (r2).toInt64) * 31) + (r3).toInt64) * 31) + (r4).toInt64) * 31) + (r5).toInt64) * 31) + (r6).toInt64) * 31) + (r7).toInt64) * 31) + (r8).toInt64) * 31) + (r9).toInt64) * 31) + (r10).toInt64) * 31) + (r11).toInt64) * 31) + (r12).toInt64) * 31) + (r13).toInt64)), (3, .int 0), (0, .ref a0)] 1 rfl (by decide) (by decide) rfl dX2_digest_62 ?_
  refine k_goto C 41 (by decide) dX2_digest_65 ?_
  refine k_iload C dX2_digest_41 0 rfl ?_
  refine k_iconst C 4 (by decide) dX2_digest_43 ?_
  refine k_icmp_ge C 68 (by decide) dX2_digest_44 (fun _ => ?_) (fun h => absurd (by decide) h)
  refine k_iinc C 1 [(3, .int 1), (4, .int 4), (1, .long ((((((((((((((((((((((((((1801 * 31) + (r1).toInt64) * 31) + (r2).toInt64) * 31) + (r3).toInt64) * 31) + (r4).toInt64) * 31) + (r5).toInt64) * 31) + (r6).toInt64) * 31) + (r7).toInt64) * 31) + (r8).toInt64) * 31) + (r9).toInt64) * 31) + (r10).toInt64) * 31) + (r11).toInt64) * 31) + (r12).toInt64) * 31) + (r13).toInt64)), (0, .ref a0)] 2 rfl (by decide) (by decide) rfl dX2_digest_68 ?_
  refine k_goto C 33 (by decide) dX2_digest_71 ?_
  refine k_iload_n C dX2_digest_33 0 rfl ?_
  refine k_iconst C 2 (by decide) dX2_digest_34 ?_
  refine k_icmp_ge C 74 (by decide) dX2_digest_35 (fun h => absurd h (by decide)) (fun _ => ?_)
  refine k_iconst C 0 (by decide) dX2_digest_38 ?_
  refine k_istore C [(4, .int 0), (3, .int 1), (1, .long ((((((((((((((((((((((((((1801 * 31) + (r1).toInt64) * 31) + (r2).toInt64) * 31) + (r3).toInt64) * 31) + (r4).toInt64) * 31) + (r5).toInt64) * 31) + (r6).toInt64) * 31) + (r7).toInt64) * 31) + (r8).toInt64) * 31) + (r9).toInt64) * 31) + (r10).toInt64) * 31) + (r11).toInt64) * 31) + (r12).toInt64) * 31) + (r13).toInt64)), (0, .ref a0)] (by decide) rfl dX2_digest_39 ?_
  refine k_iload C dX2_digest_41 0 rfl ?_
  refine k_iconst C 4 (by decide) dX2_digest_43 ?_
  refine k_icmp_ge C 68 (by decide) dX2_digest_44 (fun h => absurd h (by decide)) (fun _ => ?_)
  refine k_lload_n C dX2_digest_47 2 rfl ?_
  refine k_ldc2 C q410 dX2_digest_48 ?_
  refine k_lmul C dX2_digest_51 ?_
  refine k_aload_n C dX2_digest_52 3 rfl ?_
  refine k_iload_n C dX2_digest_53 1 rfl ?_
  refine k_iload C dX2_digest_54 0 rfl ?_
  refine k_callV_i C (mX2_told_10 l D cI cJ a0 a1 a2 a3 a4 a5 a6 X) (cwV 2 C.2.2.2.2.1 (kGV q412 q245 q246 q35 q247) rfl rfl rfl ⟨rfl, hdX2_told⟩ ⟨Nat.le_of_ble_eq_true rfl, Nat.le_of_ble_eq_true rfl⟩) [0, 1, 2, 3, 4, 5, 6] [] [0, 1, 2, 3, 4, 5, 6] [] ([(a0, cF a1 a2 a3 a4 a5 a6 X.2.2.2.2.2.2), (a1, cS X.1), (a2, cS X.2.1), (a3, cB X.2.2.1), (a4, cB X.2.2.2.1), (a5, cB X.2.2.2.2.1), (a6, cB X.2.2.2.2.2.1)]) rfl rfl rfl rfl (by decide) [a0, a1, a2, a3, a4, a5, a6] rfl rfl rfl rfl 0 2 rfl rfl rfl (Nat.le_of_ble_eq_true rfl) ⟨Nat.zero_le _, Nat.zero_le _⟩ rfl dX2_digest_56 ?_
  generalize er14 : fX2_told_10 X = r14
  refine k_i2l C dX2_digest_59 ?_
  refine k_ladd C dX2_digest_60 ?_
  refine k_lstore_n C [(1, .long ((((((((((((((((((((((((((((1801 * 31) + (r1).toInt64) * 31) + (r2).toInt64) * 31) + (r3).toInt64) * 31) + (r4).toInt64) * 31) + (r5).toInt64) * 31) + (r6).toInt64) * 31) + (r7).toInt64) * 31) + (r8).toInt64) * 31) + (r9).toInt64) * 31) + (r10).toInt64) * 31) + (r11).toInt64) * 31) + (r12).toInt64) * 31) + (r13).toInt64) * 31) + (r14).toInt64)), (4, .int 0), (3, .int 1), (0, .ref a0)] (by decide) rfl dX2_digest_61 ?_
  refine k_iinc C 1 [(4, .int 1), (1, .long ((((((((((((((((((((((((((((1801 * 31) + (r1).toInt64) * 31) + (r2).toInt64) * 31) + (r3).toInt64) * 31) + (r4).toInt64) * 31) + (r5).toInt64) * 31) + (r6).toInt64) * 31) + (r7).toInt64) * 31) + (r8).toInt64) * 31) + (r9).toInt64) * 31) + (r10).toInt64) * 31) + (r11).toInt64) * 31) + (r12).toInt64) * 31) + (r13).toInt64) * 31) + (r14).toInt64)), (3, .int 1), (0, .ref a0)] 1 rfl (by decide) (by decide) rfl dX2_digest_62 ?_
  refine k_goto C 41 (by decide) dX2_digest_65 ?_
  refine k_iload C dX2_digest_41 0 rfl ?_
  refine k_iconst C 4 (by decide) dX2_digest_43 ?_
  refine k_icmp_ge C 68 (by decide) dX2_digest_44 (fun h => absurd h (by decide)) (fun _ => ?_)
  refine k_lload_n C dX2_digest_47 1 rfl ?_
  refine k_ldc2 C q410 dX2_digest_48 ?_
  refine k_lmul C dX2_digest_51 ?_
  refine k_aload_n C dX2_digest_52 3 rfl ?_
  refine k_iload_n C dX2_digest_53 2 rfl ?_
  refine k_iload C dX2_digest_54 0 rfl ?_
  refine k_callV_i C (mX2_told_11 l D cI cJ a0 a1 a2 a3 a4 a5 a6 X) (cwV 2 C.2.2.2.2.1 (kGV q412 q245 q246 q35 q247) rfl rfl rfl ⟨rfl, hdX2_told⟩ ⟨Nat.le_of_ble_eq_true rfl, Nat.le_of_ble_eq_true rfl⟩) [0, 1, 2, 3, 4, 5, 6] [] [0, 1, 2, 3, 4, 5, 6] [] ([(a0, cF a1 a2 a3 a4 a5 a6 X.2.2.2.2.2.2), (a1, cS X.1), (a2, cS X.2.1), (a3, cB X.2.2.1), (a4, cB X.2.2.2.1), (a5, cB X.2.2.2.2.1), (a6, cB X.2.2.2.2.2.1)]) rfl rfl rfl rfl (by decide) [a0, a1, a2, a3, a4, a5, a6] rfl rfl rfl rfl 0 2 rfl rfl rfl (Nat.le_of_ble_eq_true rfl) ⟨Nat.zero_le _, Nat.zero_le _⟩ rfl dX2_digest_56 ?_
  generalize er15 : fX2_told_11 X = r15
  refine k_i2l C dX2_digest_59 ?_
  refine k_ladd C dX2_digest_60 ?_
  refine k_lstore_n C [(1, .long ((((((((((((((((((((((((((((((1801 * 31) + (r1).toInt64) * 31) + (r2).toInt64) * 31) + (r3).toInt64) * 31) + (r4).toInt64) * 31) + (r5).toInt64) * 31) + (r6).toInt64) * 31) + (r7).toInt64) * 31) + (r8).toInt64) * 31) + (r9).toInt64) * 31) + (r10).toInt64) * 31) + (r11).toInt64) * 31) + (r12).toInt64) * 31) + (r13).toInt64) * 31) + (r14).toInt64) * 31) + (r15).toInt64)), (4, .int 1), (3, .int 1), (0, .ref a0)] (by decide) rfl dX2_digest_61 ?_
  refine k_iinc C 2 [(4, .int 2), (1, .long ((((((((((((((((((((((((((((((1801 * 31) + (r1).toInt64) * 31) + (r2).toInt64) * 31) + (r3).toInt64) * 31) + (r4).toInt64) * 31) + (r5).toInt64) * 31) + (r6).toInt64) * 31) + (r7).toInt64) * 31) + (r8).toInt64) * 31) + (r9).toInt64) * 31) + (r10).toInt64) * 31) + (r11).toInt64) * 31) + (r12).toInt64) * 31) + (r13).toInt64) * 31) + (r14).toInt64) * 31) + (r15).toInt64)), (3, .int 1), (0, .ref a0)] 1 rfl (by decide) (by decide) rfl dX2_digest_62 ?_
  refine k_goto C 41 (by decide) dX2_digest_65 ?_
  refine k_iload C dX2_digest_41 0 rfl ?_
  refine k_iconst C 4 (by decide) dX2_digest_43 ?_
  refine k_icmp_ge C 68 (by decide) dX2_digest_44 (fun h => absurd h (by decide)) (fun _ => ?_)
  refine k_lload_n C dX2_digest_47 1 rfl ?_
  refine k_ldc2 C q410 dX2_digest_48 ?_
  refine k_lmul C dX2_digest_51 ?_
  refine k_aload_n C dX2_digest_52 3 rfl ?_
  refine k_iload_n C dX2_digest_53 2 rfl ?_
  refine k_iload C dX2_digest_54 0 rfl ?_
  refine k_callV_i C (mX2_told_12 l D cI cJ a0 a1 a2 a3 a4 a5 a6 X) (cwV 2 C.2.2.2.2.1 (kGV q412 q245 q246 q35 q247) rfl rfl rfl ⟨rfl, hdX2_told⟩ ⟨Nat.le_of_ble_eq_true rfl, Nat.le_of_ble_eq_true rfl⟩) [0, 1, 2, 3, 4, 5, 6] [] [0, 1, 2, 3, 4, 5, 6] [] ([(a0, cF a1 a2 a3 a4 a5 a6 X.2.2.2.2.2.2), (a1, cS X.1), (a2, cS X.2.1), (a3, cB X.2.2.1), (a4, cB X.2.2.2.1), (a5, cB X.2.2.2.2.1), (a6, cB X.2.2.2.2.2.1)]) rfl rfl rfl rfl (by decide) [a0, a1, a2, a3, a4, a5, a6] rfl rfl rfl rfl 0 2 rfl rfl rfl (Nat.le_of_ble_eq_true rfl) ⟨Nat.zero_le _, Nat.zero_le _⟩ rfl dX2_digest_56 ?_
  generalize er16 : fX2_told_12 X = r16
  refine k_i2l C dX2_digest_59 ?_
  refine k_ladd C dX2_digest_60 ?_
  refine k_lstore_n C [(1, .long ((((((((((((((((((((((((((((((((1801 * 31) + (r1).toInt64) * 31) + (r2).toInt64) * 31) + (r3).toInt64) * 31) + (r4).toInt64) * 31) + (r5).toInt64) * 31) + (r6).toInt64) * 31) + (r7).toInt64) * 31) + (r8).toInt64) * 31) + (r9).toInt64) * 31) + (r10).toInt64) * 31) + (r11).toInt64) * 31) + (r12).toInt64) * 31) + (r13).toInt64) * 31) + (r14).toInt64) * 31) + (r15).toInt64) * 31) + (r16).toInt64)), (4, .int 2), (3, .int 1), (0, .ref a0)] (by decide) rfl dX2_digest_61 ?_
  refine k_iinc C 3 [(4, .int 3), (1, .long ((((((((((((((((((((((((((((((((1801 * 31) + (r1).toInt64) * 31) + (r2).toInt64) * 31) + (r3).toInt64) * 31) + (r4).toInt64) * 31) + (r5).toInt64) * 31) + (r6).toInt64) * 31) + (r7).toInt64) * 31) + (r8).toInt64) * 31) + (r9).toInt64) * 31) + (r10).toInt64) * 31) + (r11).toInt64) * 31) + (r12).toInt64) * 31) + (r13).toInt64) * 31) + (r14).toInt64) * 31) + (r15).toInt64) * 31) + (r16).toInt64)), (3, .int 1), (0, .ref a0)] 1 rfl (by decide) (by decide) rfl dX2_digest_62 ?_
  refine k_goto C 41 (by decide) dX2_digest_65 ?_
  refine k_iload C dX2_digest_41 0 rfl ?_
  refine k_iconst C 4 (by decide) dX2_digest_43 ?_
  refine k_icmp_ge C 68 (by decide) dX2_digest_44 (fun h => absurd h (by decide)) (fun _ => ?_)
  refine k_lload_n C dX2_digest_47 1 rfl ?_
  refine k_ldc2 C q410 dX2_digest_48 ?_
  refine k_lmul C dX2_digest_51 ?_
  refine k_aload_n C dX2_digest_52 3 rfl ?_
  refine k_iload_n C dX2_digest_53 2 rfl ?_
  refine k_iload C dX2_digest_54 0 rfl ?_
  refine k_callV_i C (mX2_told_13 l D cI cJ a0 a1 a2 a3 a4 a5 a6 X) (cwV 2 C.2.2.2.2.1 (kGV q412 q245 q246 q35 q247) rfl rfl rfl ⟨rfl, hdX2_told⟩ ⟨Nat.le_of_ble_eq_true rfl, Nat.le_of_ble_eq_true rfl⟩) [0, 1, 2, 3, 4, 5, 6] [] [0, 1, 2, 3, 4, 5, 6] [] ([(a0, cF a1 a2 a3 a4 a5 a6 X.2.2.2.2.2.2), (a1, cS X.1), (a2, cS X.2.1), (a3, cB X.2.2.1), (a4, cB X.2.2.2.1), (a5, cB X.2.2.2.2.1), (a6, cB X.2.2.2.2.2.1)]) rfl rfl rfl rfl (by decide) [a0, a1, a2, a3, a4, a5, a6] rfl rfl rfl rfl 0 2 rfl rfl rfl (Nat.le_of_ble_eq_true rfl) ⟨Nat.zero_le _, Nat.zero_le _⟩ rfl dX2_digest_56 ?_
  generalize er17 : fX2_told_13 X = r17
  refine k_i2l C dX2_digest_59 ?_
  refine k_ladd C dX2_digest_60 ?_
  refine k_lstore_n C [(1, .long ((((((((((((((((((((((((((((((((((1801 * 31) + (r1).toInt64) * 31) + (r2).toInt64) * 31) + (r3).toInt64) * 31) + (r4).toInt64) * 31) + (r5).toInt64) * 31) + (r6).toInt64) * 31) + (r7).toInt64) * 31) + (r8).toInt64) * 31) + (r9).toInt64) * 31) + (r10).toInt64) * 31) + (r11).toInt64) * 31) + (r12).toInt64) * 31) + (r13).toInt64) * 31) + (r14).toInt64) * 31) + (r15).toInt64) * 31) + (r16).toInt64) * 31) + (r17).toInt64)), (4, .int 3), (3, .int 1), (0, .ref a0)] (by decide) rfl dX2_digest_61 ?_
  refine k_iinc C 4 [(4, .int 4), (1, .long ((((((((((((((((((((((((((((((((((1801 * 31) + (r1).toInt64) * 31) + (r2).toInt64) * 31) + (r3).toInt64) * 31) + (r4).toInt64) * 31) + (r5).toInt64) * 31) + (r6).toInt64) * 31) + (r7).toInt64) * 31) + (r8).toInt64) * 31) + (r9).toInt64) * 31) + (r10).toInt64) * 31) + (r11).toInt64) * 31) + (r12).toInt64) * 31) + (r13).toInt64) * 31) + (r14).toInt64) * 31) + (r15).toInt64) * 31) + (r16).toInt64) * 31) + (r17).toInt64)), (3, .int 1), (0, .ref a0)] 1 rfl (by decide) (by decide) rfl dX2_digest_62 ?_
  refine k_goto C 41 (by decide) dX2_digest_65 ?_
  refine k_iload C dX2_digest_41 0 rfl ?_
  refine k_iconst C 4 (by decide) dX2_digest_43 ?_
  refine k_icmp_ge C 68 (by decide) dX2_digest_44 (fun _ => ?_) (fun h => absurd (by decide) h)
  refine k_iinc C 2 [(3, .int 2), (4, .int 4), (1, .long ((((((((((((((((((((((((((((((((((1801 * 31) + (r1).toInt64) * 31) + (r2).toInt64) * 31) + (r3).toInt64) * 31) + (r4).toInt64) * 31) + (r5).toInt64) * 31) + (r6).toInt64) * 31) + (r7).toInt64) * 31) + (r8).toInt64) * 31) + (r9).toInt64) * 31) + (r10).toInt64) * 31) + (r11).toInt64) * 31) + (r12).toInt64) * 31) + (r13).toInt64) * 31) + (r14).toInt64) * 31) + (r15).toInt64) * 31) + (r16).toInt64) * 31) + (r17).toInt64)), (0, .ref a0)] 2 rfl (by decide) (by decide) rfl dX2_digest_68 ?_
  refine k_goto C 33 (by decide) dX2_digest_71 ?_
  refine k_iload_n C dX2_digest_33 0 rfl ?_
  refine k_iconst C 2 (by decide) dX2_digest_34 ?_
  refine k_icmp_ge C 74 (by decide) dX2_digest_35 (fun _ => ?_) (fun h => absurd (by decide) h)
  refine k_iconst C 0 (by decide) dX2_digest_74 ?_
  refine k_istore_n C [(3, .int 0), (4, .int 4), (1, .long ((((((((((((((((((((((((((((((((((1801 * 31) + (r1).toInt64) * 31) + (r2).toInt64) * 31) + (r3).toInt64) * 31) + (r4).toInt64) * 31) + (r5).toInt64) * 31) + (r6).toInt64) * 31) + (r7).toInt64) * 31) + (r8).toInt64) * 31) + (r9).toInt64) * 31) + (r10).toInt64) * 31) + (r11).toInt64) * 31) + (r12).toInt64) * 31) + (r13).toInt64) * 31) + (r14).toInt64) * 31) + (r15).toInt64) * 31) + (r16).toInt64) * 31) + (r17).toInt64)), (0, .ref a0)] (by decide) rfl dX2_digest_75 ?_
  refine k_iload_n C dX2_digest_76 0 rfl ?_
  refine k_bipush C 6 (by decide) dX2_digest_77 ?_
  refine k_icmp_ge C 101 (by decide) dX2_digest_79 (fun h => absurd h (by decide)) (fun _ => ?_)
  refine k_lload_n C dX2_digest_82 2 rfl ?_
  refine k_ldc2 C q410 dX2_digest_83 ?_
  refine k_lmul C dX2_digest_86 ?_
  refine k_aload_n C dX2_digest_87 3 rfl ?_
  refine k_iload_n C dX2_digest_88 0 rfl ?_
  refine k_callV_i C (mX2_ball_0 l D cI cJ a0 a1 a2 a3 a4 a5 a6 X) (cwV 1 C.2.2.2.2.1 (kGV q413 q169 q170 q35 q171) rfl rfl rfl ⟨rfl, hdX2_ball⟩ ⟨Nat.le_of_ble_eq_true rfl, Nat.le_of_ble_eq_true rfl⟩) [0, 1, 2, 3, 4, 5, 6] [] [0, 1, 2, 3, 4, 5, 6] [] ([(a0, cF a1 a2 a3 a4 a5 a6 X.2.2.2.2.2.2), (a1, cS X.1), (a2, cS X.2.1), (a3, cB X.2.2.1), (a4, cB X.2.2.2.1), (a5, cB X.2.2.2.2.1), (a6, cB X.2.2.2.2.2.1)]) rfl rfl rfl rfl (by decide) [a0, a1, a2, a3, a4, a5, a6] rfl rfl rfl rfl 0 2 rfl rfl rfl (Nat.le_of_ble_eq_true rfl) ⟨Nat.zero_le _, Nat.zero_le _⟩ rfl dX2_digest_89 ?_
  generalize er18 : fX2_ball_0 X = r18
  refine k_i2l C dX2_digest_92 ?_
  refine k_ladd C dX2_digest_93 ?_
  refine k_lstore_n C [(1, .long ((((((((((((((((((((((((((((((((((((1801 * 31) + (r1).toInt64) * 31) + (r2).toInt64) * 31) + (r3).toInt64) * 31) + (r4).toInt64) * 31) + (r5).toInt64) * 31) + (r6).toInt64) * 31) + (r7).toInt64) * 31) + (r8).toInt64) * 31) + (r9).toInt64) * 31) + (r10).toInt64) * 31) + (r11).toInt64) * 31) + (r12).toInt64) * 31) + (r13).toInt64) * 31) + (r14).toInt64) * 31) + (r15).toInt64) * 31) + (r16).toInt64) * 31) + (r17).toInt64) * 31) + (r18).toInt64)), (3, .int 0), (4, .int 4), (0, .ref a0)] (by decide) rfl dX2_digest_94 ?_
  refine k_iinc C 1 [(3, .int 1), (1, .long ((((((((((((((((((((((((((((((((((((1801 * 31) + (r1).toInt64) * 31) + (r2).toInt64) * 31) + (r3).toInt64) * 31) + (r4).toInt64) * 31) + (r5).toInt64) * 31) + (r6).toInt64) * 31) + (r7).toInt64) * 31) + (r8).toInt64) * 31) + (r9).toInt64) * 31) + (r10).toInt64) * 31) + (r11).toInt64) * 31) + (r12).toInt64) * 31) + (r13).toInt64) * 31) + (r14).toInt64) * 31) + (r15).toInt64) * 31) + (r16).toInt64) * 31) + (r17).toInt64) * 31) + (r18).toInt64)), (4, .int 4), (0, .ref a0)] 1 rfl (by decide) (by decide) rfl dX2_digest_95 ?_
  refine k_goto C 76 (by decide) dX2_digest_98 ?_
  refine k_iload_n C dX2_digest_76 0 rfl ?_
  refine k_bipush C 6 (by decide) dX2_digest_77 ?_
  refine k_icmp_ge C 101 (by decide) dX2_digest_79 (fun h => absurd h (by decide)) (fun _ => ?_)
  refine k_lload_n C dX2_digest_82 1 rfl ?_
  refine k_ldc2 C q410 dX2_digest_83 ?_
  refine k_lmul C dX2_digest_86 ?_
  refine k_aload_n C dX2_digest_87 3 rfl ?_
  refine k_iload_n C dX2_digest_88 0 rfl ?_
  refine k_callV_i C (mX2_ball_1 l D cI cJ a0 a1 a2 a3 a4 a5 a6 X) (cwV 1 C.2.2.2.2.1 (kGV q413 q169 q170 q35 q171) rfl rfl rfl ⟨rfl, hdX2_ball⟩ ⟨Nat.le_of_ble_eq_true rfl, Nat.le_of_ble_eq_true rfl⟩) [0, 1, 2, 3, 4, 5, 6] [] [0, 1, 2, 3, 4, 5, 6] [] ([(a0, cF a1 a2 a3 a4 a5 a6 X.2.2.2.2.2.2), (a1, cS X.1), (a2, cS X.2.1), (a3, cB X.2.2.1), (a4, cB X.2.2.2.1), (a5, cB X.2.2.2.2.1), (a6, cB X.2.2.2.2.2.1)]) rfl rfl rfl rfl (by decide) [a0, a1, a2, a3, a4, a5, a6] rfl rfl rfl rfl 0 2 rfl rfl rfl (Nat.le_of_ble_eq_true rfl) ⟨Nat.zero_le _, Nat.zero_le _⟩ rfl dX2_digest_89 ?_
  generalize er19 : fX2_ball_1 X = r19
  refine k_i2l C dX2_digest_92 ?_
  refine k_ladd C dX2_digest_93 ?_
  refine k_lstore_n C [(1, .long ((((((((((((((((((((((((((((((((((((((1801 * 31) + (r1).toInt64) * 31) + (r2).toInt64) * 31) + (r3).toInt64) * 31) + (r4).toInt64) * 31) + (r5).toInt64) * 31) + (r6).toInt64) * 31) + (r7).toInt64) * 31) + (r8).toInt64) * 31) + (r9).toInt64) * 31) + (r10).toInt64) * 31) + (r11).toInt64) * 31) + (r12).toInt64) * 31) + (r13).toInt64) * 31) + (r14).toInt64) * 31) + (r15).toInt64) * 31) + (r16).toInt64) * 31) + (r17).toInt64) * 31) + (r18).toInt64) * 31) + (r19).toInt64)), (3, .int 1), (4, .int 4), (0, .ref a0)] (by decide) rfl dX2_digest_94 ?_
  refine k_iinc C 2 [(3, .int 2), (1, .long ((((((((((((((((((((((((((((((((((((((1801 * 31) + (r1).toInt64) * 31) + (r2).toInt64) * 31) + (r3).toInt64) * 31) + (r4).toInt64) * 31) + (r5).toInt64) * 31) + (r6).toInt64) * 31) + (r7).toInt64) * 31) + (r8).toInt64) * 31) + (r9).toInt64) * 31) + (r10).toInt64) * 31) + (r11).toInt64) * 31) + (r12).toInt64) * 31) + (r13).toInt64) * 31) + (r14).toInt64) * 31) + (r15).toInt64) * 31) + (r16).toInt64) * 31) + (r17).toInt64) * 31) + (r18).toInt64) * 31) + (r19).toInt64)), (4, .int 4), (0, .ref a0)] 1 rfl (by decide) (by decide) rfl dX2_digest_95 ?_
  refine k_goto C 76 (by decide) dX2_digest_98 ?_
  refine k_iload_n C dX2_digest_76 0 rfl ?_
  refine k_bipush C 6 (by decide) dX2_digest_77 ?_
  refine k_icmp_ge C 101 (by decide) dX2_digest_79 (fun h => absurd h (by decide)) (fun _ => ?_)
  refine k_lload_n C dX2_digest_82 1 rfl ?_
  refine k_ldc2 C q410 dX2_digest_83 ?_
  refine k_lmul C dX2_digest_86 ?_
  refine k_aload_n C dX2_digest_87 3 rfl ?_
  refine k_iload_n C dX2_digest_88 0 rfl ?_
  refine k_callV_i C (mX2_ball_2 l D cI cJ a0 a1 a2 a3 a4 a5 a6 X) (cwV 1 C.2.2.2.2.1 (kGV q413 q169 q170 q35 q171) rfl rfl rfl ⟨rfl, hdX2_ball⟩ ⟨Nat.le_of_ble_eq_true rfl, Nat.le_of_ble_eq_true rfl⟩) [0, 1, 2, 3, 4, 5, 6] [] [0, 1, 2, 3, 4, 5, 6] [] ([(a0, cF a1 a2 a3 a4 a5 a6 X.2.2.2.2.2.2), (a1, cS X.1), (a2, cS X.2.1), (a3, cB X.2.2.1), (a4, cB X.2.2.2.1), (a5, cB X.2.2.2.2.1), (a6, cB X.2.2.2.2.2.1)]) rfl rfl rfl rfl (by decide) [a0, a1, a2, a3, a4, a5, a6] rfl rfl rfl rfl 0 2 rfl rfl rfl (Nat.le_of_ble_eq_true rfl) ⟨Nat.zero_le _, Nat.zero_le _⟩ rfl dX2_digest_89 ?_
  generalize er20 : fX2_ball_2 X = r20
  refine k_i2l C dX2_digest_92 ?_
  refine k_ladd C dX2_digest_93 ?_
  refine k_lstore_n C [(1, .long ((((((((((((((((((((((((((((((((((((((((1801 * 31) + (r1).toInt64) * 31) + (r2).toInt64) * 31) + (r3).toInt64) * 31) + (r4).toInt64) * 31) + (r5).toInt64) * 31) + (r6).toInt64) * 31) + (r7).toInt64) * 31) + (r8).toInt64) * 31) + (r9).toInt64) * 31) + (r10).toInt64) * 31) + (r11).toInt64) * 31) + (r12).toInt64) * 31) + (r13).toInt64) * 31) + (r14).toInt64) * 31) + (r15).toInt64) * 31) + (r16).toInt64) * 31) + (r17).toInt64) * 31) + (r18).toInt64) * 31) + (r19).toInt64) * 31) + (r20).toInt64)), (3, .int 2), (4, .int 4), (0, .ref a0)] (by decide) rfl dX2_digest_94 ?_
  refine k_iinc C 3 [(3, .int 3), (1, .long ((((((((((((((((((((((((((((((((((((((((1801 * 31) + (r1).toInt64) * 31) + (r2).toInt64) * 31) + (r3).toInt64) * 31) + (r4).toInt64) * 31) + (r5).toInt64) * 31) + (r6).toInt64) * 31) + (r7).toInt64) * 31) + (r8).toInt64) * 31) + (r9).toInt64) * 31) + (r10).toInt64) * 31) + (r11).toInt64) * 31) + (r12).toInt64) * 31) + (r13).toInt64) * 31) + (r14).toInt64) * 31) + (r15).toInt64) * 31) + (r16).toInt64) * 31) + (r17).toInt64) * 31) + (r18).toInt64) * 31) + (r19).toInt64) * 31) + (r20).toInt64)), (4, .int 4), (0, .ref a0)] 1 rfl (by decide) (by decide) rfl dX2_digest_95 ?_
  refine k_goto C 76 (by decide) dX2_digest_98 ?_
  refine k_iload_n C dX2_digest_76 0 rfl ?_
  refine k_bipush C 6 (by decide) dX2_digest_77 ?_
  refine k_icmp_ge C 101 (by decide) dX2_digest_79 (fun h => absurd h (by decide)) (fun _ => ?_)
  refine k_lload_n C dX2_digest_82 1 rfl ?_
  refine k_ldc2 C q410 dX2_digest_83 ?_
  refine k_lmul C dX2_digest_86 ?_
  refine k_aload_n C dX2_digest_87 3 rfl ?_
  refine k_iload_n C dX2_digest_88 0 rfl ?_
  refine k_callV_i C (mX2_ball_3 l D cI cJ a0 a1 a2 a3 a4 a5 a6 X) (cwV 1 C.2.2.2.2.1 (kGV q413 q169 q170 q35 q171) rfl rfl rfl ⟨rfl, hdX2_ball⟩ ⟨Nat.le_of_ble_eq_true rfl, Nat.le_of_ble_eq_true rfl⟩) [0, 1, 2, 3, 4, 5, 6] [] [0, 1, 2, 3, 4, 5, 6] [] ([(a0, cF a1 a2 a3 a4 a5 a6 X.2.2.2.2.2.2), (a1, cS X.1), (a2, cS X.2.1), (a3, cB X.2.2.1), (a4, cB X.2.2.2.1), (a5, cB X.2.2.2.2.1), (a6, cB X.2.2.2.2.2.1)]) rfl rfl rfl rfl (by decide) [a0, a1, a2, a3, a4, a5, a6] rfl rfl rfl rfl 0 2 rfl rfl rfl (Nat.le_of_ble_eq_true rfl) ⟨Nat.zero_le _, Nat.zero_le _⟩ rfl dX2_digest_89 ?_
  generalize er21 : fX2_ball_3 X = r21
  refine k_i2l C dX2_digest_92 ?_
  refine k_ladd C dX2_digest_93 ?_
  refine k_lstore_n C [(1, .long ((((((((((((((((((((((((((((((((((((((((((1801 * 31) + (r1).toInt64) * 31) + (r2).toInt64) * 31) + (r3).toInt64) * 31) + (r4).toInt64) * 31) + (r5).toInt64) * 31) + (r6).toInt64) * 31) + (r7).toInt64) * 31) + (r8).toInt64) * 31) + (r9).toInt64) * 31) + (r10).toInt64) * 31) + (r11).toInt64) * 31) + (r12).toInt64) * 31) + (r13).toInt64) * 31) + (r14).toInt64) * 31) + (r15).toInt64) * 31) + (r16).toInt64) * 31) + (r17).toInt64) * 31) + (r18).toInt64) * 31) + (r19).toInt64) * 31) + (r20).toInt64) * 31) + (r21).toInt64)), (3, .int 3), (4, .int 4), (0, .ref a0)] (by decide) rfl dX2_digest_94 ?_
  refine k_iinc C 4 [(3, .int 4), (1, .long ((((((((((((((((((((((((((((((((((((((((((1801 * 31) + (r1).toInt64) * 31) + (r2).toInt64) * 31) + (r3).toInt64) * 31) + (r4).toInt64) * 31) + (r5).toInt64) * 31) + (r6).toInt64) * 31) + (r7).toInt64) * 31) + (r8).toInt64) * 31) + (r9).toInt64) * 31) + (r10).toInt64) * 31) + (r11).toInt64) * 31) + (r12).toInt64) * 31) + (r13).toInt64) * 31) + (r14).toInt64) * 31) + (r15).toInt64) * 31) + (r16).toInt64) * 31) + (r17).toInt64) * 31) + (r18).toInt64) * 31) + (r19).toInt64) * 31) + (r20).toInt64) * 31) + (r21).toInt64)), (4, .int 4), (0, .ref a0)] 1 rfl (by decide) (by decide) rfl dX2_digest_95 ?_
  refine k_goto C 76 (by decide) dX2_digest_98 ?_
  refine k_iload_n C dX2_digest_76 0 rfl ?_
  refine k_bipush C 6 (by decide) dX2_digest_77 ?_
  refine k_icmp_ge C 101 (by decide) dX2_digest_79 (fun h => absurd h (by decide)) (fun _ => ?_)
  refine k_lload_n C dX2_digest_82 1 rfl ?_
  refine k_ldc2 C q410 dX2_digest_83 ?_
  refine k_lmul C dX2_digest_86 ?_
  refine k_aload_n C dX2_digest_87 3 rfl ?_
  refine k_iload_n C dX2_digest_88 0 rfl ?_
  refine k_callV_i C (mX2_ball_4 l D cI cJ a0 a1 a2 a3 a4 a5 a6 X) (cwV 1 C.2.2.2.2.1 (kGV q413 q169 q170 q35 q171) rfl rfl rfl ⟨rfl, hdX2_ball⟩ ⟨Nat.le_of_ble_eq_true rfl, Nat.le_of_ble_eq_true rfl⟩) [0, 1, 2, 3, 4, 5, 6] [] [0, 1, 2, 3, 4, 5, 6] [] ([(a0, cF a1 a2 a3 a4 a5 a6 X.2.2.2.2.2.2), (a1, cS X.1), (a2, cS X.2.1), (a3, cB X.2.2.1), (a4, cB X.2.2.2.1), (a5, cB X.2.2.2.2.1), (a6, cB X.2.2.2.2.2.1)]) rfl rfl rfl rfl (by decide) [a0, a1, a2, a3, a4, a5, a6] rfl rfl rfl rfl 0 2 rfl rfl rfl (Nat.le_of_ble_eq_true rfl) ⟨Nat.zero_le _, Nat.zero_le _⟩ rfl dX2_digest_89 ?_
  generalize er22 : fX2_ball_4 X = r22
  refine k_i2l C dX2_digest_92 ?_
  refine k_ladd C dX2_digest_93 ?_
  refine k_lstore_n C [(1, .long ((((((((((((((((((((((((((((((((((((((((((((1801 * 31) + (r1).toInt64) * 31) + (r2).toInt64) * 31) + (r3).toInt64) * 31) + (r4).toInt64) * 31) + (r5).toInt64) * 31) + (r6).toInt64) * 31) + (r7).toInt64) * 31) + (r8).toInt64) * 31) + (r9).toInt64) * 31) + (r10).toInt64) * 31) + (r11).toInt64) * 31) + (r12).toInt64) * 31) + (r13).toInt64) * 31) + (r14).toInt64) * 31) + (r15).toInt64) * 31) + (r16).toInt64) * 31) + (r17).toInt64) * 31) + (r18).toInt64) * 31) + (r19).toInt64) * 31) + (r20).toInt64) * 31) + (r21).toInt64) * 31) + (r22).toInt64)), (3, .int 4), (4, .int 4), (0, .ref a0)] (by decide) rfl dX2_digest_94 ?_
  refine k_iinc C 5 [(3, .int 5), (1, .long ((((((((((((((((((((((((((((((((((((((((((((1801 * 31) + (r1).toInt64) * 31) + (r2).toInt64) * 31) + (r3).toInt64) * 31) + (r4).toInt64) * 31) + (r5).toInt64) * 31) + (r6).toInt64) * 31) + (r7).toInt64) * 31) + (r8).toInt64) * 31) + (r9).toInt64) * 31) + (r10).toInt64) * 31) + (r11).toInt64) * 31) + (r12).toInt64) * 31) + (r13).toInt64) * 31) + (r14).toInt64) * 31) + (r15).toInt64) * 31) + (r16).toInt64) * 31) + (r17).toInt64) * 31) + (r18).toInt64) * 31) + (r19).toInt64) * 31) + (r20).toInt64) * 31) + (r21).toInt64) * 31) + (r22).toInt64)), (4, .int 4), (0, .ref a0)] 1 rfl (by decide) (by decide) rfl dX2_digest_95 ?_
  refine k_goto C 76 (by decide) dX2_digest_98 ?_
  refine k_iload_n C dX2_digest_76 0 rfl ?_
  refine k_bipush C 6 (by decide) dX2_digest_77 ?_
  refine k_icmp_ge C 101 (by decide) dX2_digest_79 (fun h => absurd h (by decide)) (fun _ => ?_)
  refine k_lload_n C dX2_digest_82 1 rfl ?_
  refine k_ldc2 C q410 dX2_digest_83 ?_
  refine k_lmul C dX2_digest_86 ?_
  refine k_aload_n C dX2_digest_87 3 rfl ?_
  refine k_iload_n C dX2_digest_88 0 rfl ?_
  refine k_callV_i C (mX2_ball_5 l D cI cJ a0 a1 a2 a3 a4 a5 a6 X) (cwV 1 C.2.2.2.2.1 (kGV q413 q169 q170 q35 q171) rfl rfl rfl ⟨rfl, hdX2_ball⟩ ⟨Nat.le_of_ble_eq_true rfl, Nat.le_of_ble_eq_true rfl⟩) [0, 1, 2, 3, 4, 5, 6] [] [0, 1, 2, 3, 4, 5, 6] [] ([(a0, cF a1 a2 a3 a4 a5 a6 X.2.2.2.2.2.2), (a1, cS X.1), (a2, cS X.2.1), (a3, cB X.2.2.1), (a4, cB X.2.2.2.1), (a5, cB X.2.2.2.2.1), (a6, cB X.2.2.2.2.2.1)]) rfl rfl rfl rfl (by decide) [a0, a1, a2, a3, a4, a5, a6] rfl rfl rfl rfl 0 2 rfl rfl rfl (Nat.le_of_ble_eq_true rfl) ⟨Nat.zero_le _, Nat.zero_le _⟩ rfl dX2_digest_89 ?_
  generalize er23 : fX2_ball_5 X = r23
  refine k_i2l C dX2_digest_92 ?_
  refine k_ladd C dX2_digest_93 ?_
  refine k_lstore_n C [(1, .long ((((((((((((((((((((((((((((((((((((((((((((((1801 * 31) + (r1).toInt64) * 31) + (r2).toInt64) * 31) + (r3).toInt64) * 31) + (r4).toInt64) * 31) + (r5).toInt64) * 31) + (r6).toInt64) * 31) + (r7).toInt64) * 31) + (r8).toInt64) * 31) + (r9).toInt64) * 31) + (r10).toInt64) * 31) + (r11).toInt64) * 31) + (r12).toInt64) * 31) + (r13).toInt64) * 31) + (r14).toInt64) * 31) + (r15).toInt64) * 31) + (r16).toInt64) * 31) + (r17).toInt64) * 31) + (r18).toInt64) * 31) + (r19).toInt64) * 31) + (r20).toInt64) * 31) + (r21).toInt64) * 31) + (r22).toInt64) * 31) + (r23).toInt64)), (3, .int 5), (4, .int 4), (0, .ref a0)] (by decide) rfl dX2_digest_94 ?_
  refine k_iinc C 6 [(3, .int 6), (1, .long ((((((((((((((((((((((((((((((((((((((((((((((1801 * 31) + (r1).toInt64) * 31) + (r2).toInt64) * 31) + (r3).toInt64) * 31) + (r4).toInt64) * 31) + (r5).toInt64) * 31) + (r6).toInt64) * 31) + (r7).toInt64) * 31) + (r8).toInt64) * 31) + (r9).toInt64) * 31) + (r10).toInt64) * 31) + (r11).toInt64) * 31) + (r12).toInt64) * 31) + (r13).toInt64) * 31) + (r14).toInt64) * 31) + (r15).toInt64) * 31) + (r16).toInt64) * 31) + (r17).toInt64) * 31) + (r18).toInt64) * 31) + (r19).toInt64) * 31) + (r20).toInt64) * 31) + (r21).toInt64) * 31) + (r22).toInt64) * 31) + (r23).toInt64)), (4, .int 4), (0, .ref a0)] 1 rfl (by decide) (by decide) rfl dX2_digest_95 ?_
  refine k_goto C 76 (by decide) dX2_digest_98 ?_
  refine k_iload_n C dX2_digest_76 0 rfl ?_
  refine k_bipush C 6 (by decide) dX2_digest_77 ?_
  refine k_icmp_ge C 101 (by decide) dX2_digest_79 (fun _ => ?_) (fun h => absurd (by decide) h)
  refine k_iconst C 0 (by decide) dX2_digest_101 ?_
  refine k_istore_n C [(3, .int 0), (1, .long ((((((((((((((((((((((((((((((((((((((((((((((1801 * 31) + (r1).toInt64) * 31) + (r2).toInt64) * 31) + (r3).toInt64) * 31) + (r4).toInt64) * 31) + (r5).toInt64) * 31) + (r6).toInt64) * 31) + (r7).toInt64) * 31) + (r8).toInt64) * 31) + (r9).toInt64) * 31) + (r10).toInt64) * 31) + (r11).toInt64) * 31) + (r12).toInt64) * 31) + (r13).toInt64) * 31) + (r14).toInt64) * 31) + (r15).toInt64) * 31) + (r16).toInt64) * 31) + (r17).toInt64) * 31) + (r18).toInt64) * 31) + (r19).toInt64) * 31) + (r20).toInt64) * 31) + (r21).toInt64) * 31) + (r22).toInt64) * 31) + (r23).toInt64)), (4, .int 4), (0, .ref a0)] (by decide) rfl dX2_digest_102 ?_
  refine k_iload_n C dX2_digest_103 0 rfl ?_
  refine k_iconst C 5 (by decide) dX2_digest_104 ?_
  refine k_icmp_ge C 127 (by decide) dX2_digest_105 (fun h => absurd h (by decide)) (fun _ => ?_)
  refine k_lload_n C dX2_digest_108 1 rfl ?_
  refine k_ldc2 C q410 dX2_digest_109 ?_
  refine k_lmul C dX2_digest_112 ?_
  refine k_aload_n C dX2_digest_113 3 rfl ?_
  refine k_iload_n C dX2_digest_114 0 rfl ?_
  refine k_callV_i C (mX2_end_0 l D cI cJ a0 a1 a2 a3 a4 a5 a6 X) (cwV 1 C.2.2.2.2.1 (kGV q414 q354 q355 q35 q356) rfl rfl rfl ⟨rfl, hdX2_end⟩ ⟨Nat.le_of_ble_eq_true rfl, Nat.le_of_ble_eq_true rfl⟩) [0, 1, 2, 3, 4, 5, 6] [] [0, 1, 2, 3, 4, 5, 6] [] ([(a0, cF a1 a2 a3 a4 a5 a6 X.2.2.2.2.2.2), (a1, cS X.1), (a2, cS X.2.1), (a3, cB X.2.2.1), (a4, cB X.2.2.2.1), (a5, cB X.2.2.2.2.1), (a6, cB X.2.2.2.2.2.1)]) rfl rfl rfl rfl (by decide) [a0, a1, a2, a3, a4, a5, a6] rfl rfl rfl rfl 0 2 rfl rfl rfl (Nat.le_of_ble_eq_true rfl) ⟨Nat.zero_le _, Nat.zero_le _⟩ rfl dX2_digest_115 ?_
  generalize er24 : fX2_end_0 X = r24
  refine k_i2l C dX2_digest_118 ?_
  refine k_ladd C dX2_digest_119 ?_
  refine k_lstore_n C [(1, .long ((((((((((((((((((((((((((((((((((((((((((((((((1801 * 31) + (r1).toInt64) * 31) + (r2).toInt64) * 31) + (r3).toInt64) * 31) + (r4).toInt64) * 31) + (r5).toInt64) * 31) + (r6).toInt64) * 31) + (r7).toInt64) * 31) + (r8).toInt64) * 31) + (r9).toInt64) * 31) + (r10).toInt64) * 31) + (r11).toInt64) * 31) + (r12).toInt64) * 31) + (r13).toInt64) * 31) + (r14).toInt64) * 31) + (r15).toInt64) * 31) + (r16).toInt64) * 31) + (r17).toInt64) * 31) + (r18).toInt64) * 31) + (r19).toInt64) * 31) + (r20).toInt64) * 31) + (r21).toInt64) * 31) + (r22).toInt64) * 31) + (r23).toInt64) * 31) + (r24).toInt64)), (3, .int 0), (4, .int 4), (0, .ref a0)] (by decide) rfl dX2_digest_120 ?_
  refine k_iinc C 1 [(3, .int 1), (1, .long ((((((((((((((((((((((((((((((((((((((((((((((((1801 * 31) + (r1).toInt64) * 31) + (r2).toInt64) * 31) + (r3).toInt64) * 31) + (r4).toInt64) * 31) + (r5).toInt64) * 31) + (r6).toInt64) * 31) + (r7).toInt64) * 31) + (r8).toInt64) * 31) + (r9).toInt64) * 31) + (r10).toInt64) * 31) + (r11).toInt64) * 31) + (r12).toInt64) * 31) + (r13).toInt64) * 31) + (r14).toInt64) * 31) + (r15).toInt64) * 31) + (r16).toInt64) * 31) + (r17).toInt64) * 31) + (r18).toInt64) * 31) + (r19).toInt64) * 31) + (r20).toInt64) * 31) + (r21).toInt64) * 31) + (r22).toInt64) * 31) + (r23).toInt64) * 31) + (r24).toInt64)), (4, .int 4), (0, .ref a0)] 1 rfl (by decide) (by decide) rfl dX2_digest_121 ?_
  refine k_goto C 103 (by decide) dX2_digest_124 ?_
  refine k_iload_n C dX2_digest_103 0 rfl ?_
  refine k_iconst C 5 (by decide) dX2_digest_104 ?_
  refine k_icmp_ge C 127 (by decide) dX2_digest_105 (fun h => absurd h (by decide)) (fun _ => ?_)
  refine k_lload_n C dX2_digest_108 1 rfl ?_
  refine k_ldc2 C q410 dX2_digest_109 ?_
  refine k_lmul C dX2_digest_112 ?_
  refine k_aload_n C dX2_digest_113 3 rfl ?_
  refine k_iload_n C dX2_digest_114 0 rfl ?_
  refine k_callV_i C (mX2_end_1 l D cI cJ a0 a1 a2 a3 a4 a5 a6 X) (cwV 1 C.2.2.2.2.1 (kGV q414 q354 q355 q35 q356) rfl rfl rfl ⟨rfl, hdX2_end⟩ ⟨Nat.le_of_ble_eq_true rfl, Nat.le_of_ble_eq_true rfl⟩) [0, 1, 2, 3, 4, 5, 6] [] [0, 1, 2, 3, 4, 5, 6] [] ([(a0, cF a1 a2 a3 a4 a5 a6 X.2.2.2.2.2.2), (a1, cS X.1), (a2, cS X.2.1), (a3, cB X.2.2.1), (a4, cB X.2.2.2.1), (a5, cB X.2.2.2.2.1), (a6, cB X.2.2.2.2.2.1)]) rfl rfl rfl rfl (by decide) [a0, a1, a2, a3, a4, a5, a6] rfl rfl rfl rfl 0 2 rfl rfl rfl (Nat.le_of_ble_eq_true rfl) ⟨Nat.zero_le _, Nat.zero_le _⟩ rfl dX2_digest_115 ?_
  generalize er25 : fX2_end_1 X = r25
  refine k_i2l C dX2_digest_118 ?_
  refine k_ladd C dX2_digest_119 ?_
  refine k_lstore_n C [(1, .long ((((((((((((((((((((((((((((((((((((((((((((((((((1801 * 31) + (r1).toInt64) * 31) + (r2).toInt64) * 31) + (r3).toInt64) * 31) + (r4).toInt64) * 31) + (r5).toInt64) * 31) + (r6).toInt64) * 31) + (r7).toInt64) * 31) + (r8).toInt64) * 31) + (r9).toInt64) * 31) + (r10).toInt64) * 31) + (r11).toInt64) * 31) + (r12).toInt64) * 31) + (r13).toInt64) * 31) + (r14).toInt64) * 31) + (r15).toInt64) * 31) + (r16).toInt64) * 31) + (r17).toInt64) * 31) + (r18).toInt64) * 31) + (r19).toInt64) * 31) + (r20).toInt64) * 31) + (r21).toInt64) * 31) + (r22).toInt64) * 31) + (r23).toInt64) * 31) + (r24).toInt64) * 31) + (r25).toInt64)), (3, .int 1), (4, .int 4), (0, .ref a0)] (by decide) rfl dX2_digest_120 ?_
  refine k_iinc C 2 [(3, .int 2), (1, .long ((((((((((((((((((((((((((((((((((((((((((((((((((1801 * 31) + (r1).toInt64) * 31) + (r2).toInt64) * 31) + (r3).toInt64) * 31) + (r4).toInt64) * 31) + (r5).toInt64) * 31) + (r6).toInt64) * 31) + (r7).toInt64) * 31) + (r8).toInt64) * 31) + (r9).toInt64) * 31) + (r10).toInt64) * 31) + (r11).toInt64) * 31) + (r12).toInt64) * 31) + (r13).toInt64) * 31) + (r14).toInt64) * 31) + (r15).toInt64) * 31) + (r16).toInt64) * 31) + (r17).toInt64) * 31) + (r18).toInt64) * 31) + (r19).toInt64) * 31) + (r20).toInt64) * 31) + (r21).toInt64) * 31) + (r22).toInt64) * 31) + (r23).toInt64) * 31) + (r24).toInt64) * 31) + (r25).toInt64)), (4, .int 4), (0, .ref a0)] 1 rfl (by decide) (by decide) rfl dX2_digest_121 ?_
  refine k_goto C 103 (by decide) dX2_digest_124 ?_
  refine k_iload_n C dX2_digest_103 0 rfl ?_
  refine k_iconst C 5 (by decide) dX2_digest_104 ?_
  refine k_icmp_ge C 127 (by decide) dX2_digest_105 (fun h => absurd h (by decide)) (fun _ => ?_)
  refine k_lload_n C dX2_digest_108 1 rfl ?_
  refine k_ldc2 C q410 dX2_digest_109 ?_
  refine k_lmul C dX2_digest_112 ?_
  refine k_aload_n C dX2_digest_113 3 rfl ?_
  refine k_iload_n C dX2_digest_114 0 rfl ?_
  refine k_callV_i C (mX2_end_2 l D cI cJ a0 a1 a2 a3 a4 a5 a6 X) (cwV 1 C.2.2.2.2.1 (kGV q414 q354 q355 q35 q356) rfl rfl rfl ⟨rfl, hdX2_end⟩ ⟨Nat.le_of_ble_eq_true rfl, Nat.le_of_ble_eq_true rfl⟩) [0, 1, 2, 3, 4, 5, 6] [] [0, 1, 2, 3, 4, 5, 6] [] ([(a0, cF a1 a2 a3 a4 a5 a6 X.2.2.2.2.2.2), (a1, cS X.1), (a2, cS X.2.1), (a3, cB X.2.2.1), (a4, cB X.2.2.2.1), (a5, cB X.2.2.2.2.1), (a6, cB X.2.2.2.2.2.1)]) rfl rfl rfl rfl (by decide) [a0, a1, a2, a3, a4, a5, a6] rfl rfl rfl rfl 0 2 rfl rfl rfl (Nat.le_of_ble_eq_true rfl) ⟨Nat.zero_le _, Nat.zero_le _⟩ rfl dX2_digest_115 ?_
  generalize er26 : fX2_end_2 X = r26
  refine k_i2l C dX2_digest_118 ?_
  refine k_ladd C dX2_digest_119 ?_
  refine k_lstore_n C [(1, .long ((((((((((((((((((((((((((((((((((((((((((((((((((((1801 * 31) + (r1).toInt64) * 31) + (r2).toInt64) * 31) + (r3).toInt64) * 31) + (r4).toInt64) * 31) + (r5).toInt64) * 31) + (r6).toInt64) * 31) + (r7).toInt64) * 31) + (r8).toInt64) * 31) + (r9).toInt64) * 31) + (r10).toInt64) * 31) + (r11).toInt64) * 31) + (r12).toInt64) * 31) + (r13).toInt64) * 31) + (r14).toInt64) * 31) + (r15).toInt64) * 31) + (r16).toInt64) * 31) + (r17).toInt64) * 31) + (r18).toInt64) * 31) + (r19).toInt64) * 31) + (r20).toInt64) * 31) + (r21).toInt64) * 31) + (r22).toInt64) * 31) + (r23).toInt64) * 31) + (r24).toInt64) * 31) + (r25).toInt64) * 31) + (r26).toInt64)), (3, .int 2), (4, .int 4), (0, .ref a0)] (by decide) rfl dX2_digest_120 ?_
  refine k_iinc C 3 [(3, .int 3), (1, .long ((((((((((((((((((((((((((((((((((((((((((((((((((((1801 * 31) + (r1).toInt64) * 31) + (r2).toInt64) * 31) + (r3).toInt64) * 31) + (r4).toInt64) * 31) + (r5).toInt64) * 31) + (r6).toInt64) * 31) + (r7).toInt64) * 31) + (r8).toInt64) * 31) + (r9).toInt64) * 31) + (r10).toInt64) * 31) + (r11).toInt64) * 31) + (r12).toInt64) * 31) + (r13).toInt64) * 31) + (r14).toInt64) * 31) + (r15).toInt64) * 31) + (r16).toInt64) * 31) + (r17).toInt64) * 31) + (r18).toInt64) * 31) + (r19).toInt64) * 31) + (r20).toInt64) * 31) + (r21).toInt64) * 31) + (r22).toInt64) * 31) + (r23).toInt64) * 31) + (r24).toInt64) * 31) + (r25).toInt64) * 31) + (r26).toInt64)), (4, .int 4), (0, .ref a0)] 1 rfl (by decide) (by decide) rfl dX2_digest_121 ?_
  refine k_goto C 103 (by decide) dX2_digest_124 ?_
  refine k_iload_n C dX2_digest_103 0 rfl ?_
  refine k_iconst C 5 (by decide) dX2_digest_104 ?_
  refine k_icmp_ge C 127 (by decide) dX2_digest_105 (fun h => absurd h (by decide)) (fun _ => ?_)
  refine k_lload_n C dX2_digest_108 1 rfl ?_
  refine k_ldc2 C q410 dX2_digest_109 ?_
  refine k_lmul C dX2_digest_112 ?_
  refine k_aload_n C dX2_digest_113 3 rfl ?_
  refine k_iload_n C dX2_digest_114 0 rfl ?_
  refine k_callV_i C (mX2_end_3 l D cI cJ a0 a1 a2 a3 a4 a5 a6 X) (cwV 1 C.2.2.2.2.1 (kGV q414 q354 q355 q35 q356) rfl rfl rfl ⟨rfl, hdX2_end⟩ ⟨Nat.le_of_ble_eq_true rfl, Nat.le_of_ble_eq_true rfl⟩) [0, 1, 2, 3, 4, 5, 6] [] [0, 1, 2, 3, 4, 5, 6] [] ([(a0, cF a1 a2 a3 a4 a5 a6 X.2.2.2.2.2.2), (a1, cS X.1), (a2, cS X.2.1), (a3, cB X.2.2.1), (a4, cB X.2.2.2.1), (a5, cB X.2.2.2.2.1), (a6, cB X.2.2.2.2.2.1)]) rfl rfl rfl rfl (by decide) [a0, a1, a2, a3, a4, a5, a6] rfl rfl rfl rfl 0 2 rfl rfl rfl (Nat.le_of_ble_eq_true rfl) ⟨Nat.zero_le _, Nat.zero_le _⟩ rfl dX2_digest_115 ?_
  generalize er27 : fX2_end_3 X = r27
  refine k_i2l C dX2_digest_118 ?_
  refine k_ladd C dX2_digest_119 ?_
  refine k_lstore_n C [(1, .long ((((((((((((((((((((((((((((((((((((((((((((((((((((((1801 * 31) + (r1).toInt64) * 31) + (r2).toInt64) * 31) + (r3).toInt64) * 31) + (r4).toInt64) * 31) + (r5).toInt64) * 31) + (r6).toInt64) * 31) + (r7).toInt64) * 31) + (r8).toInt64) * 31) + (r9).toInt64) * 31) + (r10).toInt64) * 31) + (r11).toInt64) * 31) + (r12).toInt64) * 31) + (r13).toInt64) * 31) + (r14).toInt64) * 31) + (r15).toInt64) * 31) + (r16).toInt64) * 31) + (r17).toInt64) * 31) + (r18).toInt64) * 31) + (r19).toInt64) * 31) + (r20).toInt64) * 31) + (r21).toInt64) * 31) + (r22).toInt64) * 31) + (r23).toInt64) * 31) + (r24).toInt64) * 31) + (r25).toInt64) * 31) + (r26).toInt64) * 31) + (r27).toInt64)), (3, .int 3), (4, .int 4), (0, .ref a0)] (by decide) rfl dX2_digest_120 ?_
  refine k_iinc C 4 [(3, .int 4), (1, .long ((((((((((((((((((((((((((((((((((((((((((((((((((((((1801 * 31) + (r1).toInt64) * 31) + (r2).toInt64) * 31) + (r3).toInt64) * 31) + (r4).toInt64) * 31) + (r5).toInt64) * 31) + (r6).toInt64) * 31) + (r7).toInt64) * 31) + (r8).toInt64) * 31) + (r9).toInt64) * 31) + (r10).toInt64) * 31) + (r11).toInt64) * 31) + (r12).toInt64) * 31) + (r13).toInt64) * 31) + (r14).toInt64) * 31) + (r15).toInt64) * 31) + (r16).toInt64) * 31) + (r17).toInt64) * 31) + (r18).toInt64) * 31) + (r19).toInt64) * 31) + (r20).toInt64) * 31) + (r21).toInt64) * 31) + (r22).toInt64) * 31) + (r23).toInt64) * 31) + (r24).toInt64) * 31) + (r25).toInt64) * 31) + (r26).toInt64) * 31) + (r27).toInt64)), (4, .int 4), (0, .ref a0)] 1 rfl (by decide) (by decide) rfl dX2_digest_121 ?_
  refine k_goto C 103 (by decide) dX2_digest_124 ?_
  refine k_iload_n C dX2_digest_103 0 rfl ?_
  refine k_iconst C 5 (by decide) dX2_digest_104 ?_
  refine k_icmp_ge C 127 (by decide) dX2_digest_105 (fun h => absurd h (by decide)) (fun _ => ?_)
  refine k_lload_n C dX2_digest_108 1 rfl ?_
  refine k_ldc2 C q410 dX2_digest_109 ?_
  refine k_lmul C dX2_digest_112 ?_
  refine k_aload_n C dX2_digest_113 3 rfl ?_
  refine k_iload_n C dX2_digest_114 0 rfl ?_
  refine k_callV_i C (mX2_end_4 l D cI cJ a0 a1 a2 a3 a4 a5 a6 X) (cwV 1 C.2.2.2.2.1 (kGV q414 q354 q355 q35 q356) rfl rfl rfl ⟨rfl, hdX2_end⟩ ⟨Nat.le_of_ble_eq_true rfl, Nat.le_of_ble_eq_true rfl⟩) [0, 1, 2, 3, 4, 5, 6] [] [0, 1, 2, 3, 4, 5, 6] [] ([(a0, cF a1 a2 a3 a4 a5 a6 X.2.2.2.2.2.2), (a1, cS X.1), (a2, cS X.2.1), (a3, cB X.2.2.1), (a4, cB X.2.2.2.1), (a5, cB X.2.2.2.2.1), (a6, cB X.2.2.2.2.2.1)]) rfl rfl rfl rfl (by decide) [a0, a1, a2, a3, a4, a5, a6] rfl rfl rfl rfl 0 2 rfl rfl rfl (Nat.le_of_ble_eq_true rfl) ⟨Nat.zero_le _, Nat.zero_le _⟩ rfl dX2_digest_115 ?_
  generalize er28 : fX2_end_4 X = r28
  refine k_i2l C dX2_digest_118 ?_
  refine k_ladd C dX2_digest_119 ?_
  refine k_lstore_n C [(1, .long ((((((((((((((((((((((((((((((((((((((((((((((((((((((((1801 * 31) + (r1).toInt64) * 31) + (r2).toInt64) * 31) + (r3).toInt64) * 31) + (r4).toInt64) * 31) + (r5).toInt64) * 31) + (r6).toInt64) * 31) + (r7).toInt64) * 31) + (r8).toInt64) * 31) + (r9).toInt64) * 31) + (r10).toInt64) * 31) + (r11).toInt64) * 31) + (r12).toInt64) * 31) + (r13).toInt64) * 31) + (r14).toInt64) * 31) + (r15).toInt64) * 31) + (r16).toInt64) * 31) + (r17).toInt64) * 31) + (r18).toInt64) * 31) + (r19).toInt64) * 31) + (r20).toInt64) * 31) + (r21).toInt64) * 31) + (r22).toInt64) * 31) + (r23).toInt64) * 31) + (r24).toInt64) * 31) + (r25).toInt64) * 31) + (r26).toInt64) * 31) + (r27).toInt64) * 31) + (r28).toInt64)), (3, .int 4), (4, .int 4), (0, .ref a0)] (by decide) rfl dX2_digest_120 ?_
  refine k_iinc C 5 [(3, .int 5), (1, .long ((((((((((((((((((((((((((((((((((((((((((((((((((((((((1801 * 31) + (r1).toInt64) * 31) + (r2).toInt64) * 31) + (r3).toInt64) * 31) + (r4).toInt64) * 31) + (r5).toInt64) * 31) + (r6).toInt64) * 31) + (r7).toInt64) * 31) + (r8).toInt64) * 31) + (r9).toInt64) * 31) + (r10).toInt64) * 31) + (r11).toInt64) * 31) + (r12).toInt64) * 31) + (r13).toInt64) * 31) + (r14).toInt64) * 31) + (r15).toInt64) * 31) + (r16).toInt64) * 31) + (r17).toInt64) * 31) + (r18).toInt64) * 31) + (r19).toInt64) * 31) + (r20).toInt64) * 31) + (r21).toInt64) * 31) + (r22).toInt64) * 31) + (r23).toInt64) * 31) + (r24).toInt64) * 31) + (r25).toInt64) * 31) + (r26).toInt64) * 31) + (r27).toInt64) * 31) + (r28).toInt64)), (4, .int 4), (0, .ref a0)] 1 rfl (by decide) (by decide) rfl dX2_digest_121 ?_
  refine k_goto C 103 (by decide) dX2_digest_124 ?_
  refine k_iload_n C dX2_digest_103 0 rfl ?_
  refine k_iconst C 5 (by decide) dX2_digest_104 ?_
  refine k_icmp_ge C 127 (by decide) dX2_digest_105 (fun _ => ?_) (fun h => absurd (by decide) h)
  refine k_lload_n C dX2_digest_127 1 rfl ?_
  have hL : fX2_digest X = ((((((((((((((((((((((((((((((((((((((((((((((((((((((((1801 * 31) + (r1).toInt64) * 31) + (r2).toInt64) * 31) + (r3).toInt64) * 31) + (r4).toInt64) * 31) + (r5).toInt64) * 31) + (r6).toInt64) * 31) + (r7).toInt64) * 31) + (r8).toInt64) * 31) + (r9).toInt64) * 31) + (r10).toInt64) * 31) + (r11).toInt64) * 31) + (r12).toInt64) * 31) + (r13).toInt64) * 31) + (r14).toInt64) * 31) + (r15).toInt64) * 31) + (r16).toInt64) * 31) + (r17).toInt64) * 31) + (r18).toInt64) * 31) + (r19).toInt64) * 31) + (r20).toInt64) * 31) + (r21).toInt64) * 31) + (r22).toInt64) * 31) + (r23).toInt64) * 31) + (r24).toInt64) * 31) + (r25).toInt64) * 31) + (r26).toInt64) * 31) + (r27).toInt64) * 31) + (r28).toInt64) := by subst er28; subst er27; subst er26; subst er25; subst er24; subst er23; subst er22; subst er21; subst er20; subst er19; subst er18; subst er17; subst er16; subst er15; subst er14; subst er13; subst er12; subst er11; subst er10; subst er9; subst er8; subst er7; subst er6; subst er5; subst er4; subst er3; subst er2; subst er1; exact rfl
  exact k_lret C rfl (hL.symm) rfl dX2_digest_128
