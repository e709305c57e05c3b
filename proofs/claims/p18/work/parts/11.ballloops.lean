/-! the ball: loops over columns and rows -/
theorem hdX0_goAcross : yX0_goAcross.cls ≠ "java/lang/invoke/MethodHandle" ∧ yX0_goAcross.cls ≠ "java/lang/invoke/VarHandle" ∧ (parseMethodDescriptor yX0_goAcross.desc).map (fun d => d.parameters.length) = some 0 := by decide +kernel
noncomputable def LX0_goAcross (n : Nat) (n0 : Int32) (i0 : Int32) (b : Ba) : Option (Ba) := match n with
  | 0 => none
  | n + 1 =>
    if n0 ≤ i0 then some b
    else (if (b.1 + (fJ6_signum b.2.2.2.1)) < 0 then LX0_goAcross n n0 (i0 + 1) (b.1, b.2.1, b.2.2.1, (-b.2.2.2.1), b.2.2.2.2.1, b.2.2.2.2.2.1, b.2.2.2.2.2.2.1, b.2.2.2.2.2.2.2.1, (b.2.2.2.2.2.2.2.2.1 + 1), b.2.2.2.2.2.2.2.2.2)
      else (if 12 ≤ (b.1 + (fJ6_signum b.2.2.2.1)) then LX0_goAcross n n0 (i0 + 1) (b.1, b.2.1, b.2.2.1, (-b.2.2.2.1), b.2.2.2.2.1, b.2.2.2.2.2.1, b.2.2.2.2.2.2.1, b.2.2.2.2.2.2.2.1, (b.2.2.2.2.2.2.2.2.1 + 1), b.2.2.2.2.2.2.2.2.2)
        else (if (fX0_isButtress (b.1 + (fJ6_signum b.2.2.2.1)) b.2.1) = 0 then LX0_goAcross n n0 (i0 + 1) ((b.1 + (fJ6_signum b.2.2.2.1)), b.2)
          else LX0_goAcross n n0 (i0 + 1) (b.1, b.2.1, b.2.2.1, (-b.2.2.2.1), b.2.2.2.2.1, b.2.2.2.2.2.1, b.2.2.2.2.2.2.1, b.2.2.2.2.2.2.2.1, (b.2.2.2.2.2.2.2.2.1 + 1), b.2.2.2.2.2.2.2.2.2))))
set_option maxHeartbeats 4000000 in
set_option maxRecDepth 100000 in
theorem lX0_goAcross {p : Program} {e : Env} {s : State} {m : MethodId} {args : Array Value} {below : List Frame} {meth : Method} {c : Code} {A : Nat → Prop} (l : Launch) {D : va_G} {cI cJ : ClassId} (h : Nat)  (C : kCx p s m args meth c RX0 cX0_goAcross 4 none D cI cJ A) : ∀ (n : Nat), ∀ (n0 : Int32) (i0 : Int32) (b : Ba) (res : Ba), LX0_goAcross n n0 i0 b = some res → kW p l e { frames := 1, cells := 0, slots := 0, locals := 21 } s m args below meth c D A 4 0 0 (MQ below (va_Qv (fun _ : Unit => True) (fun _ t => va_P D kCl [(h, cB res)] t.heap) A) args s 0 0 A) [(h, cB b)] 10 [(0, .ref h), (1, .int n0), (2, .int i0)] [] := by
  intro n
  induction n with
  | zero => intro n0 i0 b res hr; exact absurd hr (fun h => nomatch h)
  | succ n ih =>
    intro n0 i0 b res hr
    refine k_iload_n C dX0_goAcross_10 2 rfl ?_
    refine k_iload_n C dX0_goAcross_11 1 rfl ?_
    refine k_icmp_ge C 82 (by decide) dX0_goAcross_12 (fun c1 => ?_) (fun c1 => ?_)
    ·
      have hL : LX0_goAcross (n + 1) n0 i0 b = some b := by exact (if_pos c1).trans rfl
      obtain rfl := Option.some.inj (hL.symm.trans hr)
      exact k_vret C rfl rfl dX0_goAcross_82
    ·
      refine k_aload_n C dX0_goAcross_15 0 rfl ?_
      refine k_getX0 C 0 0 rfl (by decide) rfl q85 rfl dX0_goAcross_16 ?_
      refine k_aload_n C dX0_goAcross_19 0 rfl ?_
      refine k_getX0 C 0 3 rfl (by decide) rfl q88 rfl dX0_goAcross_20 ?_
      refine k_callS_i C (mJ6_signum l D cI cJ b.2.2.2.1) (va_cwS 1 C.2.2.2.2.1 (kGS q327 q328 q46 q329) rfl rfl rfl hdJ6_signum_0f7a4 ⟨Nat.le_of_ble_eq_true rfl, Nat.le_of_ble_eq_true rfl⟩) [] [0] [0] [(h, cB b)] ([(h, cB b)]) rfl rfl rfl rfl (by decide) [] rfl rfl rfl rfl (Nat.le_of_ble_eq_true rfl) ⟨Nat.zero_le _, Nat.zero_le _⟩ rfl dX0_goAcross_23 ?_
      generalize er2 : fJ6_signum b.2.2.2.1 = r2
      refine k_iadd C dX0_goAcross_26 ?_
      refine k_istore_n C [(3, .int (b.1 + r2)), (0, .ref h), (1, .int n0), (2, .int i0)] (by decide) rfl dX0_goAcross_27 ?_
      refine k_iload_n C dX0_goAcross_28 0 rfl ?_
      refine k_if_lt C 49 (by decide) dX0_goAcross_29 (fun c3 => ?_) (fun c3 => ?_)
      ·
        refine k_aload_n C dX0_goAcross_49 1 rfl ?_
        refine k_aload_n C dX0_goAcross_50 1 rfl ?_
        refine k_getX0 C 0 3 rfl (by decide) rfl q88 rfl dX0_goAcross_51 ?_
        refine k_ineg C dX0_goAcross_54 ?_
        refine k_putX0 C [(h, cB (b.1, b.2.1, b.2.2.1, (-b.2.2.2.1), b.2.2.2.2))] 0 3 rfl rfl (by decide) q88 rfl rfl fdI rfl rfl (Nat.le_of_ble_eq_true rfl) dX0_goAcross_55 ?_
        refine k_aload_n C dX0_goAcross_58 1 rfl ?_
        refine k_dup C rfl dX0_goAcross_59 ?_
        refine k_getX0 C 0 8 rfl (by decide) rfl q94 rfl dX0_goAcross_60 ?_
        refine k_iconst C 1 (by decide) dX0_goAcross_63 ?_
        refine k_iadd C dX0_goAcross_64 ?_
        refine k_putX0 C [(h, cB (b.1, b.2.1, b.2.2.1, (-b.2.2.2.1), b.2.2.2.2.1, b.2.2.2.2.2.1, b.2.2.2.2.2.2.1, b.2.2.2.2.2.2.2.1, (b.2.2.2.2.2.2.2.2.1 + 1), b.2.2.2.2.2.2.2.2.2))] 0 8 rfl rfl (by decide) q94 rfl rfl fdI rfl rfl (Nat.le_of_ble_eq_true rfl) dX0_goAcross_65 ?_
        refine k_goto C 76 (by decide) dX0_goAcross_68 ?_
        refine k_iinc C (i0 + 1) [(2, .int (i0 + 1)), (3, .int (b.1 + r2)), (0, .ref h), (1, .int n0)] 3 rfl rfl (by decide) rfl dX0_goAcross_76 ?_
        refine k_goto C 10 (by decide) dX0_goAcross_79 ?_
        have hL : LX0_goAcross (n + 1) n0 i0 b = LX0_goAcross n n0 (i0 + 1) (b.1, b.2.1, b.2.2.1, (-b.2.2.2.1), b.2.2.2.2.1, b.2.2.2.2.2.1, b.2.2.2.2.2.2.1, b.2.2.2.2.2.2.2.1, (b.2.2.2.2.2.2.2.2.1 + 1), b.2.2.2.2.2.2.2.2.2) := by subst er2; exact (if_neg c1).trans ((if_pos c3).trans rfl)
        refine k_sub [2, 3, 0] rfl ?_
        exact ih n0 (i0 + 1) (b.1, b.2.1, b.2.2.1, (-b.2.2.2.1), b.2.2.2.2.1, b.2.2.2.2.2.1, b.2.2.2.2.2.2.1, b.2.2.2.2.2.2.2.1, (b.2.2.2.2.2.2.2.2.1 + 1), b.2.2.2.2.2.2.2.2.2) res (hL.symm.trans hr)
      ·
        refine k_iload_n C dX0_goAcross_32 0 rfl ?_
        refine k_bipush C 12 (by decide) dX0_goAcross_33 ?_
        refine k_icmp_ge C 49 (by decide) dX0_goAcross_35 (fun c4 => ?_) (fun c4 => ?_)
        ·
          refine k_aload_n C dX0_goAcross_49 1 rfl ?_
          refine k_aload_n C dX0_goAcross_50 1 rfl ?_
          refine k_getX0 C 0 3 rfl (by decide) rfl q88 rfl dX0_goAcross_51 ?_
          refine k_ineg C dX0_goAcross_54 ?_
          refine k_putX0 C [(h, cB (b.1, b.2.1, b.2.2.1, (-b.2.2.2.1), b.2.2.2.2))] 0 3 rfl rfl (by decide) q88 rfl rfl fdI rfl rfl (Nat.le_of_ble_eq_true rfl) dX0_goAcross_55 ?_
          refine k_aload_n C dX0_goAcross_58 1 rfl ?_
          refine k_dup C rfl dX0_goAcross_59 ?_
          refine k_getX0 C 0 8 rfl (by decide) rfl q94 rfl dX0_goAcross_60 ?_
          refine k_iconst C 1 (by decide) dX0_goAcross_63 ?_
          refine k_iadd C dX0_goAcross_64 ?_
          refine k_putX0 C [(h, cB (b.1, b.2.1, b.2.2.1, (-b.2.2.2.1), b.2.2.2.2.1, b.2.2.2.2.2.1, b.2.2.2.2.2.2.1, b.2.2.2.2.2.2.2.1, (b.2.2.2.2.2.2.2.2.1 + 1), b.2.2.2.2.2.2.2.2.2))] 0 8 rfl rfl (by decide) q94 rfl rfl fdI rfl rfl (Nat.le_of_ble_eq_true rfl) dX0_goAcross_65 ?_
          refine k_goto C 76 (by decide) dX0_goAcross_68 ?_
          refine k_iinc C (i0 + 1) [(2, .int (i0 + 1)), (3, .int (b.1 + r2)), (0, .ref h), (1, .int n0)] 3 rfl rfl (by decide) rfl dX0_goAcross_76 ?_
          refine k_goto C 10 (by decide) dX0_goAcross_79 ?_
          have hL : LX0_goAcross (n + 1) n0 i0 b = LX0_goAcross n n0 (i0 + 1) (b.1, b.2.1, b.2.2.1, (-b.2.2.2.1), b.2.2.2.2.1, b.2.2.2.2.2.1, b.2.2.2.2.2.2.1, b.2.2.2.2.2.2.2.1, (b.2.2.2.2.2.2.2.2.1 + 1), b.2.2.2.2.2.2.2.2.2) := by subst er2; exact (if_neg c1).trans ((if_neg c3).trans ((if_pos c4).trans rfl))
          refine k_sub [2, 3, 0] rfl ?_
          exact ih n0 (i0 + 1) (b.1, b.2.1, b.2.2.1, (-b.2.2.2.1), b.2.2.2.2.1, b.2.2.2.2.2.1, b.2.2.2.2.2.2.1, b.2.2.2.2.2.2.2.1, (b.2.2.2.2.2.2.2.2.1 + 1), b.2.2.2.2.2.2.2.2.2) res (hL.symm.trans hr)
        ·
          refine k_iload_n C dX0_goAcross_38 0 rfl ?_
          refine k_aload_n C dX0_goAcross_39 1 rfl ?_
          refine k_getX0 C 0 1 rfl (by decide) rfl q86 rfl dX0_goAcross_40 ?_
          refine k_callS_i C (mX0_isButtress l D cI cJ (b.1 + r2) b.2.1) (va_cwS 2 C.2.2.2.2.1 (kGS q330 q331 q37 q332) rfl rfl rfl hdX0_isButtress ⟨Nat.le_of_ble_eq_true rfl, Nat.le_of_ble_eq_true rfl⟩) [] [0] [0] [(h, cB b)] ([(h, cB b)]) rfl rfl rfl rfl (by decide) [] rfl rfl rfl rfl (Nat.le_of_ble_eq_true rfl) ⟨Nat.zero_le _, Nat.zero_le _⟩ rfl dX0_goAcross_43 ?_
          generalize er5 : fX0_isButtress (b.1 + r2) b.2.1 = r5
          refine k_if_eq C 71 (by decide) dX0_goAcross_46 (fun c6 => ?_) (fun c6 => ?_)
          ·
            refine k_aload_n C dX0_goAcross_71 1 rfl ?_
            refine k_iload_n C dX0_goAcross_72 0 rfl ?_
            refine k_putX0 C [(h, cB ((b.1 + r2), b.2))] 0 0 rfl rfl (by decide) q85 rfl rfl fdI rfl rfl (Nat.le_of_ble_eq_true rfl) dX0_goAcross_73 ?_
            refine k_iinc C (i0 + 1) [(2, .int (i0 + 1)), (3, .int (b.1 + r2)), (0, .ref h), (1, .int n0)] 3 rfl rfl (by decide) rfl dX0_goAcross_76 ?_
            refine k_goto C 10 (by decide) dX0_goAcross_79 ?_
            have hL : LX0_goAcross (n + 1) n0 i0 b = LX0_goAcross n n0 (i0 + 1) ((b.1 + r2), b.2) := by subst er5; subst er2; exact (if_neg c1).trans ((if_neg c3).trans ((if_neg c4).trans ((if_pos c6).trans rfl)))
            refine k_sub [2, 3, 0] rfl ?_
            exact ih n0 (i0 + 1) ((b.1 + r2), b.2) res (hL.symm.trans hr)
          ·
            refine k_aload_n C dX0_goAcross_49 1 rfl ?_
            refine k_aload_n C dX0_goAcross_50 1 rfl ?_
            refine k_getX0 C 0 3 rfl (by decide) rfl q88 rfl dX0_goAcross_51 ?_
            refine k_ineg C dX0_goAcross_54 ?_
            refine k_putX0 C [(h, cB (b.1, b.2.1, b.2.2.1, (-b.2.2.2.1), b.2.2.2.2))] 0 3 rfl rfl (by decide) q88 rfl rfl fdI rfl rfl (Nat.le_of_ble_eq_true rfl) dX0_goAcross_55 ?_
            refine k_aload_n C dX0_goAcross_58 1 rfl ?_
            refine k_dup C rfl dX0_goAcross_59 ?_
            refine k_getX0 C 0 8 rfl (by decide) rfl q94 rfl dX0_goAcross_60 ?_
            refine k_iconst C 1 (by decide) dX0_goAcross_63 ?_
            refine k_iadd C dX0_goAcross_64 ?_
            refine k_putX0 C [(h, cB (b.1, b.2.1, b.2.2.1, (-b.2.2.2.1), b.2.2.2.2.1, b.2.2.2.2.2.1, b.2.2.2.2.2.2.1, b.2.2.2.2.2.2.2.1, (b.2.2.2.2.2.2.2.2.1 + 1), b.2.2.2.2.2.2.2.2.2))] 0 8 rfl rfl (by decide) q94 rfl rfl fdI rfl rfl (Nat.le_of_ble_eq_true rfl) dX0_goAcross_65 ?_
            refine k_goto C 76 (by decide) dX0_goAcross_68 ?_
            refine k_iinc C (i0 + 1) [(2, .int (i0 + 1)), (3, .int (b.1 + r2)), (0, .ref h), (1, .int n0)] 3 rfl rfl (by decide) rfl dX0_goAcross_76 ?_
            refine k_goto C 10 (by decide) dX0_goAcross_79 ?_
            have hL : LX0_goAcross (n + 1) n0 i0 b = LX0_goAcross n n0 (i0 + 1) (b.1, b.2.1, b.2.2.1, (-b.2.2.2.1), b.2.2.2.2.1, b.2.2.2.2.2.1, b.2.2.2.2.2.2.1, b.2.2.2.2.2.2.2.1, (b.2.2.2.2.2.2.2.2.1 + 1), b.2.2.2.2.2.2.2.2.2) := by subst er5; subst er2; exact (if_neg c1).trans ((if_neg c3).trans ((if_neg c4).trans ((if_neg c6).trans rfl)))
            refine k_sub [2, 3, 0] rfl ?_
            exact ih n0 (i0 + 1) (b.1, b.2.1, b.2.2.1, (-b.2.2.2.1), b.2.2.2.2.1, b.2.2.2.2.2.1, b.2.2.2.2.2.2.1, b.2.2.2.2.2.2.2.1, (b.2.2.2.2.2.2.2.2.1 + 1), b.2.2.2.2.2.2.2.2.2) res (hL.symm.trans hr)
noncomputable def FX0_goAcross (b : Ba) : Option (Ba) :=
  LX0_goAcross 2147483649 (if 0 ≤ b.2.2.2.1 then b.2.2.2.1 else 0 - b.2.2.2.1) 0 b
set_option maxHeartbeats 4000000 in
set_option maxRecDepth 100000 in
theorem moX0_goAcross (l : Launch) (D : va_G) (cI cJ : ClassId) (h : Nat)  (b : Ba) (res : Ba) (hr : FX0_goAcross b = some res) : kCv l D cI cJ yX0_goAcross (.code yX0_goAcross cX0_goAcross 4 none) { frames := 1, cells := 0, slots := 0, locals := 21 } [.ref h] [(h, cB b)] [(h, cB res)] := by
  refine fun sz => k_of (lv := [(0, .ref h)]) (by decide) sz (Nat.le_of_ble_eq_true rfl) rfl ?_
  intro p e s m args below meth c hsz C
  refine k_aload_n C dX0_goAcross_0 0 rfl ?_
  refine k_getX0 C 0 3 rfl (by decide) rfl q88 rfl dX0_goAcross_1 ?_
  refine k_abs C q324 q325 q45 q326 (Nat.le_of_ble_eq_true rfl) (Nat.le_of_ble_eq_true rfl) (Nat.zero_le _) (Nat.zero_le _) dX0_goAcross_4 ?_
  refine k_istore_n C [(1, .int (if 0 ≤ b.2.2.2.1 then b.2.2.2.1 else 0 - b.2.2.2.1)), (0, .ref h)] (by decide) rfl dX0_goAcross_7 ?_
  refine k_iconst C 0 (by decide) dX0_goAcross_8 ?_
  refine k_istore_n C [(2, .int 0), (1, .int (if 0 ≤ b.2.2.2.1 then b.2.2.2.1 else 0 - b.2.2.2.1)), (0, .ref h)] (by decide) rfl dX0_goAcross_9 ?_
  have hL : FX0_goAcross b = LX0_goAcross 2147483649 (if 0 ≤ b.2.2.2.1 then b.2.2.2.1 else 0 - b.2.2.2.1) 0 b := by exact rfl
  refine k_sub [2, 1, 0] rfl ?_
  exact (lX0_goAcross l h C 2147483649) (if 0 ≤ b.2.2.2.1 then b.2.2.2.1 else 0 - b.2.2.2.1) 0 b res (hL.symm.trans hr)

theorem hdX0_goAlong : yX0_goAlong.cls ≠ "java/lang/invoke/MethodHandle" ∧ yX0_goAlong.cls ≠ "java/lang/invoke/VarHandle" ∧ (parseMethodDescriptor yX0_goAlong.desc).map (fun d => d.parameters.length) = some 0 := by decide +kernel
noncomputable def LX0_goAlong (n : Nat) (n0 : Int32) (i0 : Int32) (b : Ba) : Option (Ba) := match n with
  | 0 => none
  | n + 1 =>
    if n0 ≤ i0 then some b
    else (if b.2.2.2.2.2.2.2.2.2.2 = 0 then LX0_goAlong n n0 (i0 + 1) (fX0_goOneRow b)
      else some b)
set_option maxHeartbeats 4000000 in
set_option maxRecDepth 100000 in
theorem lX0_goAlong {p : Program} {e : Env} {s : State} {m : MethodId} {args : Array Value} {below : List Frame} {meth : Method} {c : Code} {A : Nat → Prop} (l : Launch) {D : va_G} {cI cJ : ClassId} (h : Nat)  (C : kCx p s m args meth c RX0 cX0_goAlong 3 none D cI cJ A) : ∀ (n : Nat), ∀ (n0 : Int32) (i0 : Int32) (b : Ba) (res : Ba), LX0_goAlong n n0 i0 b = some res → kW p l e { frames := 2, cells := 0, slots := 0, locals := 42 } s m args below meth c D A 3 0 0 (MQ below (va_Qv (fun _ : Unit => True) (fun _ t => va_P D kCl [(h, cB res)] t.heap) A) args s 0 0 A) [(h, cB b)] 10 [(0, .ref h), (1, .int n0), (2, .int i0)] [] := by
  intro n
  induction n with
  | zero => intro n0 i0 b res hr; exact absurd hr (fun h => nomatch h)
  | succ n ih =>
    intro n0 i0 b res hr
    refine k_iload_n C dX0_goAlong_10 2 rfl ?_
    refine k_iload_n C dX0_goAlong_11 1 rfl ?_
    refine k_icmp_ge C 32 (by decide) dX0_goAlong_12 (fun c1 => ?_) (fun c1 => ?_)
    ·
      have hL : LX0_goAlong (n + 1) n0 i0 b = some b := by exact (if_pos c1).trans rfl
      obtain rfl := Option.some.inj (hL.symm.trans hr)
      exact k_vret C rfl rfl dX0_goAlong_32
    ·
      refine k_aload_n C dX0_goAlong_15 0 rfl ?_
      refine k_getX0 C 0 10 rfl (by decide) rfl q97 rfl dX0_goAlong_16 ?_
      refine k_if_ne C 32 (by decide) dX0_goAlong_19 (fun c2 => ?_) (fun c2 => ?_)
      ·
        have hL : LX0_goAlong (n + 1) n0 i0 b = some b := by exact (if_neg c1).trans ((if_neg c2).trans rfl)
        obtain rfl := Option.some.inj (hL.symm.trans hr)
        exact k_vret C rfl rfl dX0_goAlong_32
      ·
        refine k_aload_n C dX0_goAlong_22 0 rfl ?_
        refine k_callV_v C (mX0_goOneRow l D cI cJ h b) (cwV 0 C.2.2.2.2.1 (kGV q337 q339 q13 q37 q340) rfl rfl rfl ⟨rfl, hdX0_goOneRow⟩ ⟨Nat.le_of_ble_eq_true rfl, Nat.le_of_ble_eq_true rfl⟩) [0] [] [0] [] ([(h, cB (fX0_goOneRow b))]) rfl rfl rfl rfl (by decide) [h] rfl rfl rfl rfl 0 0 rfl rfl rfl (Nat.le_of_ble_eq_true rfl) ⟨Nat.zero_le _, Nat.zero_le _⟩ rfl dX0_goAlong_23 ?_
        generalize ezz3 : fX0_goOneRow b = zz3
        refine k_iinc C (i0 + 1) [(2, .int (i0 + 1)), (0, .ref h), (1, .int n0)] 2 rfl rfl (by decide) rfl dX0_goAlong_26 ?_
        refine k_goto C 10 (by decide) dX0_goAlong_29 ?_
        have hL : LX0_goAlong (n + 1) n0 i0 b = LX0_goAlong n n0 (i0 + 1) zz3 := by subst ezz3; exact (if_neg c1).trans ((if_pos c2).trans rfl)
        refine k_sub [1, 2, 0] rfl ?_
        exact ih n0 (i0 + 1) zz3 res (hL.symm.trans hr)
noncomputable def FX0_goAlong (b : Ba) : Option (Ba) :=
  LX0_goAlong 2147483649 (if 0 ≤ b.2.2.2.2.1 then b.2.2.2.2.1 else 0 - b.2.2.2.2.1) 0 b
set_option maxHeartbeats 4000000 in
set_option maxRecDepth 100000 in
theorem moX0_goAlong (l : Launch) (D : va_G) (cI cJ : ClassId) (h : Nat)  (b : Ba) (res : Ba) (hr : FX0_goAlong b = some res) : kCv l D cI cJ yX0_goAlong (.code yX0_goAlong cX0_goAlong 3 none) { frames := 2, cells := 0, slots := 0, locals := 42 } [.ref h] [(h, cB b)] [(h, cB res)] := by
  refine fun sz => k_of (lv := [(0, .ref h)]) (by decide) sz (Nat.le_of_ble_eq_true rfl) rfl ?_
  intro p e s m args below meth c hsz C
  refine k_aload_n C dX0_goAlong_0 0 rfl ?_
  refine k_getX0 C 0 4 rfl (by decide) rfl q89 rfl dX0_goAlong_1 ?_
  refine k_abs C q324 q325 q45 q326 (Nat.le_of_ble_eq_true rfl) (Nat.le_of_ble_eq_true rfl) (Nat.zero_le _) (Nat.zero_le _) dX0_goAlong_4 ?_
  refine k_istore_n C [(1, .int (if 0 ≤ b.2.2.2.2.1 then b.2.2.2.2.1 else 0 - b.2.2.2.2.1)), (0, .ref h)] (by decide) rfl dX0_goAlong_7 ?_
  refine k_iconst C 0 (by decide) dX0_goAlong_8 ?_
  refine k_istore_n C [(2, .int 0), (1, .int (if 0 ≤ b.2.2.2.2.1 then b.2.2.2.2.1 else 0 - b.2.2.2.2.1)), (0, .ref h)] (by decide) rfl dX0_goAlong_9 ?_
  have hL : FX0_goAlong b = LX0_goAlong 2147483649 (if 0 ≤ b.2.2.2.2.1 then b.2.2.2.2.1 else 0 - b.2.2.2.2.1) 0 b := by exact rfl
  refine k_sub [2, 1, 0] rfl ?_
  exact (lX0_goAlong l h C 2147483649) (if 0 ≤ b.2.2.2.2.1 then b.2.2.2.2.1 else 0 - b.2.2.2.2.1) 0 b res (hL.symm.trans hr)
