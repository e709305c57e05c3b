/-! the court: its private methods -/
theorem hdX1_part : yX1_part.cls ≠ "java/lang/invoke/MethodHandle" ∧ yX1_part.cls ≠ "java/lang/invoke/VarHandle" ∧ (parseMethodDescriptor yX1_part.desc).map (fun d => d.parameters.length) = some 1 := by decide +kernel
set_option maxHeartbeats 4000000 in
set_option maxRecDepth 100000 in
theorem mX1_part_0 (l : Launch) (D : va_G) (cI cJ : ClassId) (h : Nat) (b : Sd)  : kCi l D cI cJ yX1_part (.code yX1_part cX1_part 2 (some .int)) { frames := 0, cells := 0, slots := 0, locals := 0 } [.ref h, .int 0] [(h, cS b)] (b.1) [(h, cS b)] := by
  refine fun sz => k_of (lv := [(0, .ref h), (1, .int 0)]) (by decide) sz (by exact Nat.le_of_ble_eq_true rfl) rfl ?_
  intro p e s m args below meth c hsz C
  refine k_iload_n C dX1_part_0 1 rfl ?_
  refine k_tabIn (off := 27) C 28 (by decide) (by decide) (by decide +kernel) (by decide) dX1_part_1 ?_
  refine k_aload_n C dX1_part_28 0 rfl ?_
  refine k_getX1 C 0 0 rfl (by decide) rfl q62 rfl dX1_part_29 ?_
  exact k_iret C rfl rfl rfl dX1_part_32

set_option maxHeartbeats 4000000 in
set_option maxRecDepth 100000 in
theorem mX1_part_1 (l : Launch) (D : va_G) (cI cJ : ClassId) (h : Nat) (b : Sd)  : kCi l D cI cJ yX1_part (.code yX1_part cX1_part 2 (some .int)) { frames := 0, cells := 0, slots := 0, locals := 0 } [.ref h, .int 1] [(h, cS b)] (b.2.1) [(h, cS b)] := by
  refine fun sz => k_of (lv := [(0, .ref h), (1, .int 1)]) (by decide) sz (by exact Nat.le_of_ble_eq_true rfl) rfl ?_
  intro p e s m args below meth c hsz C
  refine k_iload_n C dX1_part_0 1 rfl ?_
  refine k_tabIn (off := 32) C 33 (by decide) (by decide) (by decide +kernel) (by decide) dX1_part_1 ?_
  refine k_aload_n C dX1_part_33 0 rfl ?_
  refine k_getX1 C 0 1 rfl (by decide) rfl q64 rfl dX1_part_34 ?_
  exact k_iret C rfl rfl rfl dX1_part_37

set_option maxHeartbeats 4000000 in
set_option maxRecDepth 100000 in
theorem mX1_part_2 (l : Launch) (D : va_G) (cI cJ : ClassId) (h : Nat) (b : Sd)  : kCi l D cI cJ yX1_part (.code yX1_part cX1_part 2 (some .int)) { frames := 0, cells := 0, slots := 0, locals := 0 } [.ref h, .int 2] [(h, cS b)] (b.2.2.1) [(h, cS b)] := by
  refine fun sz => k_of (lv := [(0, .ref h), (1, .int 2)]) (by decide) sz (by exact Nat.le_of_ble_eq_true rfl) rfl ?_
  intro p e s m args below meth c hsz C
  refine k_iload_n C dX1_part_0 1 rfl ?_
  refine k_tabIn (off := 37) C 38 (by decide) (by decide) (by decide +kernel) (by decide) dX1_part_1 ?_
  refine k_aload_n C dX1_part_38 0 rfl ?_
  refine k_getX1 C 0 2 rfl (by decide) rfl q66 rfl dX1_part_39 ?_
  exact k_iret C rfl rfl rfl dX1_part_42

set_option maxHeartbeats 4000000 in
set_option maxRecDepth 100000 in
theorem mX1_part_3 (l : Launch) (D : va_G) (cI cJ : ClassId) (h : Nat) (b : Sd)  : kCi l D cI cJ yX1_part (.code yX1_part cX1_part 2 (some .int)) { frames := 0, cells := 0, slots := 0, locals := 0 } [.ref h, .int 3] [(h, cS b)] (b.2.2.2) [(h, cS b)] := by
  refine fun sz => k_of (lv := [(0, .ref h), (1, .int 3)]) (by decide) sz (by exact Nat.le_of_ble_eq_true rfl) rfl ?_
  intro p e s m args below meth c hsz C
  refine k_iload_n C dX1_part_0 1 rfl ?_
  refine k_tabOut C 43 (by decide) (by decide) dX1_part_1 ?_
  refine k_aload_n C dX1_part_43 0 rfl ?_
  refine k_getX1 C 0 3 rfl (by decide) rfl q68 rfl dX1_part_44 ?_
  exact k_iret C rfl rfl rfl dX1_part_47

theorem hdX1_beginMatch : yX1_beginMatch.cls ≠ "java/lang/invoke/MethodHandle" ∧ yX1_beginMatch.cls ≠ "java/lang/invoke/VarHandle" ∧ (parseMethodDescriptor yX1_beginMatch.desc).map (fun d => d.parameters.length) = some 0 := by decide +kernel
noncomputable def fX1_beginMatch (b : Sd) : Sd :=
  (b.1, 0, 0, 0)
set_option maxHeartbeats 4000000 in
set_option maxRecDepth 100000 in
theorem mX1_beginMatch (l : Launch) (D : va_G) (cI cJ : ClassId) (h : Nat) (b : Sd)  : kCv l D cI cJ yX1_beginMatch (.code yX1_beginMatch cX1_beginMatch 1 none) { frames := 0, cells := 0, slots := 0, locals := 0 } [.ref h] [(h, cS b)] [(h, cS (fX1_beginMatch b))] := by
  refine fun sz => k_of (lv := [(0, .ref h)]) (by decide) sz (by exact Nat.le_of_ble_eq_true rfl) rfl ?_
  intro p e s m args below meth c hsz C
  refine k_aload_n C dX1_beginMatch_0 0 rfl ?_
  refine k_iconst C 0 (by decide) dX1_beginMatch_1 ?_
  refine k_putX1 C [(h, cS (b.1, 0, b.2.2))] 0 1 rfl rfl (by decide) q64 rfl rfl fdI rfl rfl (Nat.le_of_ble_eq_true rfl) dX1_beginMatch_2 ?_
  refine k_aload_n C dX1_beginMatch_5 0 rfl ?_
  refine k_iconst C 0 (by decide) dX1_beginMatch_6 ?_
  refine k_putX1 C [(h, cS (b.1, 0, 0, b.2.2.2))] 0 2 rfl rfl (by decide) q66 rfl rfl fdI rfl rfl (Nat.le_of_ble_eq_true rfl) dX1_beginMatch_7 ?_
  refine k_aload_n C dX1_beginMatch_10 0 rfl ?_
  refine k_iconst C 0 (by decide) dX1_beginMatch_11 ?_
  refine k_putX1 C [(h, cS (b.1, 0, 0, 0))] 0 3 rfl rfl (by decide) q68 rfl rfl fdI rfl rfl (Nat.le_of_ble_eq_true rfl) dX1_beginMatch_12 ?_
  have hL : fX1_beginMatch b = (b.1, 0, 0, 0) := by exact rfl
  exact k_vret C rfl (by rw [hL]) dX1_beginMatch_15

theorem hdX2_isWay : yX2_isWay.cls ≠ "java/lang/invoke/MethodHandle" ∧ yX2_isWay.cls ≠ "java/lang/invoke/VarHandle" ∧ (parseMethodDescriptor yX2_isWay.desc).map (fun d => d.parameters.length) = some 1 := by decide +kernel
noncomputable def fX2_isWay (p0 : Int32) : Int32 :=
  if p0 < (-2) then 0
  else (if 2 < p0 then 0
    else 1)
set_option maxHeartbeats 4000000 in
set_option maxRecDepth 100000 in
theorem mX2_isWay (l : Launch) (D : va_G) (cI cJ : ClassId) (p0 : Int32)  : kCi l D cI cJ yX2_isWay (.code yX2_isWay cX2_isWay 1 (some .boolean)) { frames := 0, cells := 0, slots := 0, locals := 0 } [.int p0] [] (fX2_isWay p0) [] := by
  refine fun sz => k_of (lv := [(0, .int p0)]) (by decide) sz (by exact Nat.le_of_ble_eq_true rfl) rfl ?_
  intro p e s m args below meth c hsz C
  refine k_iload_n C dX2_isWay_0 0 rfl ?_
  refine k_bipush C (-2) (by decide) dX2_isWay_1 ?_
  refine k_icmp_lt C 15 (by decide) dX2_isWay_3 (fun c1 => ?_) (fun c1 => ?_)
  ·
    refine k_iconst C 0 (by decide) dX2_isWay_15 ?_
    have hL : fX2_isWay p0 = 0 := by exact (if_pos c1).trans rfl
    exact k_zret C rfl rfl (hL.symm) rfl dX2_isWay_16
  ·
    refine k_iload_n C dX2_isWay_6 0 rfl ?_
    refine k_iconst C 2 (by decide) dX2_isWay_7 ?_
    refine k_icmp_gt C 15 (by decide) dX2_isWay_8 (fun c2 => ?_) (fun c2 => ?_)
    ·
      refine k_iconst C 0 (by decide) dX2_isWay_15 ?_
      have hL : fX2_isWay p0 = 0 := by exact (if_neg c1).trans ((if_pos c2).trans rfl)
      exact k_zret C rfl rfl (hL.symm) rfl dX2_isWay_16
    ·
      refine k_iconst C 1 (by decide) dX2_isWay_11 ?_
      refine k_goto C 16 (by decide) dX2_isWay_12 ?_
      have hL : fX2_isWay p0 = 1 := by exact (if_neg c1).trans ((if_neg c2).trans rfl)
      exact k_zret C rfl rfl (hL.symm) rfl dX2_isWay_16

theorem hdX2_isStroke : yX2_isStroke.cls ≠ "java/lang/invoke/MethodHandle" ∧ yX2_isStroke.cls ≠ "java/lang/invoke/VarHandle" ∧ (parseMethodDescriptor yX2_isStroke.desc).map (fun d => d.parameters.length) = some 3 := by decide +kernel
noncomputable def fX2_isStroke (p0 : Int32) (p1 : Int32) (p2 : Int32) : Int32 :=
  if (fX2_isWay p0) = 0 then 0
  else (if (fX2_isWay p1) = 0 then 0
    else (if p2 < 0 then 0
      else (if 9 < p2 then 0
        else 1)))
set_option maxHeartbeats 4000000 in
set_option maxRecDepth 100000 in
theorem mX2_isStroke (l : Launch) (D : va_G) (cI cJ : ClassId) (p0 : Int32) (p1 : Int32) (p2 : Int32)  : kCi l D cI cJ yX2_isStroke (.code yX2_isStroke cX2_isStroke 3 (some .boolean)) { frames := 1, cells := 0, slots := 0, locals := 20 } [.int p0, .int p1, .int p2] [] (fX2_isStroke p0 p1 p2) [] := by
  refine fun sz => k_of (lv := [(0, .int p0), (1, .int p1), (2, .int p2)]) (by decide) sz (by exact Nat.le_of_ble_eq_true rfl) rfl ?_
  intro p e s m args below meth c hsz C
  refine k_iload_n C dX2_isStroke_0 0 rfl ?_
  refine k_callS_i C (mX2_isWay l D cI cJ p0) (va_cwS 1 C.2.2.2.2.1 (kGS q369 q370 q35 q371) rfl rfl rfl hdX2_isWay ⟨Nat.le_of_ble_eq_true rfl, Nat.le_of_ble_eq_true rfl⟩) [] [] [] [] ([]) rfl rfl rfl rfl (by decide) [] rfl rfl rfl rfl (Nat.le_of_ble_eq_true rfl) ⟨Nat.zero_le _, Nat.zero_le _⟩ rfl dX2_isStroke_1 ?_
  generalize er1 : fX2_isWay p0 = r1
  refine k_if_eq C 28 (by decide) dX2_isStroke_4 (fun c2 => ?_) (fun c2 => ?_)
  ·
    refine k_iconst C 0 (by decide) dX2_isStroke_28 ?_
    have hL : fX2_isStroke p0 p1 p2 = 0 := by subst er1; exact (if_pos c2).trans rfl
    exact k_zret C rfl rfl (hL.symm) rfl dX2_isStroke_29
  ·
    refine k_iload_n C dX2_isStroke_7 1 rfl ?_
    refine k_callS_i C (mX2_isWay l D cI cJ p1) (va_cwS 1 C.2.2.2.2.1 (kGS q369 q370 q35 q371) rfl rfl rfl hdX2_isWay ⟨Nat.le_of_ble_eq_true rfl, Nat.le_of_ble_eq_true rfl⟩) [] [] [] [] ([]) rfl rfl rfl rfl (by decide) [] rfl rfl rfl rfl (Nat.le_of_ble_eq_true rfl) ⟨Nat.zero_le _, Nat.zero_le _⟩ rfl dX2_isStroke_8 ?_
    generalize er3 : fX2_isWay p1 = r3
    refine k_if_eq C 28 (by decide) dX2_isStroke_11 (fun c4 => ?_) (fun c4 => ?_)
    ·
      refine k_iconst C 0 (by decide) dX2_isStroke_28 ?_
      have hL : fX2_isStroke p0 p1 p2 = 0 := by subst er3; subst er1; exact (if_neg c2).trans ((if_pos c4).trans rfl)
      exact k_zret C rfl rfl (hL.symm) rfl dX2_isStroke_29
    ·
      refine k_iload_n C dX2_isStroke_14 2 rfl ?_
      refine k_if_lt C 28 (by decide) dX2_isStroke_15 (fun c5 => ?_) (fun c5 => ?_)
      ·
        refine k_iconst C 0 (by decide) dX2_isStroke_28 ?_
        have hL : fX2_isStroke p0 p1 p2 = 0 := by subst er3; subst er1; exact (if_neg c2).trans ((if_neg c4).trans ((if_pos c5).trans rfl))
        exact k_zret C rfl rfl (hL.symm) rfl dX2_isStroke_29
      ·
        refine k_iload_n C dX2_isStroke_18 2 rfl ?_
        refine k_bipush C 9 (by decide) dX2_isStroke_19 ?_
        refine k_icmp_gt C 28 (by decide) dX2_isStroke_21 (fun c6 => ?_) (fun c6 => ?_)
        ·
          refine k_iconst C 0 (by decide) dX2_isStroke_28 ?_
          have hL : fX2_isStroke p0 p1 p2 = 0 := by subst er3; subst er1; exact (if_neg c2).trans ((if_neg c4).trans ((if_neg c5).trans ((if_pos c6).trans rfl)))
          exact k_zret C rfl rfl (hL.symm) rfl dX2_isStroke_29
        ·
          refine k_iconst C 1 (by decide) dX2_isStroke_24 ?_
          refine k_goto C 29 (by decide) dX2_isStroke_25 ?_
          have hL : fX2_isStroke p0 p1 p2 = 1 := by subst er3; subst er1; exact (if_neg c2).trans ((if_neg c4).trans ((if_neg c5).trans ((if_neg c6).trans rfl)))
          exact k_zret C rfl rfl (hL.symm) rfl dX2_isStroke_29

theorem hdX2_isSide : yX2_isSide.cls ≠ "java/lang/invoke/MethodHandle" ∧ yX2_isSide.cls ≠ "java/lang/invoke/VarHandle" ∧ (parseMethodDescriptor yX2_isSide.desc).map (fun d => d.parameters.length) = some 1 := by decide +kernel
noncomputable def fX2_isSide (p0 : Int32) : Int32 :=
  if p0 = 0 then 1
  else (if p0 = 1 then 1
    else 0)
set_option maxHeartbeats 4000000 in
set_option maxRecDepth 100000 in
theorem mX2_isSide (l : Launch) (D : va_G) (cI cJ : ClassId) (p0 : Int32)  : kCi l D cI cJ yX2_isSide (.code yX2_isSide cX2_isSide 1 (some .boolean)) { frames := 0, cells := 0, slots := 0, locals := 0 } [.int p0] [] (fX2_isSide p0) [] := by
  refine fun sz => k_of (lv := [(0, .int p0)]) (by decide) sz (by exact Nat.le_of_ble_eq_true rfl) rfl ?_
  intro p e s m args below meth c hsz C
  refine k_iload_n C dX2_isSide_0 0 rfl ?_
  refine k_if_eq C 9 (by decide) dX2_isSide_1 (fun c1 => ?_) (fun c1 => ?_)
  ·
    refine k_iconst C 1 (by decide) dX2_isSide_9 ?_
    refine k_goto C 14 (by decide) dX2_isSide_10 ?_
    have hL : fX2_isSide p0 = 1 := by exact (if_pos c1).trans rfl
    exact k_zret C rfl rfl (hL.symm) rfl dX2_isSide_14
  ·
    refine k_iload_n C dX2_isSide_4 0 rfl ?_
    refine k_iconst C 1 (by decide) dX2_isSide_5 ?_
    refine k_icmp_ne C 13 (by decide) dX2_isSide_6 (fun c2 => ?_) (fun c2 => ?_)
    ·
      refine k_iconst C 0 (by decide) dX2_isSide_13 ?_
      have hL : fX2_isSide p0 = 0 := by exact (if_neg c1).trans ((if_neg c2).trans rfl)
      exact k_zret C rfl rfl (hL.symm) rfl dX2_isSide_14
    ·
      refine k_iconst C 1 (by decide) dX2_isSide_9 ?_
      refine k_goto C 14 (by decide) dX2_isSide_10 ?_
      have hL : fX2_isSide p0 = 1 := by exact (if_neg c1).trans ((if_pos c2).trans rfl)
      exact k_zret C rfl rfl (hL.symm) rfl dX2_isSide_14

theorem hdX2_isLookAhead : yX2_isLookAhead.cls ≠ "java/lang/invoke/MethodHandle" ∧ yX2_isLookAhead.cls ≠ "java/lang/invoke/VarHandle" ∧ (parseMethodDescriptor yX2_isLookAhead.desc).map (fun d => d.parameters.length) = some 1 := by decide +kernel
noncomputable def fX2_isLookAhead (p0 : Int32) : Int32 :=
  if p0 < 0 then 0
  else (if 60 < p0 then 0
    else 1)
set_option maxHeartbeats 4000000 in
set_option maxRecDepth 100000 in
theorem mX2_isLookAhead (l : Launch) (D : va_G) (cI cJ : ClassId) (p0 : Int32)  : kCi l D cI cJ yX2_isLookAhead (.code yX2_isLookAhead cX2_isLookAhead 1 (some .boolean)) { frames := 0, cells := 0, slots := 0, locals := 0 } [.int p0] [] (fX2_isLookAhead p0) [] := by
  refine fun sz => k_of (lv := [(0, .int p0)]) (by decide) sz (by exact Nat.le_of_ble_eq_true rfl) rfl ?_
  intro p e s m args below meth c hsz C
  refine k_iload_n C dX2_isLookAhead_0 0 rfl ?_
  refine k_if_lt C 14 (by decide) dX2_isLookAhead_1 (fun c1 => ?_) (fun c1 => ?_)
  ·
    refine k_iconst C 0 (by decide) dX2_isLookAhead_14 ?_
    have hL : fX2_isLookAhead p0 = 0 := by exact (if_pos c1).trans rfl
    exact k_zret C rfl rfl (hL.symm) rfl dX2_isLookAhead_15
  ·
    refine k_iload_n C dX2_isLookAhead_4 0 rfl ?_
    refine k_bipush C 60 (by decide) dX2_isLookAhead_5 ?_
    refine k_icmp_gt C 14 (by decide) dX2_isLookAhead_7 (fun c2 => ?_) (fun c2 => ?_)
    ·
      refine k_iconst C 0 (by decide) dX2_isLookAhead_14 ?_
      have hL : fX2_isLookAhead p0 = 0 := by exact (if_neg c1).trans ((if_pos c2).trans rfl)
      exact k_zret C rfl rfl (hL.symm) rfl dX2_isLookAhead_15
    ·
      refine k_iconst C 1 (by decide) dX2_isLookAhead_10 ?_
      refine k_goto C 15 (by decide) dX2_isLookAhead_11 ?_
      have hL : fX2_isLookAhead p0 = 1 := by exact (if_neg c1).trans ((if_neg c2).trans rfl)
      exact k_zret C rfl rfl (hL.symm) rfl dX2_isLookAhead_15

theorem hdX2_otherSide : yX2_otherSide.cls ≠ "java/lang/invoke/MethodHandle" ∧ yX2_otherSide.cls ≠ "java/lang/invoke/VarHandle" ∧ (parseMethodDescriptor yX2_otherSide.desc).map (fun d => d.parameters.length) = some 1 := by decide +kernel
noncomputable def fX2_otherSide (p0 : Int32) : Int32 :=
  (1 - p0)
set_option maxHeartbeats 4000000 in
set_option maxRecDepth 100000 in
theorem mX2_otherSide (l : Launch) (D : va_G) (cI cJ : ClassId) (p0 : Int32)  : kCi l D cI cJ yX2_otherSide (.code yX2_otherSide cX2_otherSide 1 (some .int)) { frames := 0, cells := 0, slots := 0, locals := 0 } [.int p0] [] (fX2_otherSide p0) [] := by
  refine fun sz => k_of (lv := [(0, .int p0)]) (by decide) sz (by exact Nat.le_of_ble_eq_true rfl) rfl ?_
  intro p e s m args below meth c hsz C
  refine k_iconst C 1 (by decide) dX2_otherSide_0 ?_
  refine k_iload_n C dX2_otherSide_1 0 rfl ?_
  refine k_isub C dX2_otherSide_2 ?_
  have hL : fX2_otherSide p0 = (1 - p0) := by exact rfl
  exact k_iret C rfl (hL.symm) rfl dX2_otherSide_3

theorem hdX2_sideToStrike : yX2_sideToStrike.cls ≠ "java/lang/invoke/MethodHandle" ∧ yX2_sideToStrike.cls ≠ "java/lang/invoke/VarHandle" ∧ (parseMethodDescriptor yX2_sideToStrike.desc).map (fun d => d.parameters.length) = some 0 := by decide +kernel
noncomputable def fX2_sideToStrike (X : Co) : Int32 :=
  if (X.2.2.2.2.2.2.2.2.1 - X.2.2.2.2.2.2.2.2.1 / 2 * 2) = 0 then X.2.2.2.2.2.2.1
  else (fX2_otherSide X.2.2.2.2.2.2.1)
set_option maxHeartbeats 4000000 in
set_option maxRecDepth 100000 in
theorem mX2_sideToStrike (l : Launch) (D : va_G) (cI cJ : ClassId) (a0 a1 a2 a3 a4 a5 a6 : Nat) (X : Co)  : kCi l D cI cJ yX2_sideToStrike (.code yX2_sideToStrike cX2_sideToStrike 1 (some .int)) { frames := 1, cells := 0, slots := 0, locals := 20 } [.ref a0] (wC a0 a1 a2 a3 a4 a5 a6 X) (fX2_sideToStrike X) (wC a0 a1 a2 a3 a4 a5 a6 X) := by
  refine fun sz => k_of (lv := [(0, .ref a0)]) (by decide) sz (by exact Nat.le_of_ble_eq_true rfl) rfl ?_
  intro p e s m args below meth c hsz C
  refine k_aload_n C dX2_sideToStrike_0 0 rfl ?_
  refine k_getX2 C 0 8 rfl (by decide) rfl q130 rfl dX2_sideToStrike_1 ?_
  refine k_iconst C 2 (by decide) dX2_sideToStrike_4 ?_
  refine k_irem C (by decide) dX2_sideToStrike_5 ?_
  refine k_if_ne C 16 (by decide) dX2_sideToStrike_6 (fun c1 => ?_) (fun c1 => ?_)
  ·
    refine k_aload_n C dX2_sideToStrike_16 0 rfl ?_
    refine k_getX2 C 0 6 rfl (by decide) rfl q128 rfl dX2_sideToStrike_17 ?_
    refine k_callS_i C (mX2_otherSide l D cI cJ X.2.2.2.2.2.2.1) (va_cwS 1 C.2.2.2.2.1 (kGS q268 q269 q35 q270) rfl rfl rfl hdX2_otherSide ⟨Nat.le_of_ble_eq_true rfl, Nat.le_of_ble_eq_true rfl⟩) [] [0, 1, 2, 3, 4, 5, 6] [0, 1, 2, 3, 4, 5, 6] [(a0, cF a1 a2 a3 a4 a5 a6 X.2.2.2.2.2.2), (a1, cS X.1), (a2, cS X.2.1), (a3, cB X.2.2.1), (a4, cB X.2.2.2.1), (a5, cB X.2.2.2.2.1), (a6, cB X.2.2.2.2.2.1)] ([(a0, cF a1 a2 a3 a4 a5 a6 X.2.2.2.2.2.2), (a1, cS X.1), (a2, cS X.2.1), (a3, cB X.2.2.1), (a4, cB X.2.2.2.1), (a5, cB X.2.2.2.2.1), (a6, cB X.2.2.2.2.2.1)]) rfl rfl rfl rfl (by decide) [] rfl rfl rfl rfl (Nat.le_of_ble_eq_true rfl) ⟨Nat.zero_le _, Nat.zero_le _⟩ rfl dX2_sideToStrike_20 ?_
    generalize er2 : fX2_otherSide X.2.2.2.2.2.2.1 = r2
    have hL : fX2_sideToStrike X = r2 := by subst er2; exact (if_neg c1).trans rfl
    exact k_iret C rfl (hL.symm) rfl dX2_sideToStrike_23
  ·
    refine k_aload_n C dX2_sideToStrike_9 0 rfl ?_
    refine k_getX2 C 0 6 rfl (by decide) rfl q128 rfl dX2_sideToStrike_10 ?_
    refine k_goto C 23 (by decide) dX2_sideToStrike_13 ?_
    have hL : fX2_sideToStrike X = X.2.2.2.2.2.2.1 := by exact (if_pos c1).trans rfl
    exact k_iret C rfl (hL.symm) rfl dX2_sideToStrike_23

theorem hdX2_winnerByFlight : yX2_winnerByFlight.cls ≠ "java/lang/invoke/MethodHandle" ∧ yX2_winnerByFlight.cls ≠ "java/lang/invoke/VarHandle" ∧ (parseMethodDescriptor yX2_winnerByFlight.desc).map (fun d => d.parameters.length) = some 0 := by decide +kernel
noncomputable def fX2_winnerByFlight (X : Co) : Int32 :=
  if X.2.2.2.1.2.2.2.2.2.2.2.2.2.2 = 3 then (fX2_otherSide (fX2_sideToStrike X))
  else (fX2_sideToStrike X)
set_option maxHeartbeats 4000000 in
set_option maxRecDepth 100000 in
theorem mX2_winnerByFlight (l : Launch) (D : va_G) (cI cJ : ClassId) (a0 a1 a2 a3 a4 a5 a6 : Nat) (X : Co)  : kCi l D cI cJ yX2_winnerByFlight (.code yX2_winnerByFlight cX2_winnerByFlight 2 (some .int)) { frames := 2, cells := 0, slots := 0, locals := 40 } [.ref a0] (wC a0 a1 a2 a3 a4 a5 a6 X) (fX2_winnerByFlight X) (wC a0 a1 a2 a3 a4 a5 a6 X) := by
  refine fun sz => k_of (lv := [(0, .ref a0)]) (by decide) sz (by exact Nat.le_of_ble_eq_true rfl) rfl ?_
  intro p e s m args below meth c hsz C
  refine k_aload_n C dX2_winnerByFlight_0 0 rfl ?_
  refine k_callV_i C (mX2_sideToStrike l D cI cJ a0 a1 a2 a3 a4 a5 a6 X) (cwV 0 C.2.2.2.2.1 (kGV q264 q266 q4 q35 q267) rfl rfl rfl ⟨rfl, hdX2_sideToStrike⟩ ⟨Nat.le_of_ble_eq_true rfl, Nat.le_of_ble_eq_true rfl⟩) [0, 1, 2, 3, 4, 5, 6] [] [0, 1, 2, 3, 4, 5, 6] [] ([(a0, cF a1 a2 a3 a4 a5 a6 X.2.2.2.2.2.2), (a1, cS X.1), (a2, cS X.2.1), (a3, cB X.2.2.1), (a4, cB X.2.2.2.1), (a5, cB X.2.2.2.2.1), (a6, cB X.2.2.2.2.2.1)]) rfl rfl rfl rfl (by decide) [a0, a1, a2, a3, a4, a5, a6] rfl rfl rfl rfl 0 2 rfl rfl rfl (Nat.le_of_ble_eq_true rfl) ⟨Nat.zero_le _, Nat.zero_le _⟩ rfl dX2_winnerByFlight_1 ?_
  generalize er1 : fX2_sideToStrike X = r1
  refine k_istore_n C [(1, .int r1), (0, .ref a0)] (by decide) rfl dX2_winnerByFlight_4 ?_
  refine k_aload_n C dX2_winnerByFlight_5 1 rfl ?_
  refine k_getX2 C 0 3 rfl (by decide) rfl q125 rfl dX2_winnerByFlight_6 ?_
  refine k_getNX0 C 4 10 rfl (by decide) rfl qn6 rfl dX2_winnerByFlight_9 ?_
  refine k_iconst C 3 (by decide) dX2_winnerByFlight_12 ?_
  refine k_icmp_ne C 23 (by decide) dX2_winnerByFlight_13 (fun c2 => ?_) (fun c2 => ?_)
  ·
    refine k_iload_n C dX2_winnerByFlight_23 0 rfl ?_
    have hL : fX2_winnerByFlight X = r1 := by subst er1; exact (if_neg c2).trans rfl
    exact k_iret C rfl (hL.symm) rfl dX2_winnerByFlight_24
  ·
    refine k_iload_n C dX2_winnerByFlight_16 0 rfl ?_
    refine k_callS_i C (mX2_otherSide l D cI cJ r1) (va_cwS 1 C.2.2.2.2.1 (kGS q268 q269 q35 q270) rfl rfl rfl hdX2_otherSide ⟨Nat.le_of_ble_eq_true rfl, Nat.le_of_ble_eq_true rfl⟩) [] [0, 1, 2, 3, 4, 5, 6] [0, 1, 2, 3, 4, 5, 6] [(a0, cF a1 a2 a3 a4 a5 a6 X.2.2.2.2.2.2), (a1, cS X.1), (a2, cS X.2.1), (a3, cB X.2.2.1), (a4, cB X.2.2.2.1), (a5, cB X.2.2.2.2.1), (a6, cB X.2.2.2.2.2.1)] ([(a0, cF a1 a2 a3 a4 a5 a6 X.2.2.2.2.2.2), (a1, cS X.1), (a2, cS X.2.1), (a3, cB X.2.2.1), (a4, cB X.2.2.2.1), (a5, cB X.2.2.2.2.1), (a6, cB X.2.2.2.2.2.1)]) rfl rfl rfl rfl (by decide) [] rfl rfl rfl rfl (Nat.le_of_ble_eq_true rfl) ⟨Nat.zero_le _, Nat.zero_le _⟩ rfl dX2_winnerByFlight_17 ?_
    generalize er3 : fX2_otherSide r1 = r3
    refine k_goto C 24 (by decide) dX2_winnerByFlight_20 ?_
    have hL : fX2_winnerByFlight X = r3 := by subst er3; subst er1; exact (if_pos c2).trans rfl
    exact k_iret C rfl (hL.symm) rfl dX2_winnerByFlight_24

theorem hdX2_closeRally : yX2_closeRally.cls ≠ "java/lang/invoke/MethodHandle" ∧ yX2_closeRally.cls ≠ "java/lang/invoke/VarHandle" ∧ (parseMethodDescriptor yX2_closeRally.desc).map (fun d => d.parameters.length) = some 0 := by decide +kernel
noncomputable def fX2_closeRally (X : Co) : Co :=
  (X.1, X.2.1, X.2.2.1, X.2.2.2.1, X.2.2.2.2.1, X.2.2.2.2.2.1, X.2.2.2.2.2.2.1, 0, 0, X.2.2.2.2.2.2.2.2.2)
set_option maxHeartbeats 4000000 in
set_option maxRecDepth 100000 in
theorem mX2_closeRally (l : Launch) (D : va_G) (cI cJ : ClassId) (a0 a1 a2 a3 a4 a5 a6 : Nat) (X : Co)  : kCv l D cI cJ yX2_closeRally (.code yX2_closeRally cX2_closeRally 1 none) { frames := 0, cells := 0, slots := 0, locals := 0 } [.ref a0] (wC a0 a1 a2 a3 a4 a5 a6 X) (wC a0 a1 a2 a3 a4 a5 a6 (fX2_closeRally X)) := by
  refine fun sz => k_of (lv := [(0, .ref a0)]) (by decide) sz (by exact Nat.le_of_ble_eq_true rfl) rfl ?_
  intro p e s m args below meth c hsz C
  refine k_aload_n C dX2_closeRally_0 0 rfl ?_
  refine k_iconst C 0 (by decide) dX2_closeRally_1 ?_
  refine k_putX2 C [(a0, cF a1 a2 a3 a4 a5 a6 (X.2.2.2.2.2.2.1, 0, X.2.2.2.2.2.2.2.2)), (a1, cS X.1), (a2, cS X.2.1), (a3, cB X.2.2.1), (a4, cB X.2.2.2.1), (a5, cB X.2.2.2.2.1), (a6, cB X.2.2.2.2.2.1)] 0 7 rfl rfl (by decide) q129 rfl rfl fdZ rfl rfl (Nat.le_of_ble_eq_true rfl) dX2_closeRally_2 ?_
  refine k_aload_n C dX2_closeRally_5 0 rfl ?_
  refine k_iconst C 0 (by decide) dX2_closeRally_6 ?_
  refine k_putX2 C [(a0, cF a1 a2 a3 a4 a5 a6 (X.2.2.2.2.2.2.1, 0, 0, X.2.2.2.2.2.2.2.2.2)), (a1, cS X.1), (a2, cS X.2.1), (a3, cB X.2.2.1), (a4, cB X.2.2.2.1), (a5, cB X.2.2.2.2.1), (a6, cB X.2.2.2.2.2.1)] 0 8 rfl rfl (by decide) q130 rfl rfl fdI rfl rfl (Nat.le_of_ble_eq_true rfl) dX2_closeRally_7 ?_
  have hL : fX2_closeRally X = (X.1, X.2.1, X.2.2.1, X.2.2.2.1, X.2.2.2.2.1, X.2.2.2.2.2.1, X.2.2.2.2.2.2.1, 0, 0, X.2.2.2.2.2.2.2.2.2) := by exact rfl
  exact k_vret C rfl (by rw [hL]) dX2_closeRally_10

theorem hdX2_beginGame : yX2_beginGame.cls ≠ "java/lang/invoke/MethodHandle" ∧ yX2_beginGame.cls ≠ "java/lang/invoke/VarHandle" ∧ (parseMethodDescriptor yX2_beginGame.desc).map (fun d => d.parameters.length) = some 0 := by decide +kernel
noncomputable def fX2_beginGame (X : Co) : Co :=
  ((0, X.1.2), (0, X.2.1.2), X.2.2.1, X.2.2.2.1, X.2.2.2.2.1, X.2.2.2.2.2.1, X.2.2.2.2.2.2.1, X.2.2.2.2.2.2.2.1, X.2.2.2.2.2.2.2.2.1, 12, X.2.2.2.2.2.2.2.2.2.2)
set_option maxHeartbeats 4000000 in
set_option maxRecDepth 100000 in
theorem mX2_beginGame (l : Launch) (D : va_G) (cI cJ : ClassId) (a0 a1 a2 a3 a4 a5 a6 : Nat) (X : Co)  : kCv l D cI cJ yX2_beginGame (.code yX2_beginGame cX2_beginGame 1 none) { frames := 0, cells := 0, slots := 0, locals := 0 } [.ref a0] (wC a0 a1 a2 a3 a4 a5 a6 X) (wC a0 a1 a2 a3 a4 a5 a6 (fX2_beginGame X)) := by
  refine fun sz => k_of (lv := [(0, .ref a0)]) (by decide) sz (by exact Nat.le_of_ble_eq_true rfl) rfl ?_
  intro p e s m args below meth c hsz C
  refine k_aload_n C dX2_beginGame_0 0 rfl ?_
  refine k_getX2 C 0 0 rfl (by decide) rfl q122 rfl dX2_beginGame_1 ?_
  refine k_iconst C 0 (by decide) dX2_beginGame_4 ?_
  refine k_putNX1 C [(a0, cF a1 a2 a3 a4 a5 a6 X.2.2.2.2.2.2), (a1, cS (0, X.1.2)), (a2, cS X.2.1), (a3, cB X.2.2.1), (a4, cB X.2.2.2.1), (a5, cB X.2.2.2.2.1), (a6, cB X.2.2.2.2.2.1)] 1 0 rfl rfl (by decide) qn0 rfl rfl fdI rfl rfl (Nat.le_of_ble_eq_true rfl) dX2_beginGame_5 ?_
  refine k_aload_n C dX2_beginGame_8 0 rfl ?_
  refine k_getX2 C 0 1 rfl (by decide) rfl q123 rfl dX2_beginGame_9 ?_
  refine k_iconst C 0 (by decide) dX2_beginGame_12 ?_
  refine k_putNX1 C [(a0, cF a1 a2 a3 a4 a5 a6 X.2.2.2.2.2.2), (a1, cS (0, X.1.2)), (a2, cS (0, X.2.1.2)), (a3, cB X.2.2.1), (a4, cB X.2.2.2.1), (a5, cB X.2.2.2.2.1), (a6, cB X.2.2.2.2.2.1)] 2 0 rfl rfl (by decide) qn0 rfl rfl fdI rfl rfl (Nat.le_of_ble_eq_true rfl) dX2_beginGame_13 ?_
  refine k_aload_n C dX2_beginGame_16 0 rfl ?_
  refine k_bipush C 12 (by decide) dX2_beginGame_17 ?_
  refine k_putX2 C [(a0, cF a1 a2 a3 a4 a5 a6 (X.2.2.2.2.2.2.1, X.2.2.2.2.2.2.2.1, X.2.2.2.2.2.2.2.2.1, 12, X.2.2.2.2.2.2.2.2.2.2)), (a1, cS (0, X.1.2)), (a2, cS (0, X.2.1.2)), (a3, cB X.2.2.1), (a4, cB X.2.2.2.1), (a5, cB X.2.2.2.2.1), (a6, cB X.2.2.2.2.2.1)] 0 9 rfl rfl (by decide) q131 rfl rfl fdI rfl rfl (Nat.le_of_ble_eq_true rfl) dX2_beginGame_19 ?_
  have hL : fX2_beginGame X = ((0, X.1.2), (0, X.2.1.2), X.2.2.1, X.2.2.2.1, X.2.2.2.2.1, X.2.2.2.2.2.1, X.2.2.2.2.2.2.1, X.2.2.2.2.2.2.2.1, X.2.2.2.2.2.2.2.2.1, 12, X.2.2.2.2.2.2.2.2.2.2) := by exact rfl
  exact k_vret C rfl (by rw [hL]) dX2_beginGame_22

theorem hdX2_sideOf : yX2_sideOf.cls ≠ "java/lang/invoke/MethodHandle" ∧ yX2_sideOf.cls ≠ "java/lang/invoke/VarHandle" ∧ (parseMethodDescriptor yX2_sideOf.desc).map (fun d => d.parameters.length) = some 1 := by decide +kernel
set_option maxHeartbeats 4000000 in
set_option maxRecDepth 100000 in
theorem mX2_sideOf_1 (l : Launch) (D : va_G) (cI cJ : ClassId) (a0 a1 a2 a3 a4 a5 a6 : Nat) (p0 : Int32) (X : Co) (hc : p0 = 0)  : kCr l D cI cJ yX2_sideOf (.code yX2_sideOf cX2_sideOf 2 (some (.object "FivesCourt$Side"))) { frames := 0, cells := 0, slots := 0, locals := 0 } [.ref a0, .int p0] (wC a0 a1 a2 a3 a4 a5 a6 X) a1 (wC a0 a1 a2 a3 a4 a5 a6 X) := by
  refine fun sz => k_of (lv := [(0, .ref a0), (1, .int p0)]) (by decide) sz (by exact Nat.le_of_ble_eq_true rfl) rfl ?_
  intro p e s m args below meth c hsz C
  refine k_iload_n C dX2_sideOf_0 1 rfl ?_
  refine k_if_ne C 11 (by decide) dX2_sideOf_1 (fun h => absurd hc h) (fun _ => ?_)
  refine k_aload_n C dX2_sideOf_4 0 rfl ?_
  refine k_getX2 C 0 0 rfl (by decide) rfl q122 rfl dX2_sideOf_5 ?_
  refine k_goto C 15 (by decide) dX2_sideOf_8 ?_
  exact k_aret C rfl rfl rfl dX2_sideOf_15

set_option maxHeartbeats 4000000 in
set_option maxRecDepth 100000 in
theorem mX2_sideOf_2 (l : Launch) (D : va_G) (cI cJ : ClassId) (a0 a1 a2 a3 a4 a5 a6 : Nat) (p0 : Int32) (X : Co) (hc : ¬ p0 = 0)  : kCr l D cI cJ yX2_sideOf (.code yX2_sideOf cX2_sideOf 2 (some (.object "FivesCourt$Side"))) { frames := 0, cells := 0, slots := 0, locals := 0 } [.ref a0, .int p0] (wC a0 a1 a2 a3 a4 a5 a6 X) a2 (wC a0 a1 a2 a3 a4 a5 a6 X) := by
  refine fun sz => k_of (lv := [(0, .ref a0), (1, .int p0)]) (by decide) sz (by exact Nat.le_of_ble_eq_true rfl) rfl ?_
  intro p e s m args below meth c hsz C
  refine k_iload_n C dX2_sideOf_0 1 rfl ?_
  refine k_if_ne C 11 (by decide) dX2_sideOf_1 (fun _ => ?_) (fun h => absurd h hc)
  refine k_aload_n C dX2_sideOf_11 0 rfl ?_
  refine k_getX2 C 0 1 rfl (by decide) rfl q123 rfl dX2_sideOf_12 ?_
  exact k_aret C rfl rfl rfl dX2_sideOf_15

theorem hdX2_winGame : yX2_winGame.cls ≠ "java/lang/invoke/MethodHandle" ∧ yX2_winGame.cls ≠ "java/lang/invoke/VarHandle" ∧ (parseMethodDescriptor yX2_winGame.desc).map (fun d => d.parameters.length) = some 1 := by decide +kernel
noncomputable def fX2_winGame_1 (X : Co) : Co :=
  if (fX2_beginGame ((X.1.1, (X.1.2.1 + 1), X.1.2.2), X.2.1, X.2.2.1, X.2.2.2.1, X.2.2.2.2.1, X.2.2.2.2.2.1, X.2.2.2.2.2.2.1, X.2.2.2.2.2.2.2.1, X.2.2.2.2.2.2.2.2.1, X.2.2.2.2.2.2.2.2.2.1, X.2.2.2.2.2.2.2.2.2.2.1, X.2.2.2.2.2.2.2.2.2.2.2.1, X.2.2.2.2.2.2.2.2.2.2.2.2.1, X.2.2.2.2.2.2.2.2.2.2.2.2.2.1, (X.2.2.2.2.2.2.2.2.2.2.2.2.2.2 + 1))).1.2.1 < 3 then (fX2_beginGame ((X.1.1, (X.1.2.1 + 1), X.1.2.2), X.2.1, X.2.2.1, X.2.2.2.1, X.2.2.2.2.1, X.2.2.2.2.2.1, X.2.2.2.2.2.2.1, X.2.2.2.2.2.2.2.1, X.2.2.2.2.2.2.2.2.1, X.2.2.2.2.2.2.2.2.2.1, X.2.2.2.2.2.2.2.2.2.2.1, X.2.2.2.2.2.2.2.2.2.2.2.1, X.2.2.2.2.2.2.2.2.2.2.2.2.1, X.2.2.2.2.2.2.2.2.2.2.2.2.2.1, (X.2.2.2.2.2.2.2.2.2.2.2.2.2.2 + 1)))
  else ((fX2_beginGame ((X.1.1, (X.1.2.1 + 1), X.1.2.2), X.2.1, X.2.2.1, X.2.2.2.1, X.2.2.2.2.1, X.2.2.2.2.2.1, X.2.2.2.2.2.2.1, X.2.2.2.2.2.2.2.1, X.2.2.2.2.2.2.2.2.1, X.2.2.2.2.2.2.2.2.2.1, X.2.2.2.2.2.2.2.2.2.2.1, X.2.2.2.2.2.2.2.2.2.2.2.1, X.2.2.2.2.2.2.2.2.2.2.2.2.1, X.2.2.2.2.2.2.2.2.2.2.2.2.2.1, (X.2.2.2.2.2.2.2.2.2.2.2.2.2.2 + 1))).1, (fX2_beginGame ((X.1.1, (X.1.2.1 + 1), X.1.2.2), X.2.1, X.2.2.1, X.2.2.2.1, X.2.2.2.2.1, X.2.2.2.2.2.1, X.2.2.2.2.2.2.1, X.2.2.2.2.2.2.2.1, X.2.2.2.2.2.2.2.2.1, X.2.2.2.2.2.2.2.2.2.1, X.2.2.2.2.2.2.2.2.2.2.1, X.2.2.2.2.2.2.2.2.2.2.2.1, X.2.2.2.2.2.2.2.2.2.2.2.2.1, X.2.2.2.2.2.2.2.2.2.2.2.2.2.1, (X.2.2.2.2.2.2.2.2.2.2.2.2.2.2 + 1))).2.1, (fX2_beginGame ((X.1.1, (X.1.2.1 + 1), X.1.2.2), X.2.1, X.2.2.1, X.2.2.2.1, X.2.2.2.2.1, X.2.2.2.2.2.1, X.2.2.2.2.2.2.1, X.2.2.2.2.2.2.2.1, X.2.2.2.2.2.2.2.2.1, X.2.2.2.2.2.2.2.2.2.1, X.2.2.2.2.2.2.2.2.2.2.1, X.2.2.2.2.2.2.2.2.2.2.2.1, X.2.2.2.2.2.2.2.2.2.2.2.2.1, X.2.2.2.2.2.2.2.2.2.2.2.2.2.1, (X.2.2.2.2.2.2.2.2.2.2.2.2.2.2 + 1))).2.2.1, (fX2_beginGame ((X.1.1, (X.1.2.1 + 1), X.1.2.2), X.2.1, X.2.2.1, X.2.2.2.1, X.2.2.2.2.1, X.2.2.2.2.2.1, X.2.2.2.2.2.2.1, X.2.2.2.2.2.2.2.1, X.2.2.2.2.2.2.2.2.1, X.2.2.2.2.2.2.2.2.2.1, X.2.2.2.2.2.2.2.2.2.2.1, X.2.2.2.2.2.2.2.2.2.2.2.1, X.2.2.2.2.2.2.2.2.2.2.2.2.1, X.2.2.2.2.2.2.2.2.2.2.2.2.2.1, (X.2.2.2.2.2.2.2.2.2.2.2.2.2.2 + 1))).2.2.2.1, (fX2_beginGame ((X.1.1, (X.1.2.1 + 1), X.1.2.2), X.2.1, X.2.2.1, X.2.2.2.1, X.2.2.2.2.1, X.2.2.2.2.2.1, X.2.2.2.2.2.2.1, X.2.2.2.2.2.2.2.1, X.2.2.2.2.2.2.2.2.1, X.2.2.2.2.2.2.2.2.2.1, X.2.2.2.2.2.2.2.2.2.2.1, X.2.2.2.2.2.2.2.2.2.2.2.1, X.2.2.2.2.2.2.2.2.2.2.2.2.1, X.2.2.2.2.2.2.2.2.2.2.2.2.2.1, (X.2.2.2.2.2.2.2.2.2.2.2.2.2.2 + 1))).2.2.2.2.1, (fX2_beginGame ((X.1.1, (X.1.2.1 + 1), X.1.2.2), X.2.1, X.2.2.1, X.2.2.2.1, X.2.2.2.2.1, X.2.2.2.2.2.1, X.2.2.2.2.2.2.1, X.2.2.2.2.2.2.2.1, X.2.2.2.2.2.2.2.2.1, X.2.2.2.2.2.2.2.2.2.1, X.2.2.2.2.2.2.2.2.2.2.1, X.2.2.2.2.2.2.2.2.2.2.2.1, X.2.2.2.2.2.2.2.2.2.2.2.2.1, X.2.2.2.2.2.2.2.2.2.2.2.2.2.1, (X.2.2.2.2.2.2.2.2.2.2.2.2.2.2 + 1))).2.2.2.2.2.1, (fX2_beginGame ((X.1.1, (X.1.2.1 + 1), X.1.2.2), X.2.1, X.2.2.1, X.2.2.2.1, X.2.2.2.2.1, X.2.2.2.2.2.1, X.2.2.2.2.2.2.1, X.2.2.2.2.2.2.2.1, X.2.2.2.2.2.2.2.2.1, X.2.2.2.2.2.2.2.2.2.1, X.2.2.2.2.2.2.2.2.2.2.1, X.2.2.2.2.2.2.2.2.2.2.2.1, X.2.2.2.2.2.2.2.2.2.2.2.2.1, X.2.2.2.2.2.2.2.2.2.2.2.2.2.1, (X.2.2.2.2.2.2.2.2.2.2.2.2.2.2 + 1))).2.2.2.2.2.2.1, (fX2_beginGame ((X.1.1, (X.1.2.1 + 1), X.1.2.2), X.2.1, X.2.2.1, X.2.2.2.1, X.2.2.2.2.1, X.2.2.2.2.2.1, X.2.2.2.2.2.2.1, X.2.2.2.2.2.2.2.1, X.2.2.2.2.2.2.2.2.1, X.2.2.2.2.2.2.2.2.2.1, X.2.2.2.2.2.2.2.2.2.2.1, X.2.2.2.2.2.2.2.2.2.2.2.1, X.2.2.2.2.2.2.2.2.2.2.2.2.1, X.2.2.2.2.2.2.2.2.2.2.2.2.2.1, (X.2.2.2.2.2.2.2.2.2.2.2.2.2.2 + 1))).2.2.2.2.2.2.2.1, (fX2_beginGame ((X.1.1, (X.1.2.1 + 1), X.1.2.2), X.2.1, X.2.2.1, X.2.2.2.1, X.2.2.2.2.1, X.2.2.2.2.2.1, X.2.2.2.2.2.2.1, X.2.2.2.2.2.2.2.1, X.2.2.2.2.2.2.2.2.1, X.2.2.2.2.2.2.2.2.2.1, X.2.2.2.2.2.2.2.2.2.2.1, X.2.2.2.2.2.2.2.2.2.2.2.1, X.2.2.2.2.2.2.2.2.2.2.2.2.1, X.2.2.2.2.2.2.2.2.2.2.2.2.2.1, (X.2.2.2.2.2.2.2.2.2.2.2.2.2.2 + 1))).2.2.2.2.2.2.2.2.1, (fX2_beginGame ((X.1.1, (X.1.2.1 + 1), X.1.2.2), X.2.1, X.2.2.1, X.2.2.2.1, X.2.2.2.2.1, X.2.2.2.2.2.1, X.2.2.2.2.2.2.1, X.2.2.2.2.2.2.2.1, X.2.2.2.2.2.2.2.2.1, X.2.2.2.2.2.2.2.2.2.1, X.2.2.2.2.2.2.2.2.2.2.1, X.2.2.2.2.2.2.2.2.2.2.2.1, X.2.2.2.2.2.2.2.2.2.2.2.2.1, X.2.2.2.2.2.2.2.2.2.2.2.2.2.1, (X.2.2.2.2.2.2.2.2.2.2.2.2.2.2 + 1))).2.2.2.2.2.2.2.2.2.1, (fX2_beginGame ((X.1.1, (X.1.2.1 + 1), X.1.2.2), X.2.1, X.2.2.1, X.2.2.2.1, X.2.2.2.2.1, X.2.2.2.2.2.1, X.2.2.2.2.2.2.1, X.2.2.2.2.2.2.2.1, X.2.2.2.2.2.2.2.2.1, X.2.2.2.2.2.2.2.2.2.1, X.2.2.2.2.2.2.2.2.2.2.1, X.2.2.2.2.2.2.2.2.2.2.2.1, X.2.2.2.2.2.2.2.2.2.2.2.2.1, X.2.2.2.2.2.2.2.2.2.2.2.2.2.1, (X.2.2.2.2.2.2.2.2.2.2.2.2.2.2 + 1))).2.2.2.2.2.2.1, (fX2_beginGame ((X.1.1, (X.1.2.1 + 1), X.1.2.2), X.2.1, X.2.2.1, X.2.2.2.1, X.2.2.2.2.1, X.2.2.2.2.2.1, X.2.2.2.2.2.2.1, X.2.2.2.2.2.2.2.1, X.2.2.2.2.2.2.2.2.1, X.2.2.2.2.2.2.2.2.2.1, X.2.2.2.2.2.2.2.2.2.2.1, X.2.2.2.2.2.2.2.2.2.2.2.1, X.2.2.2.2.2.2.2.2.2.2.2.2.1, X.2.2.2.2.2.2.2.2.2.2.2.2.2.1, (X.2.2.2.2.2.2.2.2.2.2.2.2.2.2 + 1))).2.2.2.2.2.2.2.2.2.2.2)
set_option maxHeartbeats 4000000 in
set_option maxRecDepth 100000 in
theorem mX2_winGame_1 (l : Launch) (D : va_G) (cI cJ : ClassId) (a0 a1 a2 a3 a4 a5 a6 : Nat) (X : Co)  : kCv l D cI cJ yX2_winGame (.code yX2_winGame cX2_winGame 2 none) { frames := 1, cells := 0, slots := 0, locals := 20 } [.ref a0, .ref a1] (wC a0 a1 a2 a3 a4 a5 a6 X) (wC a0 a1 a2 a3 a4 a5 a6 (fX2_winGame_1 X)) := by
  refine fun sz => k_of (lv := [(0, .ref a0), (1, .ref a1)]) (by decide) sz (by exact Nat.le_of_ble_eq_true rfl) rfl ?_
  intro p e s m args below meth c hsz C
  refine k_aload_n C dX2_winGame_0 1 rfl ?_
  refine k_dup C rfl dX2_winGame_1 ?_
  refine k_getNX1 C 1 1 rfl (by decide) rfl qn1 rfl dX2_winGame_2 ?_
  refine k_iconst C 1 (by decide) dX2_winGame_5 ?_
  refine k_iadd C dX2_winGame_6 ?_
  refine k_putNX1 C [(a0, cF a1 a2 a3 a4 a5 a6 X.2.2.2.2.2.2), (a1, cS (X.1.1, (X.1.2.1 + 1), X.1.2.2)), (a2, cS X.2.1), (a3, cB X.2.2.1), (a4, cB X.2.2.2.1), (a5, cB X.2.2.2.2.1), (a6, cB X.2.2.2.2.2.1)] 1 1 rfl rfl (by decide) qn1 rfl rfl fdI rfl rfl (Nat.le_of_ble_eq_true rfl) dX2_winGame_7 ?_
  refine k_aload_n C dX2_winGame_10 0 rfl ?_
  refine k_dup C rfl dX2_winGame_11 ?_
  refine k_getX2 C 0 14 rfl (by decide) rfl q136 rfl dX2_winGame_12 ?_
  refine k_iconst C 1 (by decide) dX2_winGame_15 ?_
  refine k_iadd C dX2_winGame_16 ?_
  refine k_putX2 C [(a0, cF a1 a2 a3 a4 a5 a6 (X.2.2.2.2.2.2.1, X.2.2.2.2.2.2.2.1, X.2.2.2.2.2.2.2.2.1, X.2.2.2.2.2.2.2.2.2.1, X.2.2.2.2.2.2.2.2.2.2.1, X.2.2.2.2.2.2.2.2.2.2.2.1, X.2.2.2.2.2.2.2.2.2.2.2.2.1, X.2.2.2.2.2.2.2.2.2.2.2.2.2.1, (X.2.2.2.2.2.2.2.2.2.2.2.2.2.2 + 1))), (a1, cS (X.1.1, (X.1.2.1 + 1), X.1.2.2)), (a2, cS X.2.1), (a3, cB X.2.2.1), (a4, cB X.2.2.2.1), (a5, cB X.2.2.2.2.1), (a6, cB X.2.2.2.2.2.1)] 0 14 rfl rfl (by decide) q136 rfl rfl fdI rfl rfl (Nat.le_of_ble_eq_true rfl) dX2_winGame_17 ?_
  refine k_aload_n C dX2_winGame_20 0 rfl ?_
  refine k_callV_v C (mX2_beginGame l D cI cJ a0 a1 a2 a3 a4 a5 a6 ((X.1.1, (X.1.2.1 + 1), X.1.2.2), X.2.1, X.2.2.1, X.2.2.2.1, X.2.2.2.2.1, X.2.2.2.2.2.1, X.2.2.2.2.2.2.1, X.2.2.2.2.2.2.2.1, X.2.2.2.2.2.2.2.2.1, X.2.2.2.2.2.2.2.2.2.1, X.2.2.2.2.2.2.2.2.2.2.1, X.2.2.2.2.2.2.2.2.2.2.2.1, X.2.2.2.2.2.2.2.2.2.2.2.2.1, X.2.2.2.2.2.2.2.2.2.2.2.2.2.1, (X.2.2.2.2.2.2.2.2.2.2.2.2.2.2 + 1))) (cwV 0 C.2.2.2.2.1 (kGV q573 q575 q25 q35 q576) rfl rfl rfl ⟨rfl, hdX2_beginGame⟩ ⟨Nat.le_of_ble_eq_true rfl, Nat.le_of_ble_eq_true rfl⟩) [0, 1, 2, 3, 4, 5, 6] [] [0, 1, 2, 3, 4, 5, 6] [] (wC a0 a1 a2 a3 a4 a5 a6 (fX2_beginGame ((X.1.1, (X.1.2.1 + 1), X.1.2.2), X.2.1, X.2.2.1, X.2.2.2.1, X.2.2.2.2.1, X.2.2.2.2.2.1, X.2.2.2.2.2.2.1, X.2.2.2.2.2.2.2.1, X.2.2.2.2.2.2.2.2.1, X.2.2.2.2.2.2.2.2.2.1, X.2.2.2.2.2.2.2.2.2.2.1, X.2.2.2.2.2.2.2.2.2.2.2.1, X.2.2.2.2.2.2.2.2.2.2.2.2.1, X.2.2.2.2.2.2.2.2.2.2.2.2.2.1, (X.2.2.2.2.2.2.2.2.2.2.2.2.2.2 + 1)))) rfl rfl rfl rfl (by decide) [a0, a1, a2, a3, a4, a5, a6] rfl rfl rfl rfl 0 2 rfl rfl rfl (Nat.le_of_ble_eq_true rfl) ⟨Nat.zero_le _, Nat.zero_le _⟩ rfl dX2_winGame_21 ?_
  generalize ezz1 : fX2_beginGame ((X.1.1, (X.1.2.1 + 1), X.1.2.2), X.2.1, X.2.2.1, X.2.2.2.1, X.2.2.2.2.1, X.2.2.2.2.2.1, X.2.2.2.2.2.2.1, X.2.2.2.2.2.2.2.1, X.2.2.2.2.2.2.2.2.1, X.2.2.2.2.2.2.2.2.2.1, X.2.2.2.2.2.2.2.2.2.2.1, X.2.2.2.2.2.2.2.2.2.2.2.1, X.2.2.2.2.2.2.2.2.2.2.2.2.1, X.2.2.2.2.2.2.2.2.2.2.2.2.2.1, (X.2.2.2.2.2.2.2.2.2.2.2.2.2.2 + 1)) = zz1
  refine k_aload_n C dX2_winGame_24 1 rfl ?_
  refine k_getNX1 C 1 1 rfl (by decide) rfl qn1 rfl dX2_winGame_25 ?_
  refine k_iconst C 3 (by decide) dX2_winGame_28 ?_
  refine k_icmp_lt C 40 (by decide) dX2_winGame_29 (fun c2 => ?_) (fun c2 => ?_)
  ·
    have hL : fX2_winGame_1 X = zz1 := by subst ezz1; exact (if_pos c2).trans rfl
    exact k_vret C rfl (by rw [hL]) dX2_winGame_40
  ·
    refine k_aload_n C dX2_winGame_32 0 rfl ?_
    refine k_aload_n C dX2_winGame_33 0 rfl ?_
    refine k_getX2 C 0 6 rfl (by decide) rfl q128 rfl dX2_winGame_34 ?_
    refine k_putX2 C [(a0, cF a1 a2 a3 a4 a5 a6 (zz1.2.2.2.2.2.2.1, zz1.2.2.2.2.2.2.2.1, zz1.2.2.2.2.2.2.2.2.1, zz1.2.2.2.2.2.2.2.2.2.1, zz1.2.2.2.2.2.2.1, zz1.2.2.2.2.2.2.2.2.2.2.2)), (a1, cS zz1.1), (a2, cS zz1.2.1), (a3, cB zz1.2.2.1), (a4, cB zz1.2.2.2.1), (a5, cB zz1.2.2.2.2.1), (a6, cB zz1.2.2.2.2.2.1)] 0 10 rfl rfl (by decide) q132 rfl rfl fdI rfl rfl (Nat.le_of_ble_eq_true rfl) dX2_winGame_37 ?_
    have hL : fX2_winGame_1 X = (zz1.1, zz1.2.1, zz1.2.2.1, zz1.2.2.2.1, zz1.2.2.2.2.1, zz1.2.2.2.2.2.1, zz1.2.2.2.2.2.2.1, zz1.2.2.2.2.2.2.2.1, zz1.2.2.2.2.2.2.2.2.1, zz1.2.2.2.2.2.2.2.2.2.1, zz1.2.2.2.2.2.2.1, zz1.2.2.2.2.2.2.2.2.2.2.2) := by subst ezz1; exact (if_neg c2).trans rfl
    exact k_vret C rfl (by rw [hL]) dX2_winGame_40

noncomputable def fX2_winGame_2 (X : Co) : Co :=
  if (fX2_beginGame (X.1, (X.2.1.1, (X.2.1.2.1 + 1), X.2.1.2.2), X.2.2.1, X.2.2.2.1, X.2.2.2.2.1, X.2.2.2.2.2.1, X.2.2.2.2.2.2.1, X.2.2.2.2.2.2.2.1, X.2.2.2.2.2.2.2.2.1, X.2.2.2.2.2.2.2.2.2.1, X.2.2.2.2.2.2.2.2.2.2.1, X.2.2.2.2.2.2.2.2.2.2.2.1, X.2.2.2.2.2.2.2.2.2.2.2.2.1, X.2.2.2.2.2.2.2.2.2.2.2.2.2.1, (X.2.2.2.2.2.2.2.2.2.2.2.2.2.2 + 1))).2.1.2.1 < 3 then (fX2_beginGame (X.1, (X.2.1.1, (X.2.1.2.1 + 1), X.2.1.2.2), X.2.2.1, X.2.2.2.1, X.2.2.2.2.1, X.2.2.2.2.2.1, X.2.2.2.2.2.2.1, X.2.2.2.2.2.2.2.1, X.2.2.2.2.2.2.2.2.1, X.2.2.2.2.2.2.2.2.2.1, X.2.2.2.2.2.2.2.2.2.2.1, X.2.2.2.2.2.2.2.2.2.2.2.1, X.2.2.2.2.2.2.2.2.2.2.2.2.1, X.2.2.2.2.2.2.2.2.2.2.2.2.2.1, (X.2.2.2.2.2.2.2.2.2.2.2.2.2.2 + 1)))
  else ((fX2_beginGame (X.1, (X.2.1.1, (X.2.1.2.1 + 1), X.2.1.2.2), X.2.2.1, X.2.2.2.1, X.2.2.2.2.1, X.2.2.2.2.2.1, X.2.2.2.2.2.2.1, X.2.2.2.2.2.2.2.1, X.2.2.2.2.2.2.2.2.1, X.2.2.2.2.2.2.2.2.2.1, X.2.2.2.2.2.2.2.2.2.2.1, X.2.2.2.2.2.2.2.2.2.2.2.1, X.2.2.2.2.2.2.2.2.2.2.2.2.1, X.2.2.2.2.2.2.2.2.2.2.2.2.2.1, (X.2.2.2.2.2.2.2.2.2.2.2.2.2.2 + 1))).1, (fX2_beginGame (X.1, (X.2.1.1, (X.2.1.2.1 + 1), X.2.1.2.2), X.2.2.1, X.2.2.2.1, X.2.2.2.2.1, X.2.2.2.2.2.1, X.2.2.2.2.2.2.1, X.2.2.2.2.2.2.2.1, X.2.2.2.2.2.2.2.2.1, X.2.2.2.2.2.2.2.2.2.1, X.2.2.2.2.2.2.2.2.2.2.1, X.2.2.2.2.2.2.2.2.2.2.2.1, X.2.2.2.2.2.2.2.2.2.2.2.2.1, X.2.2.2.2.2.2.2.2.2.2.2.2.2.1, (X.2.2.2.2.2.2.2.2.2.2.2.2.2.2 + 1))).2.1, (fX2_beginGame (X.1, (X.2.1.1, (X.2.1.2.1 + 1), X.2.1.2.2), X.2.2.1, X.2.2.2.1, X.2.2.2.2.1, X.2.2.2.2.2.1, X.2.2.2.2.2.2.1, X.2.2.2.2.2.2.2.1, X.2.2.2.2.2.2.2.2.1, X.2.2.2.2.2.2.2.2.2.1, X.2.2.2.2.2.2.2.2.2.2.1, X.2.2.2.2.2.2.2.2.2.2.2.1, X.2.2.2.2.2.2.2.2.2.2.2.2.1, X.2.2.2.2.2.2.2.2.2.2.2.2.2.1, (X.2.2.2.2.2.2.2.2.2.2.2.2.2.2 + 1))).2.2.1, (fX2_beginGame (X.1, (X.2.1.1, (X.2.1.2.1 + 1), X.2.1.2.2), X.2.2.1, X.2.2.2.1, X.2.2.2.2.1, X.2.2.2.2.2.1, X.2.2.2.2.2.2.1, X.2.2.2.2.2.2.2.1, X.2.2.2.2.2.2.2.2.1, X.2.2.2.2.2.2.2.2.2.1, X.2.2.2.2.2.2.2.2.2.2.1, X.2.2.2.2.2.2.2.2.2.2.2.1, X.2.2.2.2.2.2.2.2.2.2.2.2.1, X.2.2.2.2.2.2.2.2.2.2.2.2.2.1, (X.2.2.2.2.2.2.2.2.2.2.2.2.2.2 + 1))).2.2.2.1, (fX2_beginGame (X.1, (X.2.1.1, (X.2.1.2.1 + 1), X.2.1.2.2), X.2.2.1, X.2.2.2.1, X.2.2.2.2.1, X.2.2.2.2.2.1, X.2.2.2.2.2.2.1, X.2.2.2.2.2.2.2.1, X.2.2.2.2.2.2.2.2.1, X.2.2.2.2.2.2.2.2.2.1, X.2.2.2.2.2.2.2.2.2.2.1, X.2.2.2.2.2.2.2.2.2.2.2.1, X.2.2.2.2.2.2.2.2.2.2.2.2.1, X.2.2.2.2.2.2.2.2.2.2.2.2.2.1, (X.2.2.2.2.2.2.2.2.2.2.2.2.2.2 + 1))).2.2.2.2.1, (fX2_beginGame (X.1, (X.2.1.1, (X.2.1.2.1 + 1), X.2.1.2.2), X.2.2.1, X.2.2.2.1, X.2.2.2.2.1, X.2.2.2.2.2.1, X.2.2.2.2.2.2.1, X.2.2.2.2.2.2.2.1, X.2.2.2.2.2.2.2.2.1, X.2.2.2.2.2.2.2.2.2.1, X.2.2.2.2.2.2.2.2.2.2.1, X.2.2.2.2.2.2.2.2.2.2.2.1, X.2.2.2.2.2.2.2.2.2.2.2.2.1, X.2.2.2.2.2.2.2.2.2.2.2.2.2.1, (X.2.2.2.2.2.2.2.2.2.2.2.2.2.2 + 1))).2.2.2.2.2.1, (fX2_beginGame (X.1, (X.2.1.1, (X.2.1.2.1 + 1), X.2.1.2.2), X.2.2.1, X.2.2.2.1, X.2.2.2.2.1, X.2.2.2.2.2.1, X.2.2.2.2.2.2.1, X.2.2.2.2.2.2.2.1, X.2.2.2.2.2.2.2.2.1, X.2.2.2.2.2.2.2.2.2.1, X.2.2.2.2.2.2.2.2.2.2.1, X.2.2.2.2.2.2.2.2.2.2.2.1, X.2.2.2.2.2.2.2.2.2.2.2.2.1, X.2.2.2.2.2.2.2.2.2.2.2.2.2.1, (X.2.2.2.2.2.2.2.2.2.2.2.2.2.2 + 1))).2.2.2.2.2.2.1, (fX2_beginGame (X.1, (X.2.1.1, (X.2.1.2.1 + 1), X.2.1.2.2), X.2.2.1, X.2.2.2.1, X.2.2.2.2.1, X.2.2.2.2.2.1, X.2.2.2.2.2.2.1, X.2.2.2.2.2.2.2.1, X.2.2.2.2.2.2.2.2.1, X.2.2.2.2.2.2.2.2.2.1, X.2.2.2.2.2.2.2.2.2.2.1, X.2.2.2.2.2.2.2.2.2.2.2.1, X.2.2.2.2.2.2.2.2.2.2.2.2.1, X.2.2.2.2.2.2.2.2.2.2.2.2.2.1, (X.2.2.2.2.2.2.2.2.2.2.2.2.2.2 + 1))).2.2.2.2.2.2.2.1, (fX2_beginGame (X.1, (X.2.1.1, (X.2.1.2.1 + 1), X.2.1.2.2), X.2.2.1, X.2.2.2.1, X.2.2.2.2.1, X.2.2.2.2.2.1, X.2.2.2.2.2.2.1, X.2.2.2.2.2.2.2.1, X.2.2.2.2.2.2.2.2.1, X.2.2.2.2.2.2.2.2.2.1, X.2.2.2.2.2.2.2.2.2.2.1, X.2.2.2.2.2.2.2.2.2.2.2.1, X.2.2.2.2.2.2.2.2.2.2.2.2.1, X.2.2.2.2.2.2.2.2.2.2.2.2.2.1, (X.2.2.2.2.2.2.2.2.2.2.2.2.2.2 + 1))).2.2.2.2.2.2.2.2.1, (fX2_beginGame (X.1, (X.2.1.1, (X.2.1.2.1 + 1), X.2.1.2.2), X.2.2.1, X.2.2.2.1, X.2.2.2.2.1, X.2.2.2.2.2.1, X.2.2.2.2.2.2.1, X.2.2.2.2.2.2.2.1, X.2.2.2.2.2.2.2.2.1, X.2.2.2.2.2.2.2.2.2.1, X.2.2.2.2.2.2.2.2.2.2.1, X.2.2.2.2.2.2.2.2.2.2.2.1, X.2.2.2.2.2.2.2.2.2.2.2.2.1, X.2.2.2.2.2.2.2.2.2.2.2.2.2.1, (X.2.2.2.2.2.2.2.2.2.2.2.2.2.2 + 1))).2.2.2.2.2.2.2.2.2.1, (fX2_beginGame (X.1, (X.2.1.1, (X.2.1.2.1 + 1), X.2.1.2.2), X.2.2.1, X.2.2.2.1, X.2.2.2.2.1, X.2.2.2.2.2.1, X.2.2.2.2.2.2.1, X.2.2.2.2.2.2.2.1, X.2.2.2.2.2.2.2.2.1, X.2.2.2.2.2.2.2.2.2.1, X.2.2.2.2.2.2.2.2.2.2.1, X.2.2.2.2.2.2.2.2.2.2.2.1, X.2.2.2.2.2.2.2.2.2.2.2.2.1, X.2.2.2.2.2.2.2.2.2.2.2.2.2.1, (X.2.2.2.2.2.2.2.2.2.2.2.2.2.2 + 1))).2.2.2.2.2.2.1, (fX2_beginGame (X.1, (X.2.1.1, (X.2.1.2.1 + 1), X.2.1.2.2), X.2.2.1, X.2.2.2.1, X.2.2.2.2.1, X.2.2.2.2.2.1, X.2.2.2.2.2.2.1, X.2.2.2.2.2.2.2.1, X.2.2.2.2.2.2.2.2.1, X.2.2.2.2.2.2.2.2.2.1, X.2.2.2.2.2.2.2.2.2.2.1, X.2.2.2.2.2.2.2.2.2.2.2.1, X.2.2.2.2.2.2.2.2.2.2.2.2.1, X.2.2.2.2.2.2.2.2.2.2.2.2.2.1, (X.2.2.2.2.2.2.2.2.2.2.2.2.2.2 + 1))).2.2.2.2.2.2.2.2.2.2.2)
set_option maxHeartbeats 4000000 in
set_option maxRecDepth 100000 in
theorem mX2_winGame_2 (l : Launch) (D : va_G) (cI cJ : ClassId) (a0 a1 a2 a3 a4 a5 a6 : Nat) (X : Co)  : kCv l D cI cJ yX2_winGame (.code yX2_winGame cX2_winGame 2 none) { frames := 1, cells := 0, slots := 0, locals := 20 } [.ref a0, .ref a2] (wC a0 a1 a2 a3 a4 a5 a6 X) (wC a0 a1 a2 a3 a4 a5 a6 (fX2_winGame_2 X)) := by
  refine fun sz => k_of (lv := [(0, .ref a0), (1, .ref a2)]) (by decide) sz (by exact Nat.le_of_ble_eq_true rfl) rfl ?_
  intro p e s m args below meth c hsz C
  refine k_aload_n C dX2_winGame_0 1 rfl ?_
  refine k_dup C rfl dX2_winGame_1 ?_
  refine k_getNX1 C 2 1 rfl (by decide) rfl qn1 rfl dX2_winGame_2 ?_
  refine k_iconst C 1 (by decide) dX2_winGame_5 ?_
  refine k_iadd C dX2_winGame_6 ?_
  refine k_putNX1 C [(a0, cF a1 a2 a3 a4 a5 a6 X.2.2.2.2.2.2), (a1, cS X.1), (a2, cS (X.2.1.1, (X.2.1.2.1 + 1), X.2.1.2.2)), (a3, cB X.2.2.1), (a4, cB X.2.2.2.1), (a5, cB X.2.2.2.2.1), (a6, cB X.2.2.2.2.2.1)] 2 1 rfl rfl (by decide) qn1 rfl rfl fdI rfl rfl (Nat.le_of_ble_eq_true rfl) dX2_winGame_7 ?_
  refine k_aload_n C dX2_winGame_10 0 rfl ?_
  refine k_dup C rfl dX2_winGame_11 ?_
  refine k_getX2 C 0 14 rfl (by decide) rfl q136 rfl dX2_winGame_12 ?_
  refine k_iconst C 1 (by decide) dX2_winGame_15 ?_
  refine k_iadd C dX2_winGame_16 ?_
  refine k_putX2 C [(a0, cF a1 a2 a3 a4 a5 a6 (X.2.2.2.2.2.2.1, X.2.2.2.2.2.2.2.1, X.2.2.2.2.2.2.2.2.1, X.2.2.2.2.2.2.2.2.2.1, X.2.2.2.2.2.2.2.2.2.2.1, X.2.2.2.2.2.2.2.2.2.2.2.1, X.2.2.2.2.2.2.2.2.2.2.2.2.1, X.2.2.2.2.2.2.2.2.2.2.2.2.2.1, (X.2.2.2.2.2.2.2.2.2.2.2.2.2.2 + 1))), (a1, cS X.1), (a2, cS (X.2.1.1, (X.2.1.2.1 + 1), X.2.1.2.2)), (a3, cB X.2.2.1), (a4, cB X.2.2.2.1), (a5, cB X.2.2.2.2.1), (a6, cB X.2.2.2.2.2.1)] 0 14 rfl rfl (by decide) q136 rfl rfl fdI rfl rfl (Nat.le_of_ble_eq_true rfl) dX2_winGame_17 ?_
  refine k_aload_n C dX2_winGame_20 0 rfl ?_
  refine k_callV_v C (mX2_beginGame l D cI cJ a0 a1 a2 a3 a4 a5 a6 (X.1, (X.2.1.1, (X.2.1.2.1 + 1), X.2.1.2.2), X.2.2.1, X.2.2.2.1, X.2.2.2.2.1, X.2.2.2.2.2.1, X.2.2.2.2.2.2.1, X.2.2.2.2.2.2.2.1, X.2.2.2.2.2.2.2.2.1, X.2.2.2.2.2.2.2.2.2.1, X.2.2.2.2.2.2.2.2.2.2.1, X.2.2.2.2.2.2.2.2.2.2.2.1, X.2.2.2.2.2.2.2.2.2.2.2.2.1, X.2.2.2.2.2.2.2.2.2.2.2.2.2.1, (X.2.2.2.2.2.2.2.2.2.2.2.2.2.2 + 1))) (cwV 0 C.2.2.2.2.1 (kGV q573 q575 q25 q35 q576) rfl rfl rfl ⟨rfl, hdX2_beginGame⟩ ⟨Nat.le_of_ble_eq_true rfl, Nat.le_of_ble_eq_true rfl⟩) [0, 1, 2, 3, 4, 5, 6] [] [0, 1, 2, 3, 4, 5, 6] [] (wC a0 a1 a2 a3 a4 a5 a6 (fX2_beginGame (X.1, (X.2.1.1, (X.2.1.2.1 + 1), X.2.1.2.2), X.2.2.1, X.2.2.2.1, X.2.2.2.2.1, X.2.2.2.2.2.1, X.2.2.2.2.2.2.1, X.2.2.2.2.2.2.2.1, X.2.2.2.2.2.2.2.2.1, X.2.2.2.2.2.2.2.2.2.1, X.2.2.2.2.2.2.2.2.2.2.1, X.2.2.2.2.2.2.2.2.2.2.2.1, X.2.2.2.2.2.2.2.2.2.2.2.2.1, X.2.2.2.2.2.2.2.2.2.2.2.2.2.1, (X.2.2.2.2.2.2.2.2.2.2.2.2.2.2 + 1)))) rfl rfl rfl rfl (by decide) [a0, a1, a2, a3, a4, a5, a6] rfl rfl rfl rfl 0 2 rfl rfl rfl (Nat.le_of_ble_eq_true rfl) ⟨Nat.zero_le _, Nat.zero_le _⟩ rfl dX2_winGame_21 ?_
  generalize ezz1 : fX2_beginGame (X.1, (X.2.1.1, (X.2.1.2.1 + 1), X.2.1.2.2), X.2.2.1, X.2.2.2.1, X.2.2.2.2.1, X.2.2.2.2.2.1, X.2.2.2.2.2.2.1, X.2.2.2.2.2.2.2.1, X.2.2.2.2.2.2.2.2.1, X.2.2.2.2.2.2.2.2.2.1, X.2.2.2.2.2.2.2.2.2.2.1, X.2.2.2.2.2.2.2.2.2.2.2.1, X.2.2.2.2.2.2.2.2.2.2.2.2.1, X.2.2.2.2.2.2.2.2.2.2.2.2.2.1, (X.2.2.2.2.2.2.2.2.2.2.2.2.2.2 + 1)) = zz1
  refine k_aload_n C dX2_winGame_24 1 rfl ?_
  refine k_getNX1 C 2 1 rfl (by decide) rfl qn1 rfl dX2_winGame_25 ?_
  refine k_iconst C 3 (by decide) dX2_winGame_28 ?_
  refine k_icmp_lt C 40 (by decide) dX2_winGame_29 (fun c2 => ?_) (fun c2 => ?_)
  ·
    have hL : fX2_winGame_2 X = zz1 := by subst ezz1; exact (if_pos c2).trans rfl
    exact k_vret C rfl (by rw [hL]) dX2_winGame_40
  ·
    refine k_aload_n C dX2_winGame_32 0 rfl ?_
    refine k_aload_n C dX2_winGame_33 0 rfl ?_
    refine k_getX2 C 0 6 rfl (by decide) rfl q128 rfl dX2_winGame_34 ?_
    refine k_putX2 C [(a0, cF a1 a2 a3 a4 a5 a6 (zz1.2.2.2.2.2.2.1, zz1.2.2.2.2.2.2.2.1, zz1.2.2.2.2.2.2.2.2.1, zz1.2.2.2.2.2.2.2.2.2.1, zz1.2.2.2.2.2.2.1, zz1.2.2.2.2.2.2.2.2.2.2.2)), (a1, cS zz1.1), (a2, cS zz1.2.1), (a3, cB zz1.2.2.1), (a4, cB zz1.2.2.2.1), (a5, cB zz1.2.2.2.2.1), (a6, cB zz1.2.2.2.2.2.1)] 0 10 rfl rfl (by decide) q132 rfl rfl fdI rfl rfl (Nat.le_of_ble_eq_true rfl) dX2_winGame_37 ?_
    have hL : fX2_winGame_2 X = (zz1.1, zz1.2.1, zz1.2.2.1, zz1.2.2.2.1, zz1.2.2.2.2.1, zz1.2.2.2.2.2.1, zz1.2.2.2.2.2.2.1, zz1.2.2.2.2.2.2.2.1, zz1.2.2.2.2.2.2.2.2.1, zz1.2.2.2.2.2.2.2.2.2.1, zz1.2.2.2.2.2.2.1, zz1.2.2.2.2.2.2.2.2.2.2.2) := by subst ezz1; exact (if_neg c2).trans rfl
    exact k_vret C rfl (by rw [hL]) dX2_winGame_40

theorem hdX2_winPoint : yX2_winPoint.cls ≠ "java/lang/invoke/MethodHandle" ∧ yX2_winPoint.cls ≠ "java/lang/invoke/VarHandle" ∧ (parseMethodDescriptor yX2_winPoint.desc).map (fun d => d.parameters.length) = some 0 := by decide +kernel
noncomputable def fX2_winPoint (X : Co) : Co :=
  if X.2.2.2.2.2.2.1 = 0 then (if (X.1.1 + 1) < X.2.2.2.2.2.2.2.2.2.1 then (((X.1.1 + 1), X.1.2), X.2)
    else (fX2_winGame_1 (((X.1.1 + 1), X.1.2), X.2)))
  else (if (X.2.1.1 + 1) < X.2.2.2.2.2.2.2.2.2.1 then (X.1, ((X.2.1.1 + 1), X.2.1.2), X.2.2)
    else (fX2_winGame_2 (X.1, ((X.2.1.1 + 1), X.2.1.2), X.2.2)))
set_option maxHeartbeats 4000000 in
set_option maxRecDepth 100000 in
theorem mX2_winPoint (l : Launch) (D : va_G) (cI cJ : ClassId) (a0 a1 a2 a3 a4 a5 a6 : Nat) (X : Co)  : kCv l D cI cJ yX2_winPoint (.code yX2_winPoint cX2_winPoint 2 none) { frames := 2, cells := 0, slots := 0, locals := 41 } [.ref a0] (wC a0 a1 a2 a3 a4 a5 a6 X) (wC a0 a1 a2 a3 a4 a5 a6 (fX2_winPoint X)) := by
  refine fun sz => k_of (lv := [(0, .ref a0)]) (by decide) sz (by exact Nat.le_of_ble_eq_true rfl) rfl ?_
  intro p e s m args below meth c hsz C
  refine k_aload_n C dX2_winPoint_0 0 rfl ?_
  refine k_aload_n C dX2_winPoint_1 0 rfl ?_
  refine k_getX2 C 0 6 rfl (by decide) rfl q128 rfl dX2_winPoint_2 ?_
  by_cases c1 : X.2.2.2.2.2.2.1 = 0
  ·
    refine k_callV_r C (mX2_sideOf_1 l D cI cJ a0 a1 a2 a3 a4 a5 a6 X.2.2.2.2.2.2.1 X c1) (cwV 1 C.2.2.2.2.1 (kGV q252 q254 q2 q35 q255) rfl rfl rfl ⟨rfl, hdX2_sideOf⟩ ⟨Nat.le_of_ble_eq_true rfl, Nat.le_of_ble_eq_true rfl⟩) [0, 1, 2, 3, 4, 5, 6] [] [0, 1, 2, 3, 4, 5, 6] [] ([(a0, cF a1 a2 a3 a4 a5 a6 X.2.2.2.2.2.2), (a1, cS X.1), (a2, cS X.2.1), (a3, cB X.2.2.1), (a4, cB X.2.2.2.1), (a5, cB X.2.2.2.2.1), (a6, cB X.2.2.2.2.2.1)]) rfl rfl rfl rfl (by decide) [a0, a1, a2, a3, a4, a5, a6] rfl rfl rfl rfl 0 2 rfl rfl rfl (Nat.le_of_ble_eq_true rfl) ⟨Nat.zero_le _, Nat.zero_le _⟩ rfl dX2_winPoint_5 ?_
    refine k_astore_n C [(1, .ref a1), (0, .ref a0)] (by decide) rfl dX2_winPoint_8 ?_
    refine k_aload_n C dX2_winPoint_9 0 rfl ?_
    refine k_dup C rfl dX2_winPoint_10 ?_
    refine k_getNX1 C 1 0 rfl (by decide) rfl qn0 rfl dX2_winPoint_11 ?_
    refine k_iconst C 1 (by decide) dX2_winPoint_14 ?_
    refine k_iadd C dX2_winPoint_15 ?_
    refine k_putNX1 C [(a0, cF a1 a2 a3 a4 a5 a6 X.2.2.2.2.2.2), (a1, cS ((X.1.1 + 1), X.1.2)), (a2, cS X.2.1), (a3, cB X.2.2.1), (a4, cB X.2.2.2.1), (a5, cB X.2.2.2.2.1), (a6, cB X.2.2.2.2.2.1)] 1 0 rfl rfl (by decide) qn0 rfl rfl fdI rfl rfl (Nat.le_of_ble_eq_true rfl) dX2_winPoint_16 ?_
    refine k_aload_n C dX2_winPoint_19 0 rfl ?_
    refine k_getNX1 C 1 0 rfl (by decide) rfl qn0 rfl dX2_winPoint_20 ?_
    refine k_aload_n C dX2_winPoint_23 1 rfl ?_
    refine k_getX2 C 0 9 rfl (by decide) rfl q131 rfl dX2_winPoint_24 ?_
    refine k_icmp_lt C 35 (by decide) dX2_winPoint_27 (fun c2 => ?_) (fun c2 => ?_)
    ·
      have hL : fX2_winPoint X = (((X.1.1 + 1), X.1.2), X.2) := by exact (if_pos c1).trans ((if_pos c2).trans rfl)
      exact k_vret C rfl (by rw [hL]) dX2_winPoint_35
    ·
      refine k_aload_n C dX2_winPoint_30 1 rfl ?_
      refine k_aload_n C dX2_winPoint_31 0 rfl ?_
      refine k_callV_v C (mX2_winGame_1 l D cI cJ a0 a1 a2 a3 a4 a5 a6 (((X.1.1 + 1), X.1.2), X.2)) (cwV 1 C.2.2.2.2.1 (kGV q638 q640 q31 q35 q641) rfl rfl rfl ⟨rfl, hdX2_winGame⟩ ⟨Nat.le_of_ble_eq_true rfl, Nat.le_of_ble_eq_true rfl⟩) [0, 1, 2, 3, 4, 5, 6] [] [0, 1, 2, 3, 4, 5, 6] [] (wC a0 a1 a2 a3 a4 a5 a6 (fX2_winGame_1 (((X.1.1 + 1), X.1.2), X.2))) rfl rfl rfl rfl (by decide) [a0, a1, a2, a3, a4, a5, a6] rfl rfl rfl rfl 0 2 rfl rfl rfl (Nat.le_of_ble_eq_true rfl) ⟨Nat.zero_le _, Nat.zero_le _⟩ rfl dX2_winPoint_32 ?_
      generalize ezz3 : fX2_winGame_1 (((X.1.1 + 1), X.1.2), X.2) = zz3
      have hL : fX2_winPoint X = zz3 := by subst ezz3; exact (if_pos c1).trans ((if_neg c2).trans rfl)
      exact k_vret C rfl (by rw [hL]) dX2_winPoint_35
  ·
    refine k_callV_r C (mX2_sideOf_2 l D cI cJ a0 a1 a2 a3 a4 a5 a6 X.2.2.2.2.2.2.1 X c1) (cwV 1 C.2.2.2.2.1 (kGV q252 q254 q2 q35 q255) rfl rfl rfl ⟨rfl, hdX2_sideOf⟩ ⟨Nat.le_of_ble_eq_true rfl, Nat.le_of_ble_eq_true rfl⟩) [0, 1, 2, 3, 4, 5, 6] [] [0, 1, 2, 3, 4, 5, 6] [] ([(a0, cF a1 a2 a3 a4 a5 a6 X.2.2.2.2.2.2), (a1, cS X.1), (a2, cS X.2.1), (a3, cB X.2.2.1), (a4, cB X.2.2.2.1), (a5, cB X.2.2.2.2.1), (a6, cB X.2.2.2.2.2.1)]) rfl rfl rfl rfl (by decide) [a0, a1, a2, a3, a4, a5, a6] rfl rfl rfl rfl 0 2 rfl rfl rfl (Nat.le_of_ble_eq_true rfl) ⟨Nat.zero_le _, Nat.zero_le _⟩ rfl dX2_winPoint_5 ?_
    refine k_astore_n C [(1, .ref a2), (0, .ref a0)] (by decide) rfl dX2_winPoint_8 ?_
    refine k_aload_n C dX2_winPoint_9 0 rfl ?_
    refine k_dup C rfl dX2_winPoint_10 ?_
    refine k_getNX1 C 2 0 rfl (by decide) rfl qn0 rfl dX2_winPoint_11 ?_
    refine k_iconst C 1 (by decide) dX2_winPoint_14 ?_
    refine k_iadd C dX2_winPoint_15 ?_
    refine k_putNX1 C [(a0, cF a1 a2 a3 a4 a5 a6 X.2.2.2.2.2.2), (a1, cS X.1), (a2, cS ((X.2.1.1 + 1), X.2.1.2)), (a3, cB X.2.2.1), (a4, cB X.2.2.2.1), (a5, cB X.2.2.2.2.1), (a6, cB X.2.2.2.2.2.1)] 2 0 rfl rfl (by decide) qn0 rfl rfl fdI rfl rfl (Nat.le_of_ble_eq_true rfl) dX2_winPoint_16 ?_
    refine k_aload_n C dX2_winPoint_19 0 rfl ?_
    refine k_getNX1 C 2 0 rfl (by decide) rfl qn0 rfl dX2_winPoint_20 ?_
    refine k_aload_n C dX2_winPoint_23 1 rfl ?_
    refine k_getX2 C 0 9 rfl (by decide) rfl q131 rfl dX2_winPoint_24 ?_
    refine k_icmp_lt C 35 (by decide) dX2_winPoint_27 (fun c4 => ?_) (fun c4 => ?_)
    ·
      have hL : fX2_winPoint X = (X.1, ((X.2.1.1 + 1), X.2.1.2), X.2.2) := by exact (if_neg c1).trans ((if_pos c4).trans rfl)
      exact k_vret C rfl (by rw [hL]) dX2_winPoint_35
    ·
      refine k_aload_n C dX2_winPoint_30 1 rfl ?_
      refine k_aload_n C dX2_winPoint_31 0 rfl ?_
      refine k_callV_v C (mX2_winGame_2 l D cI cJ a0 a1 a2 a3 a4 a5 a6 (X.1, ((X.2.1.1 + 1), X.2.1.2), X.2.2)) (cwV 1 C.2.2.2.2.1 (kGV q638 q640 q31 q35 q641) rfl rfl rfl ⟨rfl, hdX2_winGame⟩ ⟨Nat.le_of_ble_eq_true rfl, Nat.le_of_ble_eq_true rfl⟩) [0, 1, 2, 3, 4, 5, 6] [] [0, 1, 2, 3, 4, 5, 6] [] (wC a0 a1 a2 a3 a4 a5 a6 (fX2_winGame_2 (X.1, ((X.2.1.1 + 1), X.2.1.2), X.2.2))) rfl rfl rfl rfl (by decide) [a0, a1, a2, a3, a4, a5, a6] rfl rfl rfl rfl 0 2 rfl rfl rfl (Nat.le_of_ble_eq_true rfl) ⟨Nat.zero_le _, Nat.zero_le _⟩ rfl dX2_winPoint_32 ?_
      generalize ezz5 : fX2_winGame_2 (X.1, ((X.2.1.1 + 1), X.2.1.2), X.2.2) = zz5
      have hL : fX2_winPoint X = zz5 := by subst ezz5; exact (if_neg c1).trans ((if_neg c4).trans rfl)
      exact k_vret C rfl (by rw [hL]) dX2_winPoint_35

theorem hdX2_winRally : yX2_winRally.cls ≠ "java/lang/invoke/MethodHandle" ∧ yX2_winRally.cls ≠ "java/lang/invoke/VarHandle" ∧ (parseMethodDescriptor yX2_winRally.desc).map (fun d => d.parameters.length) = some 1 := by decide +kernel
noncomputable def fX2_winRally (p0 : Int32) (X : Co) : Int32 × Co :=
  if p0 = 0 then (if p0 = (fX2_closeRally ((X.1.1, X.1.2.1, (X.1.2.2.1 + 1), X.1.2.2.2), X.2.1, X.2.2.1, X.2.2.2.1, X.2.2.2.2.1, X.2.2.2.2.2.1, X.2.2.2.2.2.2.1, X.2.2.2.2.2.2.2.1, X.2.2.2.2.2.2.2.2.1, X.2.2.2.2.2.2.2.2.2.1, X.2.2.2.2.2.2.2.2.2.2.1, (X.2.2.2.2.2.2.2.2.2.2.2.1 + 1), (X.2.2.2.2.2.2.2.2.2.2.2.2.1 + X.2.2.2.2.2.2.2.2.1), X.2.2.2.2.2.2.2.2.2.2.2.2.2)).2.2.2.2.2.2.1 then ((2 + p0), (fX2_winPoint (fX2_closeRally ((X.1.1, X.1.2.1, (X.1.2.2.1 + 1), X.1.2.2.2), X.2.1, X.2.2.1, X.2.2.2.1, X.2.2.2.2.1, X.2.2.2.2.2.1, X.2.2.2.2.2.2.1, X.2.2.2.2.2.2.2.1, X.2.2.2.2.2.2.2.2.1, X.2.2.2.2.2.2.2.2.2.1, X.2.2.2.2.2.2.2.2.2.2.1, (X.2.2.2.2.2.2.2.2.2.2.2.1 + 1), (X.2.2.2.2.2.2.2.2.2.2.2.2.1 + X.2.2.2.2.2.2.2.2.1), X.2.2.2.2.2.2.2.2.2.2.2.2.2))))
    else ((2 + p0), ((fX2_closeRally ((X.1.1, X.1.2.1, (X.1.2.2.1 + 1), X.1.2.2.2), X.2.1, X.2.2.1, X.2.2.2.1, X.2.2.2.2.1, X.2.2.2.2.2.1, X.2.2.2.2.2.2.1, X.2.2.2.2.2.2.2.1, X.2.2.2.2.2.2.2.2.1, X.2.2.2.2.2.2.2.2.2.1, X.2.2.2.2.2.2.2.2.2.2.1, (X.2.2.2.2.2.2.2.2.2.2.2.1 + 1), (X.2.2.2.2.2.2.2.2.2.2.2.2.1 + X.2.2.2.2.2.2.2.2.1), X.2.2.2.2.2.2.2.2.2.2.2.2.2)).1, (fX2_closeRally ((X.1.1, X.1.2.1, (X.1.2.2.1 + 1), X.1.2.2.2), X.2.1, X.2.2.1, X.2.2.2.1, X.2.2.2.2.1, X.2.2.2.2.2.1, X.2.2.2.2.2.2.1, X.2.2.2.2.2.2.2.1, X.2.2.2.2.2.2.2.2.1, X.2.2.2.2.2.2.2.2.2.1, X.2.2.2.2.2.2.2.2.2.2.1, (X.2.2.2.2.2.2.2.2.2.2.2.1 + 1), (X.2.2.2.2.2.2.2.2.2.2.2.2.1 + X.2.2.2.2.2.2.2.2.1), X.2.2.2.2.2.2.2.2.2.2.2.2.2)).2.1, (fX2_closeRally ((X.1.1, X.1.2.1, (X.1.2.2.1 + 1), X.1.2.2.2), X.2.1, X.2.2.1, X.2.2.2.1, X.2.2.2.2.1, X.2.2.2.2.2.1, X.2.2.2.2.2.2.1, X.2.2.2.2.2.2.2.1, X.2.2.2.2.2.2.2.2.1, X.2.2.2.2.2.2.2.2.2.1, X.2.2.2.2.2.2.2.2.2.2.1, (X.2.2.2.2.2.2.2.2.2.2.2.1 + 1), (X.2.2.2.2.2.2.2.2.2.2.2.2.1 + X.2.2.2.2.2.2.2.2.1), X.2.2.2.2.2.2.2.2.2.2.2.2.2)).2.2.1, (fX2_closeRally ((X.1.1, X.1.2.1, (X.1.2.2.1 + 1), X.1.2.2.2), X.2.1, X.2.2.1, X.2.2.2.1, X.2.2.2.2.1, X.2.2.2.2.2.1, X.2.2.2.2.2.2.1, X.2.2.2.2.2.2.2.1, X.2.2.2.2.2.2.2.2.1, X.2.2.2.2.2.2.2.2.2.1, X.2.2.2.2.2.2.2.2.2.2.1, (X.2.2.2.2.2.2.2.2.2.2.2.1 + 1), (X.2.2.2.2.2.2.2.2.2.2.2.2.1 + X.2.2.2.2.2.2.2.2.1), X.2.2.2.2.2.2.2.2.2.2.2.2.2)).2.2.2.1, (fX2_closeRally ((X.1.1, X.1.2.1, (X.1.2.2.1 + 1), X.1.2.2.2), X.2.1, X.2.2.1, X.2.2.2.1, X.2.2.2.2.1, X.2.2.2.2.2.1, X.2.2.2.2.2.2.1, X.2.2.2.2.2.2.2.1, X.2.2.2.2.2.2.2.2.1, X.2.2.2.2.2.2.2.2.2.1, X.2.2.2.2.2.2.2.2.2.2.1, (X.2.2.2.2.2.2.2.2.2.2.2.1 + 1), (X.2.2.2.2.2.2.2.2.2.2.2.2.1 + X.2.2.2.2.2.2.2.2.1), X.2.2.2.2.2.2.2.2.2.2.2.2.2)).2.2.2.2.1, (fX2_closeRally ((X.1.1, X.1.2.1, (X.1.2.2.1 + 1), X.1.2.2.2), X.2.1, X.2.2.1, X.2.2.2.1, X.2.2.2.2.1, X.2.2.2.2.2.1, X.2.2.2.2.2.2.1, X.2.2.2.2.2.2.2.1, X.2.2.2.2.2.2.2.2.1, X.2.2.2.2.2.2.2.2.2.1, X.2.2.2.2.2.2.2.2.2.2.1, (X.2.2.2.2.2.2.2.2.2.2.2.1 + 1), (X.2.2.2.2.2.2.2.2.2.2.2.2.1 + X.2.2.2.2.2.2.2.2.1), X.2.2.2.2.2.2.2.2.2.2.2.2.2)).2.2.2.2.2.1, p0, (fX2_closeRally ((X.1.1, X.1.2.1, (X.1.2.2.1 + 1), X.1.2.2.2), X.2.1, X.2.2.1, X.2.2.2.1, X.2.2.2.2.1, X.2.2.2.2.2.1, X.2.2.2.2.2.2.1, X.2.2.2.2.2.2.2.1, X.2.2.2.2.2.2.2.2.1, X.2.2.2.2.2.2.2.2.2.1, X.2.2.2.2.2.2.2.2.2.2.1, (X.2.2.2.2.2.2.2.2.2.2.2.1 + 1), (X.2.2.2.2.2.2.2.2.2.2.2.2.1 + X.2.2.2.2.2.2.2.2.1), X.2.2.2.2.2.2.2.2.2.2.2.2.2)).2.2.2.2.2.2.2)))
  else (if p0 = (fX2_closeRally (X.1, (X.2.1.1, X.2.1.2.1, (X.2.1.2.2.1 + 1), X.2.1.2.2.2), X.2.2.1, X.2.2.2.1, X.2.2.2.2.1, X.2.2.2.2.2.1, X.2.2.2.2.2.2.1, X.2.2.2.2.2.2.2.1, X.2.2.2.2.2.2.2.2.1, X.2.2.2.2.2.2.2.2.2.1, X.2.2.2.2.2.2.2.2.2.2.1, (X.2.2.2.2.2.2.2.2.2.2.2.1 + 1), (X.2.2.2.2.2.2.2.2.2.2.2.2.1 + X.2.2.2.2.2.2.2.2.1), X.2.2.2.2.2.2.2.2.2.2.2.2.2)).2.2.2.2.2.2.1 then ((2 + p0), (fX2_winPoint (fX2_closeRally (X.1, (X.2.1.1, X.2.1.2.1, (X.2.1.2.2.1 + 1), X.2.1.2.2.2), X.2.2.1, X.2.2.2.1, X.2.2.2.2.1, X.2.2.2.2.2.1, X.2.2.2.2.2.2.1, X.2.2.2.2.2.2.2.1, X.2.2.2.2.2.2.2.2.1, X.2.2.2.2.2.2.2.2.2.1, X.2.2.2.2.2.2.2.2.2.2.1, (X.2.2.2.2.2.2.2.2.2.2.2.1 + 1), (X.2.2.2.2.2.2.2.2.2.2.2.2.1 + X.2.2.2.2.2.2.2.2.1), X.2.2.2.2.2.2.2.2.2.2.2.2.2))))
    else ((2 + p0), ((fX2_closeRally (X.1, (X.2.1.1, X.2.1.2.1, (X.2.1.2.2.1 + 1), X.2.1.2.2.2), X.2.2.1, X.2.2.2.1, X.2.2.2.2.1, X.2.2.2.2.2.1, X.2.2.2.2.2.2.1, X.2.2.2.2.2.2.2.1, X.2.2.2.2.2.2.2.2.1, X.2.2.2.2.2.2.2.2.2.1, X.2.2.2.2.2.2.2.2.2.2.1, (X.2.2.2.2.2.2.2.2.2.2.2.1 + 1), (X.2.2.2.2.2.2.2.2.2.2.2.2.1 + X.2.2.2.2.2.2.2.2.1), X.2.2.2.2.2.2.2.2.2.2.2.2.2)).1, (fX2_closeRally (X.1, (X.2.1.1, X.2.1.2.1, (X.2.1.2.2.1 + 1), X.2.1.2.2.2), X.2.2.1, X.2.2.2.1, X.2.2.2.2.1, X.2.2.2.2.2.1, X.2.2.2.2.2.2.1, X.2.2.2.2.2.2.2.1, X.2.2.2.2.2.2.2.2.1, X.2.2.2.2.2.2.2.2.2.1, X.2.2.2.2.2.2.2.2.2.2.1, (X.2.2.2.2.2.2.2.2.2.2.2.1 + 1), (X.2.2.2.2.2.2.2.2.2.2.2.2.1 + X.2.2.2.2.2.2.2.2.1), X.2.2.2.2.2.2.2.2.2.2.2.2.2)).2.1, (fX2_closeRally (X.1, (X.2.1.1, X.2.1.2.1, (X.2.1.2.2.1 + 1), X.2.1.2.2.2), X.2.2.1, X.2.2.2.1, X.2.2.2.2.1, X.2.2.2.2.2.1, X.2.2.2.2.2.2.1, X.2.2.2.2.2.2.2.1, X.2.2.2.2.2.2.2.2.1, X.2.2.2.2.2.2.2.2.2.1, X.2.2.2.2.2.2.2.2.2.2.1, (X.2.2.2.2.2.2.2.2.2.2.2.1 + 1), (X.2.2.2.2.2.2.2.2.2.2.2.2.1 + X.2.2.2.2.2.2.2.2.1), X.2.2.2.2.2.2.2.2.2.2.2.2.2)).2.2.1, (fX2_closeRally (X.1, (X.2.1.1, X.2.1.2.1, (X.2.1.2.2.1 + 1), X.2.1.2.2.2), X.2.2.1, X.2.2.2.1, X.2.2.2.2.1, X.2.2.2.2.2.1, X.2.2.2.2.2.2.1, X.2.2.2.2.2.2.2.1, X.2.2.2.2.2.2.2.2.1, X.2.2.2.2.2.2.2.2.2.1, X.2.2.2.2.2.2.2.2.2.2.1, (X.2.2.2.2.2.2.2.2.2.2.2.1 + 1), (X.2.2.2.2.2.2.2.2.2.2.2.2.1 + X.2.2.2.2.2.2.2.2.1), X.2.2.2.2.2.2.2.2.2.2.2.2.2)).2.2.2.1, (fX2_closeRally (X.1, (X.2.1.1, X.2.1.2.1, (X.2.1.2.2.1 + 1), X.2.1.2.2.2), X.2.2.1, X.2.2.2.1, X.2.2.2.2.1, X.2.2.2.2.2.1, X.2.2.2.2.2.2.1, X.2.2.2.2.2.2.2.1, X.2.2.2.2.2.2.2.2.1, X.2.2.2.2.2.2.2.2.2.1, X.2.2.2.2.2.2.2.2.2.2.1, (X.2.2.2.2.2.2.2.2.2.2.2.1 + 1), (X.2.2.2.2.2.2.2.2.2.2.2.2.1 + X.2.2.2.2.2.2.2.2.1), X.2.2.2.2.2.2.2.2.2.2.2.2.2)).2.2.2.2.1, (fX2_closeRally (X.1, (X.2.1.1, X.2.1.2.1, (X.2.1.2.2.1 + 1), X.2.1.2.2.2), X.2.2.1, X.2.2.2.1, X.2.2.2.2.1, X.2.2.2.2.2.1, X.2.2.2.2.2.2.1, X.2.2.2.2.2.2.2.1, X.2.2.2.2.2.2.2.2.1, X.2.2.2.2.2.2.2.2.2.1, X.2.2.2.2.2.2.2.2.2.2.1, (X.2.2.2.2.2.2.2.2.2.2.2.1 + 1), (X.2.2.2.2.2.2.2.2.2.2.2.2.1 + X.2.2.2.2.2.2.2.2.1), X.2.2.2.2.2.2.2.2.2.2.2.2.2)).2.2.2.2.2.1, p0, (fX2_closeRally (X.1, (X.2.1.1, X.2.1.2.1, (X.2.1.2.2.1 + 1), X.2.1.2.2.2), X.2.2.1, X.2.2.2.1, X.2.2.2.2.1, X.2.2.2.2.2.1, X.2.2.2.2.2.2.1, X.2.2.2.2.2.2.2.1, X.2.2.2.2.2.2.2.2.1, X.2.2.2.2.2.2.2.2.2.1, X.2.2.2.2.2.2.2.2.2.2.1, (X.2.2.2.2.2.2.2.2.2.2.2.1 + 1), (X.2.2.2.2.2.2.2.2.2.2.2.2.1 + X.2.2.2.2.2.2.2.2.1), X.2.2.2.2.2.2.2.2.2.2.2.2.2)).2.2.2.2.2.2.2)))
set_option maxHeartbeats 4000000 in
set_option maxRecDepth 100000 in
theorem mX2_winRally (l : Launch) (D : va_G) (cI cJ : ClassId) (a0 a1 a2 a3 a4 a5 a6 : Nat) (p0 : Int32) (X : Co)  : kCi l D cI cJ yX2_winRally (.code yX2_winRally cX2_winRally 2 (some .int)) { frames := 3, cells := 0, slots := 0, locals := 62 } [.ref a0, .int p0] (wC a0 a1 a2 a3 a4 a5 a6 X) (fX2_winRally p0 X).1 (wC a0 a1 a2 a3 a4 a5 a6 (fX2_winRally p0 X).2) := by
  refine fun sz => k_of (lv := [(0, .ref a0), (1, .int p0)]) (by decide) sz (by exact Nat.le_of_ble_eq_true rfl) rfl ?_
  intro p e s m args below meth c hsz C
  refine k_aload_n C dX2_winRally_0 0 rfl ?_
  refine k_dup C rfl dX2_winRally_1 ?_
  refine k_getX2 C 0 11 rfl (by decide) rfl q133 rfl dX2_winRally_2 ?_
  refine k_iconst C 1 (by decide) dX2_winRally_5 ?_
  refine k_iadd C dX2_winRally_6 ?_
  refine k_putX2 C [(a0, cF a1 a2 a3 a4 a5 a6 (X.2.2.2.2.2.2.1, X.2.2.2.2.2.2.2.1, X.2.2.2.2.2.2.2.2.1, X.2.2.2.2.2.2.2.2.2.1, X.2.2.2.2.2.2.2.2.2.2.1, (X.2.2.2.2.2.2.2.2.2.2.2.1 + 1), X.2.2.2.2.2.2.2.2.2.2.2.2)), (a1, cS X.1), (a2, cS X.2.1), (a3, cB X.2.2.1), (a4, cB X.2.2.2.1), (a5, cB X.2.2.2.2.1), (a6, cB X.2.2.2.2.2.1)] 0 11 rfl rfl (by decide) q133 rfl rfl fdI rfl rfl (Nat.le_of_ble_eq_true rfl) dX2_winRally_7 ?_
  refine k_aload_n C dX2_winRally_10 0 rfl ?_
  refine k_dup C rfl dX2_winRally_11 ?_
  refine k_getX2 C 0 12 rfl (by decide) rfl q134 rfl dX2_winRally_12 ?_
  refine k_aload_n C dX2_winRally_15 0 rfl ?_
  refine k_getX2 C 0 8 rfl (by decide) rfl q130 rfl dX2_winRally_16 ?_
  refine k_iadd C dX2_winRally_19 ?_
  refine k_putX2 C [(a0, cF a1 a2 a3 a4 a5 a6 (X.2.2.2.2.2.2.1, X.2.2.2.2.2.2.2.1, X.2.2.2.2.2.2.2.2.1, X.2.2.2.2.2.2.2.2.2.1, X.2.2.2.2.2.2.2.2.2.2.1, (X.2.2.2.2.2.2.2.2.2.2.2.1 + 1), (X.2.2.2.2.2.2.2.2.2.2.2.2.1 + X.2.2.2.2.2.2.2.2.1), X.2.2.2.2.2.2.2.2.2.2.2.2.2)), (a1, cS X.1), (a2, cS X.2.1), (a3, cB X.2.2.1), (a4, cB X.2.2.2.1), (a5, cB X.2.2.2.2.1), (a6, cB X.2.2.2.2.2.1)] 0 12 rfl rfl (by decide) q134 rfl rfl fdI rfl rfl (Nat.le_of_ble_eq_true rfl) dX2_winRally_20 ?_
  refine k_aload_n C dX2_winRally_23 0 rfl ?_
  refine k_iload_n C dX2_winRally_24 1 rfl ?_
  by_cases c1 : p0 = 0
  ·
    refine k_callV_r C (mX2_sideOf_1 l D cI cJ a0 a1 a2 a3 a4 a5 a6 p0 (X.1, X.2.1, X.2.2.1, X.2.2.2.1, X.2.2.2.2.1, X.2.2.2.2.2.1, X.2.2.2.2.2.2.1, X.2.2.2.2.2.2.2.1, X.2.2.2.2.2.2.2.2.1, X.2.2.2.2.2.2.2.2.2.1, X.2.2.2.2.2.2.2.2.2.2.1, (X.2.2.2.2.2.2.2.2.2.2.2.1 + 1), (X.2.2.2.2.2.2.2.2.2.2.2.2.1 + X.2.2.2.2.2.2.2.2.1), X.2.2.2.2.2.2.2.2.2.2.2.2.2) c1) (cwV 1 C.2.2.2.2.1 (kGV q252 q254 q2 q35 q255) rfl rfl rfl ⟨rfl, hdX2_sideOf⟩ ⟨Nat.le_of_ble_eq_true rfl, Nat.le_of_ble_eq_true rfl⟩) [0, 1, 2, 3, 4, 5, 6] [] [0, 1, 2, 3, 4, 5, 6] [] ([(a0, cF a1 a2 a3 a4 a5 a6 (X.2.2.2.2.2.2.1, X.2.2.2.2.2.2.2.1, X.2.2.2.2.2.2.2.2.1, X.2.2.2.2.2.2.2.2.2.1, X.2.2.2.2.2.2.2.2.2.2.1, (X.2.2.2.2.2.2.2.2.2.2.2.1 + 1), (X.2.2.2.2.2.2.2.2.2.2.2.2.1 + X.2.2.2.2.2.2.2.2.1), X.2.2.2.2.2.2.2.2.2.2.2.2.2)), (a1, cS X.1), (a2, cS X.2.1), (a3, cB X.2.2.1), (a4, cB X.2.2.2.1), (a5, cB X.2.2.2.2.1), (a6, cB X.2.2.2.2.2.1)]) rfl rfl rfl rfl (by decide) [a0, a1, a2, a3, a4, a5, a6] rfl rfl rfl rfl 0 2 rfl rfl rfl (Nat.le_of_ble_eq_true rfl) ⟨Nat.zero_le _, Nat.zero_le _⟩ rfl dX2_winRally_25 ?_
    refine k_dup C rfl dX2_winRally_28 ?_
    refine k_getNX1 C 1 2 rfl (by decide) rfl qn2 rfl dX2_winRally_29 ?_
    refine k_iconst C 1 (by decide) dX2_winRally_32 ?_
    refine k_iadd C dX2_winRally_33 ?_
    refine k_putNX1 C [(a0, cF a1 a2 a3 a4 a5 a6 (X.2.2.2.2.2.2.1, X.2.2.2.2.2.2.2.1, X.2.2.2.2.2.2.2.2.1, X.2.2.2.2.2.2.2.2.2.1, X.2.2.2.2.2.2.2.2.2.2.1, (X.2.2.2.2.2.2.2.2.2.2.2.1 + 1), (X.2.2.2.2.2.2.2.2.2.2.2.2.1 + X.2.2.2.2.2.2.2.2.1), X.2.2.2.2.2.2.2.2.2.2.2.2.2)), (a1, cS (X.1.1, X.1.2.1, (X.1.2.2.1 + 1), X.1.2.2.2)), (a2, cS X.2.1), (a3, cB X.2.2.1), (a4, cB X.2.2.2.1), (a5, cB X.2.2.2.2.1), (a6, cB X.2.2.2.2.2.1)] 1 2 rfl rfl (by decide) qn2 rfl rfl fdI rfl rfl (Nat.le_of_ble_eq_true rfl) dX2_winRally_34 ?_
    refine k_aload_n C dX2_winRally_37 0 rfl ?_
    refine k_callV_v C (mX2_closeRally l D cI cJ a0 a1 a2 a3 a4 a5 a6 ((X.1.1, X.1.2.1, (X.1.2.2.1 + 1), X.1.2.2.2), X.2.1, X.2.2.1, X.2.2.2.1, X.2.2.2.2.1, X.2.2.2.2.2.1, X.2.2.2.2.2.2.1, X.2.2.2.2.2.2.2.1, X.2.2.2.2.2.2.2.2.1, X.2.2.2.2.2.2.2.2.2.1, X.2.2.2.2.2.2.2.2.2.2.1, (X.2.2.2.2.2.2.2.2.2.2.2.1 + 1), (X.2.2.2.2.2.2.2.2.2.2.2.2.1 + X.2.2.2.2.2.2.2.2.1), X.2.2.2.2.2.2.2.2.2.2.2.2.2)) (cwV 0 C.2.2.2.2.1 (kGV q569 q571 q24 q35 q572) rfl rfl rfl ⟨rfl, hdX2_closeRally⟩ ⟨Nat.le_of_ble_eq_true rfl, Nat.le_of_ble_eq_true rfl⟩) [0, 1, 2, 3, 4, 5, 6] [] [0, 1, 2, 3, 4, 5, 6] [] (wC a0 a1 a2 a3 a4 a5 a6 (fX2_closeRally ((X.1.1, X.1.2.1, (X.1.2.2.1 + 1), X.1.2.2.2), X.2.1, X.2.2.1, X.2.2.2.1, X.2.2.2.2.1, X.2.2.2.2.2.1, X.2.2.2.2.2.2.1, X.2.2.2.2.2.2.2.1, X.2.2.2.2.2.2.2.2.1, X.2.2.2.2.2.2.2.2.2.1, X.2.2.2.2.2.2.2.2.2.2.1, (X.2.2.2.2.2.2.2.2.2.2.2.1 + 1), (X.2.2.2.2.2.2.2.2.2.2.2.2.1 + X.2.2.2.2.2.2.2.2.1), X.2.2.2.2.2.2.2.2.2.2.2.2.2))) rfl rfl rfl rfl (by decide) [a0, a1, a2, a3, a4, a5, a6] rfl rfl rfl rfl 0 2 rfl rfl rfl (Nat.le_of_ble_eq_true rfl) ⟨Nat.zero_le _, Nat.zero_le _⟩ rfl dX2_winRally_38 ?_
    generalize ezz2 : fX2_closeRally ((X.1.1, X.1.2.1, (X.1.2.2.1 + 1), X.1.2.2.2), X.2.1, X.2.2.1, X.2.2.2.1, X.2.2.2.2.1, X.2.2.2.2.2.1, X.2.2.2.2.2.2.1, X.2.2.2.2.2.2.2.1, X.2.2.2.2.2.2.2.2.1, X.2.2.2.2.2.2.2.2.2.1, X.2.2.2.2.2.2.2.2.2.2.1, (X.2.2.2.2.2.2.2.2.2.2.2.1 + 1), (X.2.2.2.2.2.2.2.2.2.2.2.2.1 + X.2.2.2.2.2.2.2.2.1), X.2.2.2.2.2.2.2.2.2.2.2.2.2) = zz2
    refine k_iload_n C dX2_winRally_41 1 rfl ?_
    refine k_aload_n C dX2_winRally_42 0 rfl ?_
    refine k_getX2 C 0 6 rfl (by decide) rfl q128 rfl dX2_winRally_43 ?_
    refine k_icmp_ne C 56 (by decide) dX2_winRally_46 (fun c3 => ?_) (fun c3 => ?_)
    ·
      refine k_aload_n C dX2_winRally_56 0 rfl ?_
      refine k_iload_n C dX2_winRally_57 1 rfl ?_
      refine k_putX2 C [(a0, cF a1 a2 a3 a4 a5 a6 (p0, zz2.2.2.2.2.2.2.2)), (a1, cS zz2.1), (a2, cS zz2.2.1), (a3, cB zz2.2.2.1), (a4, cB zz2.2.2.2.1), (a5, cB zz2.2.2.2.2.1), (a6, cB zz2.2.2.2.2.2.1)] 0 6 rfl rfl (by decide) q128 rfl rfl fdI rfl rfl (Nat.le_of_ble_eq_true rfl) dX2_winRally_58 ?_
      refine k_iconst C 2 (by decide) dX2_winRally_61 ?_
      refine k_iload_n C dX2_winRally_62 1 rfl ?_
      refine k_iadd C dX2_winRally_63 ?_
      have hL : fX2_winRally p0 X = ((2 + p0), (zz2.1, zz2.2.1, zz2.2.2.1, zz2.2.2.2.1, zz2.2.2.2.2.1, zz2.2.2.2.2.2.1, p0, zz2.2.2.2.2.2.2.2)) := by subst ezz2; exact (if_pos c1).trans ((if_neg c3).trans rfl)
      exact k_iret C rfl (by rw [hL]) (by rw [hL]) dX2_winRally_64
    ·
      refine k_aload_n C dX2_winRally_49 0 rfl ?_
      refine k_callV_v C (mX2_winPoint l D cI cJ a0 a1 a2 a3 a4 a5 a6 zz2) (cwV 0 C.2.2.2.2.1 (kGV q634 q636 q30 q35 q637) rfl rfl rfl ⟨rfl, hdX2_winPoint⟩ ⟨Nat.le_of_ble_eq_true rfl, Nat.le_of_ble_eq_true rfl⟩) [0, 1, 2, 3, 4, 5, 6] [] [0, 1, 2, 3, 4, 5, 6] [] (wC a0 a1 a2 a3 a4 a5 a6 (fX2_winPoint zz2)) rfl rfl rfl rfl (by decide) [a0, a1, a2, a3, a4, a5, a6] rfl rfl rfl rfl 0 2 rfl rfl rfl (Nat.le_of_ble_eq_true rfl) ⟨Nat.zero_le _, Nat.zero_le _⟩ rfl dX2_winRally_50 ?_
      generalize ezz4 : fX2_winPoint zz2 = zz4
      refine k_goto C 61 (by decide) dX2_winRally_53 ?_
      refine k_iconst C 2 (by decide) dX2_winRally_61 ?_
      refine k_iload_n C dX2_winRally_62 1 rfl ?_
      refine k_iadd C dX2_winRally_63 ?_
      have hL : fX2_winRally p0 X = ((2 + p0), zz4) := by subst ezz4; subst ezz2; exact (if_pos c1).trans ((if_pos c3).trans rfl)
      exact k_iret C rfl (by rw [hL]) (by rw [hL]) dX2_winRally_64
  ·
    refine k_callV_r C (mX2_sideOf_2 l D cI cJ a0 a1 a2 a3 a4 a5 a6 p0 (X.1, X.2.1, X.2.2.1, X.2.2.2.1, X.2.2.2.2.1, X.2.2.2.2.2.1, X.2.2.2.2.2.2.1, X.2.2.2.2.2.2.2.1, X.2.2.2.2.2.2.2.2.1, X.2.2.2.2.2.2.2.2.2.1, X.2.2.2.2.2.2.2.2.2.2.1, (X.2.2.2.2.2.2.2.2.2.2.2.1 + 1), (X.2.2.2.2.2.2.2.2.2.2.2.2.1 + X.2.2.2.2.2.2.2.2.1), X.2.2.2.2.2.2.2.2.2.2.2.2.2) c1) (cwV 1 C.2.2.2.2.1 (kGV q252 q254 q2 q35 q255) rfl rfl rfl ⟨rfl, hdX2_sideOf⟩ ⟨Nat.le_of_ble_eq_true rfl, Nat.le_of_ble_eq_true rfl⟩) [0, 1, 2, 3, 4, 5, 6] [] [0, 1, 2, 3, 4, 5, 6] [] ([(a0, cF a1 a2 a3 a4 a5 a6 (X.2.2.2.2.2.2.1, X.2.2.2.2.2.2.2.1, X.2.2.2.2.2.2.2.2.1, X.2.2.2.2.2.2.2.2.2.1, X.2.2.2.2.2.2.2.2.2.2.1, (X.2.2.2.2.2.2.2.2.2.2.2.1 + 1), (X.2.2.2.2.2.2.2.2.2.2.2.2.1 + X.2.2.2.2.2.2.2.2.1), X.2.2.2.2.2.2.2.2.2.2.2.2.2)), (a1, cS X.1), (a2, cS X.2.1), (a3, cB X.2.2.1), (a4, cB X.2.2.2.1), (a5, cB X.2.2.2.2.1), (a6, cB X.2.2.2.2.2.1)]) rfl rfl rfl rfl (by decide) [a0, a1, a2, a3, a4, a5, a6] rfl rfl rfl rfl 0 2 rfl rfl rfl (Nat.le_of_ble_eq_true rfl) ⟨Nat.zero_le _, Nat.zero_le _⟩ rfl dX2_winRally_25 ?_
    refine k_dup C rfl dX2_winRally_28 ?_
    refine k_getNX1 C 2 2 rfl (by decide) rfl qn2 rfl dX2_winRally_29 ?_
    refine k_iconst C 1 (by decide) dX2_winRally_32 ?_
    refine k_iadd C dX2_winRally_33 ?_
    refine k_putNX1 C [(a0, cF a1 a2 a3 a4 a5 a6 (X.2.2.2.2.2.2.1, X.2.2.2.2.2.2.2.1, X.2.2.2.2.2.2.2.2.1, X.2.2.2.2.2.2.2.2.2.1, X.2.2.2.2.2.2.2.2.2.2.1, (X.2.2.2.2.2.2.2.2.2.2.2.1 + 1), (X.2.2.2.2.2.2.2.2.2.2.2.2.1 + X.2.2.2.2.2.2.2.2.1), X.2.2.2.2.2.2.2.2.2.2.2.2.2)), (a1, cS X.1), (a2, cS (X.2.1.1, X.2.1.2.1, (X.2.1.2.2.1 + 1), X.2.1.2.2.2)), (a3, cB X.2.2.1), (a4, cB X.2.2.2.1), (a5, cB X.2.2.2.2.1), (a6, cB X.2.2.2.2.2.1)] 2 2 rfl rfl (by decide) qn2 rfl rfl fdI rfl rfl (Nat.le_of_ble_eq_true rfl) dX2_winRally_34 ?_
    refine k_aload_n C dX2_winRally_37 0 rfl ?_
    refine k_callV_v C (mX2_closeRally l D cI cJ a0 a1 a2 a3 a4 a5 a6 (X.1, (X.2.1.1, X.2.1.2.1, (X.2.1.2.2.1 + 1), X.2.1.2.2.2), X.2.2.1, X.2.2.2.1, X.2.2.2.2.1, X.2.2.2.2.2.1, X.2.2.2.2.2.2.1, X.2.2.2.2.2.2.2.1, X.2.2.2.2.2.2.2.2.1, X.2.2.2.2.2.2.2.2.2.1, X.2.2.2.2.2.2.2.2.2.2.1, (X.2.2.2.2.2.2.2.2.2.2.2.1 + 1), (X.2.2.2.2.2.2.2.2.2.2.2.2.1 + X.2.2.2.2.2.2.2.2.1), X.2.2.2.2.2.2.2.2.2.2.2.2.2)) (cwV 0 C.2.2.2.2.1 (kGV q569 q571 q24 q35 q572) rfl rfl rfl ⟨rfl, hdX2_closeRally⟩ ⟨Nat.le_of_ble_eq_true rfl, Nat.le_of_ble_eq_true rfl⟩) [0, 1, 2, 3, 4, 5, 6] [] [0, 1, 2, 3, 4, 5, 6] [] (wC a0 a1 a2 a3 a4 a5 a6 (fX2_closeRally (X.1, (X.2.1.1, X.2.1.2.1, (X.2.1.2.2.1 + 1), X.2.1.2.2.2), X.2.2.1, X.2.2.2.1, X.2.2.2.2.1, X.2.2.2.2.2.1, X.2.2.2.2.2.2.1, X.2.2.2.2.2.2.2.1, X.2.2.2.2.2.2.2.2.1, X.2.2.2.2.2.2.2.2.2.1, X.2.2.2.2.2.2.2.2.2.2.1, (X.2.2.2.2.2.2.2.2.2.2.2.1 + 1), (X.2.2.2.2.2.2.2.2.2.2.2.2.1 + X.2.2.2.2.2.2.2.2.1), X.2.2.2.2.2.2.2.2.2.2.2.2.2))) rfl rfl rfl rfl (by decide) [a0, a1, a2, a3, a4, a5, a6] rfl rfl rfl rfl 0 2 rfl rfl rfl (Nat.le_of_ble_eq_true rfl) ⟨Nat.zero_le _, Nat.zero_le _⟩ rfl dX2_winRally_38 ?_
    generalize ezz5 : fX2_closeRally (X.1, (X.2.1.1, X.2.1.2.1, (X.2.1.2.2.1 + 1), X.2.1.2.2.2), X.2.2.1, X.2.2.2.1, X.2.2.2.2.1, X.2.2.2.2.2.1, X.2.2.2.2.2.2.1, X.2.2.2.2.2.2.2.1, X.2.2.2.2.2.2.2.2.1, X.2.2.2.2.2.2.2.2.2.1, X.2.2.2.2.2.2.2.2.2.2.1, (X.2.2.2.2.2.2.2.2.2.2.2.1 + 1), (X.2.2.2.2.2.2.2.2.2.2.2.2.1 + X.2.2.2.2.2.2.2.2.1), X.2.2.2.2.2.2.2.2.2.2.2.2.2) = zz5
    refine k_iload_n C dX2_winRally_41 1 rfl ?_
    refine k_aload_n C dX2_winRally_42 0 rfl ?_
    refine k_getX2 C 0 6 rfl (by decide) rfl q128 rfl dX2_winRally_43 ?_
    refine k_icmp_ne C 56 (by decide) dX2_winRally_46 (fun c6 => ?_) (fun c6 => ?_)
    ·
      refine k_aload_n C dX2_winRally_56 0 rfl ?_
      refine k_iload_n C dX2_winRally_57 1 rfl ?_
      refine k_putX2 C [(a0, cF a1 a2 a3 a4 a5 a6 (p0, zz5.2.2.2.2.2.2.2)), (a1, cS zz5.1), (a2, cS zz5.2.1), (a3, cB zz5.2.2.1), (a4, cB zz5.2.2.2.1), (a5, cB zz5.2.2.2.2.1), (a6, cB zz5.2.2.2.2.2.1)] 0 6 rfl rfl (by decide) q128 rfl rfl fdI rfl rfl (Nat.le_of_ble_eq_true rfl) dX2_winRally_58 ?_
      refine k_iconst C 2 (by decide) dX2_winRally_61 ?_
      refine k_iload_n C dX2_winRally_62 1 rfl ?_
      refine k_iadd C dX2_winRally_63 ?_
      have hL : fX2_winRally p0 X = ((2 + p0), (zz5.1, zz5.2.1, zz5.2.2.1, zz5.2.2.2.1, zz5.2.2.2.2.1, zz5.2.2.2.2.2.1, p0, zz5.2.2.2.2.2.2.2)) := by subst ezz5; exact (if_neg c1).trans ((if_neg c6).trans rfl)
      exact k_iret C rfl (by rw [hL]) (by rw [hL]) dX2_winRally_64
    ·
      refine k_aload_n C dX2_winRally_49 0 rfl ?_
      refine k_callV_v C (mX2_winPoint l D cI cJ a0 a1 a2 a3 a4 a5 a6 zz5) (cwV 0 C.2.2.2.2.1 (kGV q634 q636 q30 q35 q637) rfl rfl rfl ⟨rfl, hdX2_winPoint⟩ ⟨Nat.le_of_ble_eq_true rfl, Nat.le_of_ble_eq_true rfl⟩) [0, 1, 2, 3, 4, 5, 6] [] [0, 1, 2, 3, 4, 5, 6] [] (wC a0 a1 a2 a3 a4 a5 a6 (fX2_winPoint zz5)) rfl rfl rfl rfl (by decide) [a0, a1, a2, a3, a4, a5, a6] rfl rfl rfl rfl 0 2 rfl rfl rfl (Nat.le_of_ble_eq_true rfl) ⟨Nat.zero_le _, Nat.zero_le _⟩ rfl dX2_winRally_50 ?_
      generalize ezz7 : fX2_winPoint zz5 = zz7
      refine k_goto C 61 (by decide) dX2_winRally_53 ?_
      refine k_iconst C 2 (by decide) dX2_winRally_61 ?_
      refine k_iload_n C dX2_winRally_62 1 rfl ?_
      refine k_iadd C dX2_winRally_63 ?_
      have hL : fX2_winRally p0 X = ((2 + p0), zz7) := by subst ezz7; subst ezz5; exact (if_neg c1).trans ((if_pos c6).trans rfl)
      exact k_iret C rfl (by rw [hL]) (by rw [hL]) dX2_winRally_64

theorem hdX2_replayRally : yX2_replayRally.cls ≠ "java/lang/invoke/MethodHandle" ∧ yX2_replayRally.cls ≠ "java/lang/invoke/VarHandle" ∧ (parseMethodDescriptor yX2_replayRally.desc).map (fun d => d.parameters.length) = some 0 := by decide +kernel
noncomputable def fX2_replayRally (X : Co) : Co :=
  (fX2_closeRally (X.1, X.2.1, X.2.2.1, X.2.2.2.1, X.2.2.2.2.1, X.2.2.2.2.2.1, X.2.2.2.2.2.2.1, X.2.2.2.2.2.2.2.1, X.2.2.2.2.2.2.2.2.1, X.2.2.2.2.2.2.2.2.2.1, X.2.2.2.2.2.2.2.2.2.2.1, X.2.2.2.2.2.2.2.2.2.2.2.1, X.2.2.2.2.2.2.2.2.2.2.2.2.1, (X.2.2.2.2.2.2.2.2.2.2.2.2.2.1 + 1), X.2.2.2.2.2.2.2.2.2.2.2.2.2.2))
set_option maxHeartbeats 4000000 in
set_option maxRecDepth 100000 in
theorem mX2_replayRally (l : Launch) (D : va_G) (cI cJ : ClassId) (a0 a1 a2 a3 a4 a5 a6 : Nat) (X : Co)  : kCv l D cI cJ yX2_replayRally (.code yX2_replayRally cX2_replayRally 1 none) { frames := 1, cells := 0, slots := 0, locals := 20 } [.ref a0] (wC a0 a1 a2 a3 a4 a5 a6 X) (wC a0 a1 a2 a3 a4 a5 a6 (fX2_replayRally X)) := by
  refine fun sz => k_of (lv := [(0, .ref a0)]) (by decide) sz (by exact Nat.le_of_ble_eq_true rfl) rfl ?_
  intro p e s m args below meth c hsz C
  refine k_aload_n C dX2_replayRally_0 0 rfl ?_
  refine k_dup C rfl dX2_replayRally_1 ?_
  refine k_getX2 C 0 13 rfl (by decide) rfl q135 rfl dX2_replayRally_2 ?_
  refine k_iconst C 1 (by decide) dX2_replayRally_5 ?_
  refine k_iadd C dX2_replayRally_6 ?_
  refine k_putX2 C [(a0, cF a1 a2 a3 a4 a5 a6 (X.2.2.2.2.2.2.1, X.2.2.2.2.2.2.2.1, X.2.2.2.2.2.2.2.2.1, X.2.2.2.2.2.2.2.2.2.1, X.2.2.2.2.2.2.2.2.2.2.1, X.2.2.2.2.2.2.2.2.2.2.2.1, X.2.2.2.2.2.2.2.2.2.2.2.2.1, (X.2.2.2.2.2.2.2.2.2.2.2.2.2.1 + 1), X.2.2.2.2.2.2.2.2.2.2.2.2.2.2)), (a1, cS X.1), (a2, cS X.2.1), (a3, cB X.2.2.1), (a4, cB X.2.2.2.1), (a5, cB X.2.2.2.2.1), (a6, cB X.2.2.2.2.2.1)] 0 13 rfl rfl (by decide) q135 rfl rfl fdI rfl rfl (Nat.le_of_ble_eq_true rfl) dX2_replayRally_7 ?_
  refine k_aload_n C dX2_replayRally_10 0 rfl ?_
  refine k_callV_v C (mX2_closeRally l D cI cJ a0 a1 a2 a3 a4 a5 a6 (X.1, X.2.1, X.2.2.1, X.2.2.2.1, X.2.2.2.2.1, X.2.2.2.2.2.1, X.2.2.2.2.2.2.1, X.2.2.2.2.2.2.2.1, X.2.2.2.2.2.2.2.2.1, X.2.2.2.2.2.2.2.2.2.1, X.2.2.2.2.2.2.2.2.2.2.1, X.2.2.2.2.2.2.2.2.2.2.2.1, X.2.2.2.2.2.2.2.2.2.2.2.2.1, (X.2.2.2.2.2.2.2.2.2.2.2.2.2.1 + 1), X.2.2.2.2.2.2.2.2.2.2.2.2.2.2)) (cwV 0 C.2.2.2.2.1 (kGV q569 q571 q24 q35 q572) rfl rfl rfl ⟨rfl, hdX2_closeRally⟩ ⟨Nat.le_of_ble_eq_true rfl, Nat.le_of_ble_eq_true rfl⟩) [0, 1, 2, 3, 4, 5, 6] [] [0, 1, 2, 3, 4, 5, 6] [] (wC a0 a1 a2 a3 a4 a5 a6 (fX2_closeRally (X.1, X.2.1, X.2.2.1, X.2.2.2.1, X.2.2.2.2.1, X.2.2.2.2.2.1, X.2.2.2.2.2.2.1, X.2.2.2.2.2.2.2.1, X.2.2.2.2.2.2.2.2.1, X.2.2.2.2.2.2.2.2.2.1, X.2.2.2.2.2.2.2.2.2.2.1, X.2.2.2.2.2.2.2.2.2.2.2.1, X.2.2.2.2.2.2.2.2.2.2.2.2.1, (X.2.2.2.2.2.2.2.2.2.2.2.2.2.1 + 1), X.2.2.2.2.2.2.2.2.2.2.2.2.2.2))) rfl rfl rfl rfl (by decide) [a0, a1, a2, a3, a4, a5, a6] rfl rfl rfl rfl 0 2 rfl rfl rfl (Nat.le_of_ble_eq_true rfl) ⟨Nat.zero_le _, Nat.zero_le _⟩ rfl dX2_replayRally_11 ?_
  generalize ezz1 : fX2_closeRally (X.1, X.2.1, X.2.2.1, X.2.2.2.1, X.2.2.2.2.1, X.2.2.2.2.2.1, X.2.2.2.2.2.2.1, X.2.2.2.2.2.2.2.1, X.2.2.2.2.2.2.2.2.1, X.2.2.2.2.2.2.2.2.2.1, X.2.2.2.2.2.2.2.2.2.2.1, X.2.2.2.2.2.2.2.2.2.2.2.1, X.2.2.2.2.2.2.2.2.2.2.2.2.1, (X.2.2.2.2.2.2.2.2.2.2.2.2.2.1 + 1), X.2.2.2.2.2.2.2.2.2.2.2.2.2.2) = zz1
  have hL : fX2_replayRally X = zz1 := by subst ezz1; exact rfl
  exact k_vret C rfl (by rw [hL]) dX2_replayRally_14

theorem hdX2_isMatchOver : yX2_isMatchOver.cls ≠ "java/lang/invoke/MethodHandle" ∧ yX2_isMatchOver.cls ≠ "java/lang/invoke/VarHandle" ∧ (parseMethodDescriptor yX2_isMatchOver.desc).map (fun d => d.parameters.length) = some 0 := by decide +kernel
noncomputable def fX2_isMatchOver (X : Co) : Int32 :=
  if X.2.2.2.2.2.2.2.2.2.2.1 = (-1) then 0
  else 1
set_option maxHeartbeats 4000000 in
set_option maxRecDepth 100000 in
theorem mX2_isMatchOver (l : Launch) (D : va_G) (cI cJ : ClassId) (a0 a1 a2 a3 a4 a5 a6 : Nat) (X : Co)  : kCi l D cI cJ yX2_isMatchOver (.code yX2_isMatchOver cX2_isMatchOver 1 (some .boolean)) { frames := 0, cells := 0, slots := 0, locals := 0 } [.ref a0] (wC a0 a1 a2 a3 a4 a5 a6 X) (fX2_isMatchOver X) (wC a0 a1 a2 a3 a4 a5 a6 X) := by
  refine fun sz => k_of (lv := [(0, .ref a0)]) (by decide) sz (by exact Nat.le_of_ble_eq_true rfl) rfl ?_
  intro p e s m args below meth c hsz C
  refine k_aload_n C dX2_isMatchOver_0 0 rfl ?_
  refine k_getX2 C 0 10 rfl (by decide) rfl q132 rfl dX2_isMatchOver_1 ?_
  refine k_iconst C (-1) (by decide) dX2_isMatchOver_4 ?_
  refine k_icmp_eq C 12 (by decide) dX2_isMatchOver_5 (fun c1 => ?_) (fun c1 => ?_)
  ·
    refine k_iconst C 0 (by decide) dX2_isMatchOver_12 ?_
    have hL : fX2_isMatchOver X = 0 := by exact (if_pos c1).trans rfl
    exact k_zret C rfl rfl (hL.symm) rfl dX2_isMatchOver_13
  ·
    refine k_iconst C 1 (by decide) dX2_isMatchOver_8 ?_
    refine k_goto C 13 (by decide) dX2_isMatchOver_9 ?_
    have hL : fX2_isMatchOver X = 1 := by exact (if_neg c1).trans rfl
    exact k_zret C rfl rfl (hL.symm) rfl dX2_isMatchOver_13

theorem hdX2_canBeSet : yX2_canBeSet.cls ≠ "java/lang/invoke/MethodHandle" ∧ yX2_canBeSet.cls ≠ "java/lang/invoke/VarHandle" ∧ (parseMethodDescriptor yX2_canBeSet.desc).map (fun d => d.parameters.length) = some 0 := by decide +kernel
noncomputable def fX2_canBeSet (X : Co) : Int32 :=
  if X.2.2.2.2.2.2.2.1 = 0 then (if X.2.2.2.2.2.2.2.2.2.1 = 12 then (if X.1.1 = X.2.1.1 then (if X.1.1 = 10 then 1
        else (if X.1.1 = 11 then 1
          else 0))
      else 0)
    else 0)
  else 0
set_option maxHeartbeats 4000000 in
set_option maxRecDepth 100000 in
theorem mX2_canBeSet (l : Launch) (D : va_G) (cI cJ : ClassId) (a0 a1 a2 a3 a4 a5 a6 : Nat) (X : Co)  : kCi l D cI cJ yX2_canBeSet (.code yX2_canBeSet cX2_canBeSet 1 (some .boolean)) { frames := 0, cells := 0, slots := 0, locals := 0 } [.ref a0] (wC a0 a1 a2 a3 a4 a5 a6 X) (fX2_canBeSet X) (wC a0 a1 a2 a3 a4 a5 a6 X) := by
  refine fun sz => k_of (lv := [(0, .ref a0)]) (by decide) sz (by exact Nat.le_of_ble_eq_true rfl) rfl ?_
  intro p e s m args below meth c hsz C
  refine k_aload_n C dX2_canBeSet_0 0 rfl ?_
  refine k_getX2 C 0 7 rfl (by decide) rfl q129 rfl dX2_canBeSet_1 ?_
  refine k_if_ne C 61 (by decide) dX2_canBeSet_4 (fun c1 => ?_) (fun c1 => ?_)
  ·
    refine k_iconst C 0 (by decide) dX2_canBeSet_61 ?_
    have hL : fX2_canBeSet X = 0 := by exact (if_neg c1).trans rfl
    exact k_zret C rfl rfl (hL.symm) rfl dX2_canBeSet_62
  ·
    refine k_aload_n C dX2_canBeSet_7 0 rfl ?_
    refine k_getX2 C 0 9 rfl (by decide) rfl q131 rfl dX2_canBeSet_8 ?_
    refine k_bipush C 12 (by decide) dX2_canBeSet_11 ?_
    refine k_icmp_ne C 61 (by decide) dX2_canBeSet_13 (fun c2 => ?_) (fun c2 => ?_)
    ·
      refine k_iconst C 0 (by decide) dX2_canBeSet_61 ?_
      have hL : fX2_canBeSet X = 0 := by exact (if_pos c1).trans ((if_neg c2).trans rfl)
      exact k_zret C rfl rfl (hL.symm) rfl dX2_canBeSet_62
    ·
      refine k_aload_n C dX2_canBeSet_16 0 rfl ?_
      refine k_getX2 C 0 0 rfl (by decide) rfl q122 rfl dX2_canBeSet_17 ?_
      refine k_getNX1 C 1 0 rfl (by decide) rfl qn0 rfl dX2_canBeSet_20 ?_
      refine k_aload_n C dX2_canBeSet_23 0 rfl ?_
      refine k_getX2 C 0 1 rfl (by decide) rfl q123 rfl dX2_canBeSet_24 ?_
      refine k_getNX1 C 2 0 rfl (by decide) rfl qn0 rfl dX2_canBeSet_27 ?_
      refine k_icmp_ne C 61 (by decide) dX2_canBeSet_30 (fun c3 => ?_) (fun c3 => ?_)
      ·
        refine k_iconst C 0 (by decide) dX2_canBeSet_61 ?_
        have hL : fX2_canBeSet X = 0 := by exact (if_pos c1).trans ((if_pos c2).trans ((if_neg c3).trans rfl))
        exact k_zret C rfl rfl (hL.symm) rfl dX2_canBeSet_62
      ·
        refine k_aload_n C dX2_canBeSet_33 0 rfl ?_
        refine k_getX2 C 0 0 rfl (by decide) rfl q122 rfl dX2_canBeSet_34 ?_
        refine k_getNX1 C 1 0 rfl (by decide) rfl qn0 rfl dX2_canBeSet_37 ?_
        refine k_bipush C 10 (by decide) dX2_canBeSet_40 ?_
        refine k_icmp_eq C 57 (by decide) dX2_canBeSet_42 (fun c4 => ?_) (fun c4 => ?_)
        ·
          refine k_iconst C 1 (by decide) dX2_canBeSet_57 ?_
          refine k_goto C 62 (by decide) dX2_canBeSet_58 ?_
          have hL : fX2_canBeSet X = 1 := by exact (if_pos c1).trans ((if_pos c2).trans ((if_pos c3).trans ((if_pos c4).trans rfl)))
          exact k_zret C rfl rfl (hL.symm) rfl dX2_canBeSet_62
        ·
          refine k_aload_n C dX2_canBeSet_45 0 rfl ?_
          refine k_getX2 C 0 0 rfl (by decide) rfl q122 rfl dX2_canBeSet_46 ?_
          refine k_getNX1 C 1 0 rfl (by decide) rfl qn0 rfl dX2_canBeSet_49 ?_
          refine k_bipush C 11 (by decide) dX2_canBeSet_52 ?_
          refine k_icmp_ne C 61 (by decide) dX2_canBeSet_54 (fun c5 => ?_) (fun c5 => ?_)
          ·
            refine k_iconst C 0 (by decide) dX2_canBeSet_61 ?_
            have hL : fX2_canBeSet X = 0 := by exact (if_pos c1).trans ((if_pos c2).trans ((if_pos c3).trans ((if_neg c4).trans ((if_neg c5).trans rfl))))
            exact k_zret C rfl rfl (hL.symm) rfl dX2_canBeSet_62
          ·
            refine k_iconst C 1 (by decide) dX2_canBeSet_57 ?_
            refine k_goto C 62 (by decide) dX2_canBeSet_58 ?_
            have hL : fX2_canBeSet X = 1 := by exact (if_pos c1).trans ((if_pos c2).trans ((if_pos c3).trans ((if_neg c4).trans ((if_pos c5).trans rfl))))
            exact k_zret C rfl rfl (hL.symm) rfl dX2_canBeSet_62

theorem hdX2_play : yX2_play.cls ≠ "java/lang/invoke/MethodHandle" ∧ yX2_play.cls ≠ "java/lang/invoke/VarHandle" ∧ (parseMethodDescriptor yX2_play.desc).map (fun d => d.parameters.length) = some 4 := by decide +kernel
noncomputable def fX2_play (p0 : Int32) (p1 : Int32) (p2 : Int32) (p3 : Int32) (X : Co) : Co :=
  if p0 = 0 then ((X.1.1, X.1.2.1, X.1.2.2.1, (X.1.2.2.2 + 1)), X.2.1, (fX0_launch p1 p2 p3 X.2.2.1), (fX0_fly 1000000 (fX0_become X.2.2.2.1 (fX0_launch p1 p2 p3 X.2.2.1))), X.2.2.2.2.1, X.2.2.2.2.2.1, X.2.2.2.2.2.2.1, X.2.2.2.2.2.2.2.1, (X.2.2.2.2.2.2.2.2.1 + 1), X.2.2.2.2.2.2.2.2.2)
  else (X.1, (X.2.1.1, X.2.1.2.1, X.2.1.2.2.1, (X.2.1.2.2.2 + 1)), (fX0_launch p1 p2 p3 X.2.2.1), (fX0_fly 1000000 (fX0_become X.2.2.2.1 (fX0_launch p1 p2 p3 X.2.2.1))), X.2.2.2.2.1, X.2.2.2.2.2.1, X.2.2.2.2.2.2.1, X.2.2.2.2.2.2.2.1, (X.2.2.2.2.2.2.2.2.1 + 1), X.2.2.2.2.2.2.2.2.2)
set_option maxHeartbeats 4000000 in
set_option maxRecDepth 100000 in
theorem mX2_play (l : Launch) (D : va_G) (cI cJ : ClassId) (a0 a1 a2 a3 a4 a5 a6 : Nat) (p0 : Int32) (p1 : Int32) (p2 : Int32) (p3 : Int32) (X : Co)  : kCv l D cI cJ yX2_play (.code yX2_play cX2_play 5 none) { frames := 5, cells := 0, slots := 0, locals := 106 } [.ref a0, .int p0, .int p1, .int p2, .int p3] (wC a0 a1 a2 a3 a4 a5 a6 X) (wC a0 a1 a2 a3 a4 a5 a6 (fX2_play p0 p1 p2 p3 X)) := by
  refine fun sz => k_of (lv := [(0, .ref a0), (1, .int p0), (2, .int p1), (3, .int p2), (4, .int p3)]) (by decide) sz (by exact Nat.le_of_ble_eq_true rfl) rfl ?_
  intro p e s m args below meth c hsz C
  refine k_aload_n C dX2_play_0 0 rfl ?_
  refine k_getX2 C 0 2 rfl (by decide) rfl q124 rfl dX2_play_1 ?_
  refine k_iload_n C dX2_play_4 2 rfl ?_
  refine k_iload_n C dX2_play_5 3 rfl ?_
  refine k_iload C dX2_play_6 4 rfl ?_
  refine k_callN_v C (mX0_launch l D cI cJ a3 p1 p2 p3 X.2.2.1) ⟨va_cnB 3 C.2.2.2.2.1 (kGN q393) rfl rfl rfl (C.2.2.2.2.2.2.1 _ qn13) (C.2.2.2.2.1 _ q37) hdX0_launch ⟨Nat.le_of_ble_eq_true rfl, Nat.le_of_ble_eq_true rfl⟩, C.2.2.2.2.1 _ q392, C.2.2.2.2.1 _ q22⟩ [3] [0, 1, 2, 4, 5, 6] [0, 1, 2, 6, 3, 4, 5] [(a0, cF a1 a2 a3 a4 a5 a6 X.2.2.2.2.2.2), (a1, cS X.1), (a2, cS X.2.1), (a4, cB X.2.2.2.1), (a5, cB X.2.2.2.2.1), (a6, cB X.2.2.2.2.2.1)] ([(a0, cF a1 a2 a3 a4 a5 a6 X.2.2.2.2.2.2), (a1, cS X.1), (a2, cS X.2.1), (a3, cB (fX0_launch p1 p2 p3 X.2.2.1)), (a4, cB X.2.2.2.1), (a5, cB X.2.2.2.2.1), (a6, cB X.2.2.2.2.2.1)]) rfl rfl rfl rfl (by decide) [a3] rfl rfl rfl rfl 3 0 rfl rfl rfl (Nat.le_of_ble_eq_true rfl) ⟨Nat.zero_le _, Nat.zero_le _⟩ rfl dX2_play_8 ?_
  generalize ezz1 : fX0_launch p1 p2 p3 X.2.2.1 = zz1
  refine k_aload_n C dX2_play_11 0 rfl ?_
  refine k_getX2 C 0 3 rfl (by decide) rfl q125 rfl dX2_play_12 ?_
  refine k_aload_n C dX2_play_15 0 rfl ?_
  refine k_getX2 C 0 2 rfl (by decide) rfl q124 rfl dX2_play_16 ?_
  refine k_callN_v C (mX0_become l D cI cJ a4 a3 X.2.2.2.1 zz1) ⟨va_cnB 1 C.2.2.2.2.1 (kGN q311) rfl rfl rfl (C.2.2.2.2.2.2.1 _ qn14) (C.2.2.2.2.1 _ q37) hdX0_become ⟨Nat.le_of_ble_eq_true rfl, Nat.le_of_ble_eq_true rfl⟩, C.2.2.2.2.1 _ q310, C.2.2.2.2.1 _ q8⟩ [4, 3] [0, 1, 2, 5, 6] [0, 1, 2, 6, 5, 3, 4] [(a0, cF a1 a2 a3 a4 a5 a6 X.2.2.2.2.2.2), (a1, cS X.1), (a2, cS X.2.1), (a5, cB X.2.2.2.2.1), (a6, cB X.2.2.2.2.2.1)] ([(a0, cF a1 a2 a3 a4 a5 a6 X.2.2.2.2.2.2), (a1, cS X.1), (a2, cS X.2.1), (a3, cB zz1), (a4, cB (fX0_become X.2.2.2.1 zz1)), (a5, cB X.2.2.2.2.1), (a6, cB X.2.2.2.2.2.1)]) rfl rfl rfl rfl (by decide) [a4, a3] rfl rfl rfl rfl 4 0 rfl rfl rfl (Nat.le_of_ble_eq_true rfl) ⟨Nat.zero_le _, Nat.zero_le _⟩ rfl dX2_play_19 ?_
  generalize ezz2 : fX0_become X.2.2.2.1 zz1 = zz2
  refine k_aload_n C dX2_play_22 0 rfl ?_
  refine k_getX2 C 0 3 rfl (by decide) rfl q125 rfl dX2_play_23 ?_
  refine k_ldc C q385 dX2_play_26 ?_
  refine k_callN_v C (mX0_fly l D cI cJ a4 1000000 zz2) ⟨va_cnB 1 C.2.2.2.2.1 (kGN q315) rfl rfl rfl (C.2.2.2.2.2.2.1 _ qn15) (C.2.2.2.2.1 _ q37) hdX0_fly ⟨Nat.le_of_ble_eq_true rfl, Nat.le_of_ble_eq_true rfl⟩, C.2.2.2.2.1 _ q314, C.2.2.2.2.1 _ q9⟩ [4] [0, 1, 2, 3, 5, 6] [0, 1, 2, 3, 6, 4, 5] [(a0, cF a1 a2 a3 a4 a5 a6 X.2.2.2.2.2.2), (a1, cS X.1), (a2, cS X.2.1), (a3, cB zz1), (a5, cB X.2.2.2.2.1), (a6, cB X.2.2.2.2.2.1)] ([(a0, cF a1 a2 a3 a4 a5 a6 X.2.2.2.2.2.2), (a1, cS X.1), (a2, cS X.2.1), (a3, cB zz1), (a4, cB (fX0_fly 1000000 zz2)), (a5, cB X.2.2.2.2.1), (a6, cB X.2.2.2.2.2.1)]) rfl rfl rfl rfl (by decide) [a4] rfl rfl rfl rfl 4 0 rfl rfl rfl (Nat.le_of_ble_eq_true rfl) ⟨Nat.zero_le _, Nat.zero_le _⟩ rfl dX2_play_28 ?_
  generalize ezz3 : fX0_fly 1000000 zz2 = zz3
  refine k_aload_n C dX2_play_31 0 rfl ?_
  refine k_dup C rfl dX2_play_32 ?_
  refine k_getX2 C 0 8 rfl (by decide) rfl q130 rfl dX2_play_33 ?_
  refine k_iconst C 1 (by decide) dX2_play_36 ?_
  refine k_iadd C dX2_play_37 ?_
  refine k_putX2 C [(a0, cF a1 a2 a3 a4 a5 a6 (X.2.2.2.2.2.2.1, X.2.2.2.2.2.2.2.1, (X.2.2.2.2.2.2.2.2.1 + 1), X.2.2.2.2.2.2.2.2.2)), (a1, cS X.1), (a2, cS X.2.1), (a3, cB zz1), (a4, cB zz3), (a5, cB X.2.2.2.2.1), (a6, cB X.2.2.2.2.2.1)] 0 8 rfl rfl (by decide) q130 rfl rfl fdI rfl rfl (Nat.le_of_ble_eq_true rfl) dX2_play_38 ?_
  refine k_aload_n C dX2_play_41 0 rfl ?_
  refine k_iload_n C dX2_play_42 1 rfl ?_
  by_cases c4 : p0 = 0
  ·
    refine k_callV_r C (mX2_sideOf_1 l D cI cJ a0 a1 a2 a3 a4 a5 a6 p0 (X.1, X.2.1, zz1, zz3, X.2.2.2.2.1, X.2.2.2.2.2.1, X.2.2.2.2.2.2.1, X.2.2.2.2.2.2.2.1, (X.2.2.2.2.2.2.2.2.1 + 1), X.2.2.2.2.2.2.2.2.2) c4) (cwV 1 C.2.2.2.2.1 (kGV q252 q254 q2 q35 q255) rfl rfl rfl ⟨rfl, hdX2_sideOf⟩ ⟨Nat.le_of_ble_eq_true rfl, Nat.le_of_ble_eq_true rfl⟩) [0, 1, 2, 3, 4, 5, 6] [] [0, 1, 2, 3, 4, 5, 6] [] ([(a0, cF a1 a2 a3 a4 a5 a6 (X.2.2.2.2.2.2.1, X.2.2.2.2.2.2.2.1, (X.2.2.2.2.2.2.2.2.1 + 1), X.2.2.2.2.2.2.2.2.2)), (a1, cS X.1), (a2, cS X.2.1), (a3, cB zz1), (a4, cB zz3), (a5, cB X.2.2.2.2.1), (a6, cB X.2.2.2.2.2.1)]) rfl rfl rfl rfl (by decide) [a0, a1, a2, a3, a4, a5, a6] rfl rfl rfl rfl 0 2 rfl rfl rfl (Nat.le_of_ble_eq_true rfl) ⟨Nat.zero_le _, Nat.zero_le _⟩ rfl dX2_play_43 ?_
    refine k_dup C rfl dX2_play_46 ?_
    refine k_getNX1 C 1 3 rfl (by decide) rfl qn3 rfl dX2_play_47 ?_
    refine k_iconst C 1 (by decide) dX2_play_50 ?_
    refine k_iadd C dX2_play_51 ?_
    refine k_putNX1 C [(a0, cF a1 a2 a3 a4 a5 a6 (X.2.2.2.2.2.2.1, X.2.2.2.2.2.2.2.1, (X.2.2.2.2.2.2.2.2.1 + 1), X.2.2.2.2.2.2.2.2.2)), (a1, cS (X.1.1, X.1.2.1, X.1.2.2.1, (X.1.2.2.2 + 1))), (a2, cS X.2.1), (a3, cB zz1), (a4, cB zz3), (a5, cB X.2.2.2.2.1), (a6, cB X.2.2.2.2.2.1)] 1 3 rfl rfl (by decide) qn3 rfl rfl fdI rfl rfl (Nat.le_of_ble_eq_true rfl) dX2_play_52 ?_
    have hL : fX2_play p0 p1 p2 p3 X = ((X.1.1, X.1.2.1, X.1.2.2.1, (X.1.2.2.2 + 1)), X.2.1, zz1, zz3, X.2.2.2.2.1, X.2.2.2.2.2.1, X.2.2.2.2.2.2.1, X.2.2.2.2.2.2.2.1, (X.2.2.2.2.2.2.2.2.1 + 1), X.2.2.2.2.2.2.2.2.2) := by subst ezz3; subst ezz2; subst ezz1; exact (if_pos c4).trans rfl
    exact k_vret C rfl (by rw [hL]) dX2_play_55
  ·
    refine k_callV_r C (mX2_sideOf_2 l D cI cJ a0 a1 a2 a3 a4 a5 a6 p0 (X.1, X.2.1, zz1, zz3, X.2.2.2.2.1, X.2.2.2.2.2.1, X.2.2.2.2.2.2.1, X.2.2.2.2.2.2.2.1, (X.2.2.2.2.2.2.2.2.1 + 1), X.2.2.2.2.2.2.2.2.2) c4) (cwV 1 C.2.2.2.2.1 (kGV q252 q254 q2 q35 q255) rfl rfl rfl ⟨rfl, hdX2_sideOf⟩ ⟨Nat.le_of_ble_eq_true rfl, Nat.le_of_ble_eq_true rfl⟩) [0, 1, 2, 3, 4, 5, 6] [] [0, 1, 2, 3, 4, 5, 6] [] ([(a0, cF a1 a2 a3 a4 a5 a6 (X.2.2.2.2.2.2.1, X.2.2.2.2.2.2.2.1, (X.2.2.2.2.2.2.2.2.1 + 1), X.2.2.2.2.2.2.2.2.2)), (a1, cS X.1), (a2, cS X.2.1), (a3, cB zz1), (a4, cB zz3), (a5, cB X.2.2.2.2.1), (a6, cB X.2.2.2.2.2.1)]) rfl rfl rfl rfl (by decide) [a0, a1, a2, a3, a4, a5, a6] rfl rfl rfl rfl 0 2 rfl rfl rfl (Nat.le_of_ble_eq_true rfl) ⟨Nat.zero_le _, Nat.zero_le _⟩ rfl dX2_play_43 ?_
    refine k_dup C rfl dX2_play_46 ?_
    refine k_getNX1 C 2 3 rfl (by decide) rfl qn3 rfl dX2_play_47 ?_
    refine k_iconst C 1 (by decide) dX2_play_50 ?_
    refine k_iadd C dX2_play_51 ?_
    refine k_putNX1 C [(a0, cF a1 a2 a3 a4 a5 a6 (X.2.2.2.2.2.2.1, X.2.2.2.2.2.2.2.1, (X.2.2.2.2.2.2.2.2.1 + 1), X.2.2.2.2.2.2.2.2.2)), (a1, cS X.1), (a2, cS (X.2.1.1, X.2.1.2.1, X.2.1.2.2.1, (X.2.1.2.2.2 + 1))), (a3, cB zz1), (a4, cB zz3), (a5, cB X.2.2.2.2.1), (a6, cB X.2.2.2.2.2.1)] 2 3 rfl rfl (by decide) qn3 rfl rfl fdI rfl rfl (Nat.le_of_ble_eq_true rfl) dX2_play_52 ?_
    have hL : fX2_play p0 p1 p2 p3 X = (X.1, (X.2.1.1, X.2.1.2.1, X.2.1.2.2.1, (X.2.1.2.2.2 + 1)), zz1, zz3, X.2.2.2.2.1, X.2.2.2.2.2.1, X.2.2.2.2.2.2.1, X.2.2.2.2.2.2.2.1, (X.2.2.2.2.2.2.2.2.1 + 1), X.2.2.2.2.2.2.2.2.2) := by subst ezz3; subst ezz2; subst ezz1; exact (if_neg c4).trans rfl
    exact k_vret C rfl (by rw [hL]) dX2_play_55

theorem hdX2_isEndedBy : yX2_isEndedBy.cls ≠ "java/lang/invoke/MethodHandle" ∧ yX2_isEndedBy.cls ≠ "java/lang/invoke/VarHandle" ∧ (parseMethodDescriptor yX2_isEndedBy.desc).map (fun d => d.parameters.length) = some 1 := by decide +kernel
noncomputable def fX2_isEndedBy (p0 : Int32) (X : Co) : Int32 :=
  if p0 < X.2.2.2.1.2.2.2.2.2.2.2.2.2.1 then 0
  else 1
set_option maxHeartbeats 4000000 in
set_option maxRecDepth 100000 in
theorem mX2_isEndedBy (l : Launch) (D : va_G) (cI cJ : ClassId) (a0 a1 a2 a3 a4 a5 a6 : Nat) (p0 : Int32) (X : Co)  : kCi l D cI cJ yX2_isEndedBy (.code yX2_isEndedBy cX2_isEndedBy 2 (some .boolean)) { frames := 0, cells := 0, slots := 0, locals := 0 } [.ref a0, .int p0] (wC a0 a1 a2 a3 a4 a5 a6 X) (fX2_isEndedBy p0 X) (wC a0 a1 a2 a3 a4 a5 a6 X) := by
  refine fun sz => k_of (lv := [(0, .ref a0), (1, .int p0)]) (by decide) sz (by exact Nat.le_of_ble_eq_true rfl) rfl ?_
  intro p e s m args below meth c hsz C
  refine k_aload_n C dX2_isEndedBy_0 0 rfl ?_
  refine k_getX2 C 0 3 rfl (by decide) rfl q125 rfl dX2_isEndedBy_1 ?_
  refine k_getNX0 C 4 9 rfl (by decide) rfl qn5 rfl dX2_isEndedBy_4 ?_
  refine k_iload_n C dX2_isEndedBy_7 1 rfl ?_
  refine k_icmp_gt C 15 (by decide) dX2_isEndedBy_8 (fun c1 => ?_) (fun c1 => ?_)
  ·
    refine k_iconst C 0 (by decide) dX2_isEndedBy_15 ?_
    have hL : fX2_isEndedBy p0 X = 0 := by exact (if_pos c1).trans rfl
    exact k_zret C rfl rfl (hL.symm) rfl dX2_isEndedBy_16
  ·
    refine k_iconst C 1 (by decide) dX2_isEndedBy_11 ?_
    refine k_goto C 16 (by decide) dX2_isEndedBy_12 ?_
    have hL : fX2_isEndedBy p0 X = 1 := by exact (if_neg c1).trans rfl
    exact k_zret C rfl rfl (hL.symm) rfl dX2_isEndedBy_16

theorem hdX2_lookAhead : yX2_lookAhead.cls ≠ "java/lang/invoke/MethodHandle" ∧ yX2_lookAhead.cls ≠ "java/lang/invoke/VarHandle" ∧ (parseMethodDescriptor yX2_lookAhead.desc).map (fun d => d.parameters.length) = some 1 := by decide +kernel
noncomputable def fX2_lookAhead (p0 : Int32) (X : Co) : Co :=
  (X.1, X.2.1, X.2.2.1, X.2.2.2.1, (fX0_fly p0 (fX0_become X.2.2.2.2.1 X.2.2.1)), X.2.2.2.2.2)
set_option maxHeartbeats 4000000 in
set_option maxRecDepth 100000 in
theorem mX2_lookAhead (l : Launch) (D : va_G) (cI cJ : ClassId) (a0 a1 a2 a3 a4 a5 a6 : Nat) (p0 : Int32) (X : Co)  : kCv l D cI cJ yX2_lookAhead (.code yX2_lookAhead cX2_lookAhead 2 none) { frames := 5, cells := 0, slots := 0, locals := 106 } [.ref a0, .int p0] (wC a0 a1 a2 a3 a4 a5 a6 X) (wC a0 a1 a2 a3 a4 a5 a6 (fX2_lookAhead p0 X)) := by
  refine fun sz => k_of (lv := [(0, .ref a0), (1, .int p0)]) (by decide) sz (by exact Nat.le_of_ble_eq_true rfl) rfl ?_
  intro p e s m args below meth c hsz C
  refine k_aload_n C dX2_lookAhead_0 0 rfl ?_
  refine k_getX2 C 0 4 rfl (by decide) rfl q126 rfl dX2_lookAhead_1 ?_
  refine k_aload_n C dX2_lookAhead_4 0 rfl ?_
  refine k_getX2 C 0 2 rfl (by decide) rfl q124 rfl dX2_lookAhead_5 ?_
  refine k_callN_v C (mX0_become l D cI cJ a5 a3 X.2.2.2.2.1 X.2.2.1) ⟨va_cnB 1 C.2.2.2.2.1 (kGN q311) rfl rfl rfl (C.2.2.2.2.2.2.1 _ qn14) (C.2.2.2.2.1 _ q37) hdX0_become ⟨Nat.le_of_ble_eq_true rfl, Nat.le_of_ble_eq_true rfl⟩, C.2.2.2.2.1 _ q310, C.2.2.2.2.1 _ q8⟩ [5, 3] [0, 1, 2, 4, 6] [0, 1, 2, 6, 3, 5, 4] [(a0, cF a1 a2 a3 a4 a5 a6 X.2.2.2.2.2.2), (a1, cS X.1), (a2, cS X.2.1), (a4, cB X.2.2.2.1), (a6, cB X.2.2.2.2.2.1)] ([(a0, cF a1 a2 a3 a4 a5 a6 X.2.2.2.2.2.2), (a1, cS X.1), (a2, cS X.2.1), (a3, cB X.2.2.1), (a4, cB X.2.2.2.1), (a5, cB (fX0_become X.2.2.2.2.1 X.2.2.1)), (a6, cB X.2.2.2.2.2.1)]) rfl rfl rfl rfl (by decide) [a5, a3] rfl rfl rfl rfl 5 0 rfl rfl rfl (Nat.le_of_ble_eq_true rfl) ⟨Nat.zero_le _, Nat.zero_le _⟩ rfl dX2_lookAhead_8 ?_
  generalize ezz1 : fX0_become X.2.2.2.2.1 X.2.2.1 = zz1
  refine k_aload_n C dX2_lookAhead_11 0 rfl ?_
  refine k_getX2 C 0 4 rfl (by decide) rfl q126 rfl dX2_lookAhead_12 ?_
  refine k_iload_n C dX2_lookAhead_15 1 rfl ?_
  refine k_callN_v C (mX0_fly l D cI cJ a5 p0 zz1) ⟨va_cnB 1 C.2.2.2.2.1 (kGN q315) rfl rfl rfl (C.2.2.2.2.2.2.1 _ qn15) (C.2.2.2.2.1 _ q37) hdX0_fly ⟨Nat.le_of_ble_eq_true rfl, Nat.le_of_ble_eq_true rfl⟩, C.2.2.2.2.1 _ q314, C.2.2.2.2.1 _ q9⟩ [5] [0, 1, 2, 3, 4, 6] [0, 1, 2, 3, 4, 6, 5] [(a0, cF a1 a2 a3 a4 a5 a6 X.2.2.2.2.2.2), (a1, cS X.1), (a2, cS X.2.1), (a3, cB X.2.2.1), (a4, cB X.2.2.2.1), (a6, cB X.2.2.2.2.2.1)] ([(a0, cF a1 a2 a3 a4 a5 a6 X.2.2.2.2.2.2), (a1, cS X.1), (a2, cS X.2.1), (a3, cB X.2.2.1), (a4, cB X.2.2.2.1), (a5, cB (fX0_fly p0 zz1)), (a6, cB X.2.2.2.2.2.1)]) rfl rfl rfl rfl (by decide) [a5] rfl rfl rfl rfl 5 0 rfl rfl rfl (Nat.le_of_ble_eq_true rfl) ⟨Nat.zero_le _, Nat.zero_le _⟩ rfl dX2_lookAhead_16 ?_
  generalize ezz2 : fX0_fly p0 zz1 = zz2
  have hL : fX2_lookAhead p0 X = (X.1, X.2.1, X.2.2.1, X.2.2.2.1, zz2, X.2.2.2.2.2) := by subst ezz2; subst ezz1; exact rfl
  exact k_vret C rfl (by rw [hL]) dX2_lookAhead_19

theorem hdX2_placeAhead : yX2_placeAhead.cls ≠ "java/lang/invoke/MethodHandle" ∧ yX2_placeAhead.cls ≠ "java/lang/invoke/VarHandle" ∧ (parseMethodDescriptor yX2_placeAhead.desc).map (fun d => d.parameters.length) = some 1 := by decide +kernel
noncomputable def fX2_placeAhead (p0 : Int32) (X : Co) : Int32 × Co :=
  if X.2.2.2.2.2.2.2.1 = 0 then (if p0 = 0 then (if (fX2_isMatchOver (X.1, X.2.1, X.2.2.1, X.2.2.2.1, (fX0_placeToServe X.2.2.2.2.1), X.2.2.2.2.2)) = 0 then (1, (X.1, X.2.1, X.2.2.1, X.2.2.2.1, (fX0_placeToServe X.2.2.2.2.1), X.2.2.2.2.2))
      else (0, (X.1, X.2.1, X.2.2.1, X.2.2.2.1, (fX0_placeToServe X.2.2.2.2.1), X.2.2.2.2.2)))
    else (0, (X.1, X.2.1, X.2.2.1, X.2.2.2.1, (fX0_placeToServe X.2.2.2.2.1), X.2.2.2.2.2)))
  else (if p0 = 0 then (0, X)
    else (if (fX2_isEndedBy p0 X) = 0 then (if (fX2_lookAhead p0 X).2.2.2.2.1.2.2.2.2.2.2.1 ≤ 0 then (0, (fX2_lookAhead p0 X))
        else (1, (fX2_lookAhead p0 X)))
      else (0, X)))
set_option maxHeartbeats 4000000 in
set_option maxRecDepth 100000 in
theorem mX2_placeAhead (l : Launch) (D : va_G) (cI cJ : ClassId) (a0 a1 a2 a3 a4 a5 a6 : Nat) (p0 : Int32) (X : Co)  : kCi l D cI cJ yX2_placeAhead (.code yX2_placeAhead cX2_placeAhead 2 (some .boolean)) { frames := 6, cells := 0, slots := 0, locals := 127 } [.ref a0, .int p0] (wC a0 a1 a2 a3 a4 a5 a6 X) (fX2_placeAhead p0 X).1 (wC a0 a1 a2 a3 a4 a5 a6 (fX2_placeAhead p0 X).2) := by
  refine fun sz => k_of (lv := [(0, .ref a0), (1, .int p0)]) (by decide) sz (by exact Nat.le_of_ble_eq_true rfl) rfl ?_
  intro p e s m args below meth c hsz C
  refine k_aload_n C dX2_placeAhead_0 0 rfl ?_
  refine k_getX2 C 0 7 rfl (by decide) rfl q129 rfl dX2_placeAhead_1 ?_
  refine k_if_ne C 31 (by decide) dX2_placeAhead_4 (fun c1 => ?_) (fun c1 => ?_)
  ·
    refine k_iload_n C dX2_placeAhead_31 1 rfl ?_
    refine k_if_eq C 43 (by decide) dX2_placeAhead_32 (fun c2 => ?_) (fun c2 => ?_)
    ·
      refine k_iconst C 0 (by decide) dX2_placeAhead_43 ?_
      have hL : fX2_placeAhead p0 X = (0, X) := by exact (if_neg c1).trans ((if_pos c2).trans rfl)
      exact k_zret C rfl rfl (by rw [hL]) (by rw [hL]) dX2_placeAhead_44
    ·
      refine k_aload_n C dX2_placeAhead_35 0 rfl ?_
      refine k_iload_n C dX2_placeAhead_36 1 rfl ?_
      refine k_callV_i C (mX2_isEndedBy l D cI cJ a0 a1 a2 a3 a4 a5 a6 p0 X) (cwV 1 C.2.2.2.2.1 (kGV q300 q302 q6 q35 q303) rfl rfl rfl ⟨rfl, hdX2_isEndedBy⟩ ⟨Nat.le_of_ble_eq_true rfl, Nat.le_of_ble_eq_true rfl⟩) [0, 1, 2, 3, 4, 5, 6] [] [0, 1, 2, 3, 4, 5, 6] [] ([(a0, cF a1 a2 a3 a4 a5 a6 X.2.2.2.2.2.2), (a1, cS X.1), (a2, cS X.2.1), (a3, cB X.2.2.1), (a4, cB X.2.2.2.1), (a5, cB X.2.2.2.2.1), (a6, cB X.2.2.2.2.2.1)]) rfl rfl rfl rfl (by decide) [a0, a1, a2, a3, a4, a5, a6] rfl rfl rfl rfl 0 2 rfl rfl rfl (Nat.le_of_ble_eq_true rfl) ⟨Nat.zero_le _, Nat.zero_le _⟩ rfl dX2_placeAhead_37 ?_
      generalize er3 : fX2_isEndedBy p0 X = r3
      refine k_if_eq C 45 (by decide) dX2_placeAhead_40 (fun c4 => ?_) (fun c4 => ?_)
      ·
        refine k_aload_n C dX2_placeAhead_45 0 rfl ?_
        refine k_iload_n C dX2_placeAhead_46 1 rfl ?_
        refine k_callV_v C (mX2_lookAhead l D cI cJ a0 a1 a2 a3 a4 a5 a6 p0 X) (cwV 1 C.2.2.2.2.1 (kGV q304 q306 q7 q35 q307) rfl rfl rfl ⟨rfl, hdX2_lookAhead⟩ ⟨Nat.le_of_ble_eq_true rfl, Nat.le_of_ble_eq_true rfl⟩) [0, 1, 2, 3, 4, 5, 6] [] [0, 1, 2, 3, 4, 5, 6] [] (wC a0 a1 a2 a3 a4 a5 a6 (fX2_lookAhead p0 X)) rfl rfl rfl rfl (by decide) [a0, a1, a2, a3, a4, a5, a6] rfl rfl rfl rfl 0 2 rfl rfl rfl (Nat.le_of_ble_eq_true rfl) ⟨Nat.zero_le _, Nat.zero_le _⟩ rfl dX2_placeAhead_47 ?_
        generalize ezz5 : fX2_lookAhead p0 X = zz5
        refine k_aload_n C dX2_placeAhead_50 0 rfl ?_
        refine k_getX2 C 0 4 rfl (by decide) rfl q126 rfl dX2_placeAhead_51 ?_
        refine k_getNX0 C 5 6 rfl (by decide) rfl qn4 rfl dX2_placeAhead_54 ?_
        refine k_if_le C 64 (by decide) dX2_placeAhead_57 (fun c6 => ?_) (fun c6 => ?_)
        ·
          refine k_iconst C 0 (by decide) dX2_placeAhead_64 ?_
          have hL : fX2_placeAhead p0 X = (0, zz5) := by subst ezz5; subst er3; exact (if_neg c1).trans ((if_neg c2).trans ((if_pos c4).trans ((if_pos c6).trans rfl)))
          exact k_zret C rfl rfl (by rw [hL]) (by rw [hL]) dX2_placeAhead_65
        ·
          refine k_iconst C 1 (by decide) dX2_placeAhead_60 ?_
          refine k_goto C 65 (by decide) dX2_placeAhead_61 ?_
          have hL : fX2_placeAhead p0 X = (1, zz5) := by subst ezz5; subst er3; exact (if_neg c1).trans ((if_neg c2).trans ((if_pos c4).trans ((if_neg c6).trans rfl)))
          exact k_zret C rfl rfl (by rw [hL]) (by rw [hL]) dX2_placeAhead_65
      ·
        refine k_iconst C 0 (by decide) dX2_placeAhead_43 ?_
        have hL : fX2_placeAhead p0 X = (0, X) := by subst er3; exact (if_neg c1).trans ((if_neg c2).trans ((if_neg c4).trans rfl))
        exact k_zret C rfl rfl (by rw [hL]) (by rw [hL]) dX2_placeAhead_44
  ·
    refine k_aload_n C dX2_placeAhead_7 0 rfl ?_
    refine k_getX2 C 0 4 rfl (by decide) rfl q126 rfl dX2_placeAhead_8 ?_
    refine k_callN_v C (mX0_placeToServe l D cI cJ a5 X.2.2.2.2.1) ⟨va_cnB 0 C.2.2.2.2.1 (kGN q380) rfl rfl rfl (C.2.2.2.2.2.2.1 _ qn12) (C.2.2.2.2.1 _ q37) hdX0_placeToServe ⟨Nat.le_of_ble_eq_true rfl, Nat.le_of_ble_eq_true rfl⟩, C.2.2.2.2.1 _ q379, C.2.2.2.2.1 _ q19⟩ [5] [0, 1, 2, 3, 4, 6] [0, 1, 2, 3, 4, 6, 5] [(a0, cF a1 a2 a3 a4 a5 a6 X.2.2.2.2.2.2), (a1, cS X.1), (a2, cS X.2.1), (a3, cB X.2.2.1), (a4, cB X.2.2.2.1), (a6, cB X.2.2.2.2.2.1)] ([(a0, cF a1 a2 a3 a4 a5 a6 X.2.2.2.2.2.2), (a1, cS X.1), (a2, cS X.2.1), (a3, cB X.2.2.1), (a4, cB X.2.2.2.1), (a5, cB (fX0_placeToServe X.2.2.2.2.1)), (a6, cB X.2.2.2.2.2.1)]) rfl rfl rfl rfl (by decide) [a5] rfl rfl rfl rfl 5 0 rfl rfl rfl (Nat.le_of_ble_eq_true rfl) ⟨Nat.zero_le _, Nat.zero_le _⟩ rfl dX2_placeAhead_11 ?_
    generalize ezz7 : fX0_placeToServe X.2.2.2.2.1 = zz7
    refine k_iload_n C dX2_placeAhead_14 1 rfl ?_
    refine k_if_ne C 29 (by decide) dX2_placeAhead_15 (fun c8 => ?_) (fun c8 => ?_)
    ·
      refine k_iconst C 0 (by decide) dX2_placeAhead_29 ?_
      have hL : fX2_placeAhead p0 X = (0, (X.1, X.2.1, X.2.2.1, X.2.2.2.1, zz7, X.2.2.2.2.2)) := by subst ezz7; exact (if_pos c1).trans ((if_neg c8).trans rfl)
      exact k_zret C rfl rfl (by rw [hL]) (by rw [hL]) dX2_placeAhead_30
    ·
      refine k_aload_n C dX2_placeAhead_18 0 rfl ?_
      refine k_callV_i C (mX2_isMatchOver l D cI cJ a0 a1 a2 a3 a4 a5 a6 (X.1, X.2.1, X.2.2.1, X.2.2.2.1, zz7, X.2.2.2.2.2)) (cwV 0 C.2.2.2.2.1 (kGV q381 q383 q20 q35 q384) rfl rfl rfl ⟨rfl, hdX2_isMatchOver⟩ ⟨Nat.le_of_ble_eq_true rfl, Nat.le_of_ble_eq_true rfl⟩) [0, 1, 2, 3, 4, 5, 6] [] [0, 1, 2, 3, 4, 5, 6] [] ([(a0, cF a1 a2 a3 a4 a5 a6 X.2.2.2.2.2.2), (a1, cS X.1), (a2, cS X.2.1), (a3, cB X.2.2.1), (a4, cB X.2.2.2.1), (a5, cB zz7), (a6, cB X.2.2.2.2.2.1)]) rfl rfl rfl rfl (by decide) [a0, a1, a2, a3, a4, a5, a6] rfl rfl rfl rfl 0 2 rfl rfl rfl (Nat.le_of_ble_eq_true rfl) ⟨Nat.zero_le _, Nat.zero_le _⟩ rfl dX2_placeAhead_19 ?_
      generalize er9 : fX2_isMatchOver (X.1, X.2.1, X.2.2.1, X.2.2.2.1, zz7, X.2.2.2.2.2) = r9
      refine k_if_ne C 29 (by decide) dX2_placeAhead_22 (fun c10 => ?_) (fun c10 => ?_)
      ·
        refine k_iconst C 0 (by decide) dX2_placeAhead_29 ?_
        have hL : fX2_placeAhead p0 X = (0, (X.1, X.2.1, X.2.2.1, X.2.2.2.1, zz7, X.2.2.2.2.2)) := by subst er9; subst ezz7; exact (if_pos c1).trans ((if_pos c8).trans ((if_neg c10).trans rfl))
        exact k_zret C rfl rfl (by rw [hL]) (by rw [hL]) dX2_placeAhead_30
      ·
        refine k_iconst C 1 (by decide) dX2_placeAhead_25 ?_
        refine k_goto C 30 (by decide) dX2_placeAhead_26 ?_
        have hL : fX2_placeAhead p0 X = (1, (X.1, X.2.1, X.2.2.1, X.2.2.2.1, zz7, X.2.2.2.2.2)) := by subst er9; subst ezz7; exact (if_pos c1).trans ((if_pos c8).trans ((if_pos c10).trans rfl))
        exact k_zret C rfl rfl (by rw [hL]) (by rw [hL]) dX2_placeAhead_30

theorem hdX2_tryStroke : yX2_tryStroke.cls ≠ "java/lang/invoke/MethodHandle" ∧ yX2_tryStroke.cls ≠ "java/lang/invoke/VarHandle" ∧ (parseMethodDescriptor yX2_tryStroke.desc).map (fun d => d.parameters.length) = some 4 := by decide +kernel
noncomputable def fX2_tryStroke (p0 : Int32) (p1 : Int32) (p2 : Int32) (p3 : Int32) (X : Co) : Co :=
  (X.1, X.2.1, X.2.2.1, X.2.2.2.1, X.2.2.2.2.1, (fX0_fly p3 (fX0_launch p0 p1 p2 (fX0_become X.2.2.2.2.2.1 X.2.2.2.2.1))), X.2.2.2.2.2.2)
set_option maxHeartbeats 4000000 in
set_option maxRecDepth 100000 in
theorem mX2_tryStroke (l : Launch) (D : va_G) (cI cJ : ClassId) (a0 a1 a2 a3 a4 a5 a6 : Nat) (p0 : Int32) (p1 : Int32) (p2 : Int32) (p3 : Int32) (X : Co)  : kCv l D cI cJ yX2_tryStroke (.code yX2_tryStroke cX2_tryStroke 5 none) { frames := 5, cells := 0, slots := 0, locals := 106 } [.ref a0, .int p0, .int p1, .int p2, .int p3] (wC a0 a1 a2 a3 a4 a5 a6 X) (wC a0 a1 a2 a3 a4 a5 a6 (fX2_tryStroke p0 p1 p2 p3 X)) := by
  refine fun sz => k_of (lv := [(0, .ref a0), (1, .int p0), (2, .int p1), (3, .int p2), (4, .int p3)]) (by decide) sz (by exact Nat.le_of_ble_eq_true rfl) rfl ?_
  intro p e s m args below meth c hsz C
  refine k_aload_n C dX2_tryStroke_0 0 rfl ?_
  refine k_getX2 C 0 5 rfl (by decide) rfl q127 rfl dX2_tryStroke_1 ?_
  refine k_aload_n C dX2_tryStroke_4 0 rfl ?_
  refine k_getX2 C 0 4 rfl (by decide) rfl q126 rfl dX2_tryStroke_5 ?_
  refine k_callN_v C (mX0_become l D cI cJ a6 a5 X.2.2.2.2.2.1 X.2.2.2.2.1) ⟨va_cnB 1 C.2.2.2.2.1 (kGN q311) rfl rfl rfl (C.2.2.2.2.2.2.1 _ qn14) (C.2.2.2.2.1 _ q37) hdX0_become ⟨Nat.le_of_ble_eq_true rfl, Nat.le_of_ble_eq_true rfl⟩, C.2.2.2.2.1 _ q310, C.2.2.2.2.1 _ q8⟩ [6, 5] [0, 1, 2, 3, 4] [0, 1, 2, 3, 4, 6, 5] [(a0, cF a1 a2 a3 a4 a5 a6 X.2.2.2.2.2.2), (a1, cS X.1), (a2, cS X.2.1), (a3, cB X.2.2.1), (a4, cB X.2.2.2.1)] ([(a0, cF a1 a2 a3 a4 a5 a6 X.2.2.2.2.2.2), (a1, cS X.1), (a2, cS X.2.1), (a3, cB X.2.2.1), (a4, cB X.2.2.2.1), (a5, cB X.2.2.2.2.1), (a6, cB (fX0_become X.2.2.2.2.2.1 X.2.2.2.2.1))]) rfl rfl rfl rfl (by decide) [a6, a5] rfl rfl rfl rfl 6 0 rfl rfl rfl (Nat.le_of_ble_eq_true rfl) ⟨Nat.zero_le _, Nat.zero_le _⟩ rfl dX2_tryStroke_8 ?_
  generalize ezz1 : fX0_become X.2.2.2.2.2.1 X.2.2.2.2.1 = zz1
  refine k_aload_n C dX2_tryStroke_11 0 rfl ?_
  refine k_getX2 C 0 5 rfl (by decide) rfl q127 rfl dX2_tryStroke_12 ?_
  refine k_iload_n C dX2_tryStroke_15 1 rfl ?_
  refine k_iload_n C dX2_tryStroke_16 2 rfl ?_
  refine k_iload_n C dX2_tryStroke_17 3 rfl ?_
  refine k_callN_v C (mX0_launch l D cI cJ a6 p0 p1 p2 zz1) ⟨va_cnB 3 C.2.2.2.2.1 (kGN q393) rfl rfl rfl (C.2.2.2.2.2.2.1 _ qn13) (C.2.2.2.2.1 _ q37) hdX0_launch ⟨Nat.le_of_ble_eq_true rfl, Nat.le_of_ble_eq_true rfl⟩, C.2.2.2.2.1 _ q392, C.2.2.2.2.1 _ q22⟩ [6] [0, 1, 2, 3, 4, 5] [0, 1, 2, 3, 4, 5, 6] [(a0, cF a1 a2 a3 a4 a5 a6 X.2.2.2.2.2.2), (a1, cS X.1), (a2, cS X.2.1), (a3, cB X.2.2.1), (a4, cB X.2.2.2.1), (a5, cB X.2.2.2.2.1)] ([(a0, cF a1 a2 a3 a4 a5 a6 X.2.2.2.2.2.2), (a1, cS X.1), (a2, cS X.2.1), (a3, cB X.2.2.1), (a4, cB X.2.2.2.1), (a5, cB X.2.2.2.2.1), (a6, cB (fX0_launch p0 p1 p2 zz1))]) rfl rfl rfl rfl (by decide) [a6] rfl rfl rfl rfl 6 0 rfl rfl rfl (Nat.le_of_ble_eq_true rfl) ⟨Nat.zero_le _, Nat.zero_le _⟩ rfl dX2_tryStroke_18 ?_
  generalize ezz2 : fX0_launch p0 p1 p2 zz1 = zz2
  refine k_aload_n C dX2_tryStroke_21 0 rfl ?_
  refine k_getX2 C 0 5 rfl (by decide) rfl q127 rfl dX2_tryStroke_22 ?_
  refine k_iload C dX2_tryStroke_25 4 rfl ?_
  refine k_callN_v C (mX0_fly l D cI cJ a6 p3 zz2) ⟨va_cnB 1 C.2.2.2.2.1 (kGN q315) rfl rfl rfl (C.2.2.2.2.2.2.1 _ qn15) (C.2.2.2.2.1 _ q37) hdX0_fly ⟨Nat.le_of_ble_eq_true rfl, Nat.le_of_ble_eq_true rfl⟩, C.2.2.2.2.1 _ q314, C.2.2.2.2.1 _ q9⟩ [6] [0, 1, 2, 3, 4, 5] [0, 1, 2, 3, 4, 5, 6] [(a0, cF a1 a2 a3 a4 a5 a6 X.2.2.2.2.2.2), (a1, cS X.1), (a2, cS X.2.1), (a3, cB X.2.2.1), (a4, cB X.2.2.2.1), (a5, cB X.2.2.2.2.1)] ([(a0, cF a1 a2 a3 a4 a5 a6 X.2.2.2.2.2.2), (a1, cS X.1), (a2, cS X.2.1), (a3, cB X.2.2.1), (a4, cB X.2.2.2.1), (a5, cB X.2.2.2.2.1), (a6, cB (fX0_fly p3 zz2))]) rfl rfl rfl rfl (by decide) [a6] rfl rfl rfl rfl 6 0 rfl rfl rfl (Nat.le_of_ble_eq_true rfl) ⟨Nat.zero_le _, Nat.zero_le _⟩ rfl dX2_tryStroke_27 ?_
  generalize ezz3 : fX0_fly p3 zz2 = zz3
  have hL : fX2_tryStroke p0 p1 p2 p3 X = (X.1, X.2.1, X.2.2.1, X.2.2.2.1, X.2.2.2.2.1, zz3, X.2.2.2.2.2.2) := by subst ezz3; subst ezz2; subst ezz1; exact rfl
  exact k_vret C rfl (by rw [hL]) dX2_tryStroke_30
