/-! the reference: what it tells -/
theorem hdX3_ballTold : yX3_ballTold.cls ≠ "java/lang/invoke/MethodHandle" ∧ yX3_ballTold.cls ≠ "java/lang/invoke/VarHandle" ∧ (parseMethodDescriptor yX3_ballTold.desc).map (fun d => d.parameters.length) = some 1 := by decide +kernel
noncomputable def fX3_ballTold_0 (X : Mo) : Int32 :=
  if X.2.2.2.2.2.2.2.2.1 = 0 then 0
  else X.1.1
set_option maxHeartbeats 4000000 in
set_option maxRecDepth 100000 in
theorem mX3_ballTold_0 (l : Launch) (D : va_G) (cI cJ : ClassId) (b0 b1 b2 b3 b4 b5 b6 : Nat) (X : Mo)  : kCi l D cI cJ yX3_ballTold (.code yX3_ballTold cX3_ballTold 2 (some .int)) { frames := 0, cells := 0, slots := 0, locals := 0 } [.ref b0, .int 0] (wM cI b0 b1 b2 b3 b4 b5 b6 X) (fX3_ballTold_0 X) (wM cI b0 b1 b2 b3 b4 b5 b6 X) := by
  refine fun sz => k_of (lv := [(0, .ref b0), (1, .int 0)]) (by decide) sz (by exact Nat.le_of_ble_eq_true rfl) rfl ?_
  intro p e s m args below meth c hsz C
  refine k_aload_n C dX3_ballTold_0 0 rfl ?_
  refine k_getX3 C 0 2 rfl (by decide) rfl q572 rfl dX3_ballTold_1 ?_
  refine k_if_eq C 16 (by decide) dX3_ballTold_4 (fun c1 => ?_) (fun c1 => ?_)
  ·
    refine k_iconst C 0 (by decide) dX3_ballTold_16 ?_
    have hL : fX3_ballTold_0 X = 0 := by exact (if_pos c1).trans rfl
    exact k_iret C rfl (hL.symm) rfl dX3_ballTold_17
  ·
    refine k_aload_n C dX3_ballTold_7 0 rfl ?_
    refine k_getX3 C 0 5 rfl (by decide) rfl q575 rfl dX3_ballTold_8 ?_
    refine k_iload_n C dX3_ballTold_11 1 rfl ?_
    refine k_iald C 1 rfl vi9_0 (ar9_l0 _) dX3_ballTold_12 ?_
    refine k_goto C 17 (by decide) dX3_ballTold_13 ?_
    have hL : fX3_ballTold_0 X = X.1.1 := by exact (if_neg c1).trans rfl
    exact k_iret C rfl (hL.symm) rfl dX3_ballTold_17

noncomputable def fX3_ballTold_1 (X : Mo) : Int32 :=
  if X.2.2.2.2.2.2.2.2.1 = 0 then 0
  else X.1.2.1
set_option maxHeartbeats 4000000 in
set_option maxRecDepth 100000 in
theorem mX3_ballTold_1 (l : Launch) (D : va_G) (cI cJ : ClassId) (b0 b1 b2 b3 b4 b5 b6 : Nat) (X : Mo)  : kCi l D cI cJ yX3_ballTold (.code yX3_ballTold cX3_ballTold 2 (some .int)) { frames := 0, cells := 0, slots := 0, locals := 0 } [.ref b0, .int 1] (wM cI b0 b1 b2 b3 b4 b5 b6 X) (fX3_ballTold_1 X) (wM cI b0 b1 b2 b3 b4 b5 b6 X) := by
  refine fun sz => k_of (lv := [(0, .ref b0), (1, .int 1)]) (by decide) sz (by exact Nat.le_of_ble_eq_true rfl) rfl ?_
  intro p e s m args below meth c hsz C
  refine k_aload_n C dX3_ballTold_0 0 rfl ?_
  refine k_getX3 C 0 2 rfl (by decide) rfl q572 rfl dX3_ballTold_1 ?_
  refine k_if_eq C 16 (by decide) dX3_ballTold_4 (fun c1 => ?_) (fun c1 => ?_)
  ·
    refine k_iconst C 0 (by decide) dX3_ballTold_16 ?_
    have hL : fX3_ballTold_1 X = 0 := by exact (if_pos c1).trans rfl
    exact k_iret C rfl (hL.symm) rfl dX3_ballTold_17
  ·
    refine k_aload_n C dX3_ballTold_7 0 rfl ?_
    refine k_getX3 C 0 5 rfl (by decide) rfl q575 rfl dX3_ballTold_8 ?_
    refine k_iload_n C dX3_ballTold_11 1 rfl ?_
    refine k_iald C 1 rfl vi9_1 (ar9_l1 _) dX3_ballTold_12 ?_
    refine k_goto C 17 (by decide) dX3_ballTold_13 ?_
    have hL : fX3_ballTold_1 X = X.1.2.1 := by exact (if_neg c1).trans rfl
    exact k_iret C rfl (hL.symm) rfl dX3_ballTold_17

noncomputable def fX3_ballTold_2 (X : Mo) : Int32 :=
  if X.2.2.2.2.2.2.2.2.1 = 0 then 0
  else X.1.2.2.1
set_option maxHeartbeats 4000000 in
set_option maxRecDepth 100000 in
theorem mX3_ballTold_2 (l : Launch) (D : va_G) (cI cJ : ClassId) (b0 b1 b2 b3 b4 b5 b6 : Nat) (X : Mo)  : kCi l D cI cJ yX3_ballTold (.code yX3_ballTold cX3_ballTold 2 (some .int)) { frames := 0, cells := 0, slots := 0, locals := 0 } [.ref b0, .int 2] (wM cI b0 b1 b2 b3 b4 b5 b6 X) (fX3_ballTold_2 X) (wM cI b0 b1 b2 b3 b4 b5 b6 X) := by
  refine fun sz => k_of (lv := [(0, .ref b0), (1, .int 2)]) (by decide) sz (by exact Nat.le_of_ble_eq_true rfl) rfl ?_
  intro p e s m args below meth c hsz C
  refine k_aload_n C dX3_ballTold_0 0 rfl ?_
  refine k_getX3 C 0 2 rfl (by decide) rfl q572 rfl dX3_ballTold_1 ?_
  refine k_if_eq C 16 (by decide) dX3_ballTold_4 (fun c1 => ?_) (fun c1 => ?_)
  ·
    refine k_iconst C 0 (by decide) dX3_ballTold_16 ?_
    have hL : fX3_ballTold_2 X = 0 := by exact (if_pos c1).trans rfl
    exact k_iret C rfl (hL.symm) rfl dX3_ballTold_17
  ·
    refine k_aload_n C dX3_ballTold_7 0 rfl ?_
    refine k_getX3 C 0 5 rfl (by decide) rfl q575 rfl dX3_ballTold_8 ?_
    refine k_iload_n C dX3_ballTold_11 1 rfl ?_
    refine k_iald C 1 rfl vi9_2 (ar9_l2 _) dX3_ballTold_12 ?_
    refine k_goto C 17 (by decide) dX3_ballTold_13 ?_
    have hL : fX3_ballTold_2 X = X.1.2.2.1 := by exact (if_neg c1).trans rfl
    exact k_iret C rfl (hL.symm) rfl dX3_ballTold_17

noncomputable def fX3_ballTold_3 (X : Mo) : Int32 :=
  if X.2.2.2.2.2.2.2.2.1 = 0 then 0
  else X.1.2.2.2.1
set_option maxHeartbeats 4000000 in
set_option maxRecDepth 100000 in
theorem mX3_ballTold_3 (l : Launch) (D : va_G) (cI cJ : ClassId) (b0 b1 b2 b3 b4 b5 b6 : Nat) (X : Mo)  : kCi l D cI cJ yX3_ballTold (.code yX3_ballTold cX3_ballTold 2 (some .int)) { frames := 0, cells := 0, slots := 0, locals := 0 } [.ref b0, .int 3] (wM cI b0 b1 b2 b3 b4 b5 b6 X) (fX3_ballTold_3 X) (wM cI b0 b1 b2 b3 b4 b5 b6 X) := by
  refine fun sz => k_of (lv := [(0, .ref b0), (1, .int 3)]) (by decide) sz (by exact Nat.le_of_ble_eq_true rfl) rfl ?_
  intro p e s m args below meth c hsz C
  refine k_aload_n C dX3_ballTold_0 0 rfl ?_
  refine k_getX3 C 0 2 rfl (by decide) rfl q572 rfl dX3_ballTold_1 ?_
  refine k_if_eq C 16 (by decide) dX3_ballTold_4 (fun c1 => ?_) (fun c1 => ?_)
  ·
    refine k_iconst C 0 (by decide) dX3_ballTold_16 ?_
    have hL : fX3_ballTold_3 X = 0 := by exact (if_pos c1).trans rfl
    exact k_iret C rfl (hL.symm) rfl dX3_ballTold_17
  ·
    refine k_aload_n C dX3_ballTold_7 0 rfl ?_
    refine k_getX3 C 0 5 rfl (by decide) rfl q575 rfl dX3_ballTold_8 ?_
    refine k_iload_n C dX3_ballTold_11 1 rfl ?_
    refine k_iald C 1 rfl vi9_3 (ar9_l3 _) dX3_ballTold_12 ?_
    refine k_goto C 17 (by decide) dX3_ballTold_13 ?_
    have hL : fX3_ballTold_3 X = X.1.2.2.2.1 := by exact (if_neg c1).trans rfl
    exact k_iret C rfl (hL.symm) rfl dX3_ballTold_17

noncomputable def fX3_ballTold_4 (X : Mo) : Int32 :=
  if X.2.2.2.2.2.2.2.2.1 = 0 then 0
  else X.1.2.2.2.2.1
set_option maxHeartbeats 4000000 in
set_option maxRecDepth 100000 in
theorem mX3_ballTold_4 (l : Launch) (D : va_G) (cI cJ : ClassId) (b0 b1 b2 b3 b4 b5 b6 : Nat) (X : Mo)  : kCi l D cI cJ yX3_ballTold (.code yX3_ballTold cX3_ballTold 2 (some .int)) { frames := 0, cells := 0, slots := 0, locals := 0 } [.ref b0, .int 4] (wM cI b0 b1 b2 b3 b4 b5 b6 X) (fX3_ballTold_4 X) (wM cI b0 b1 b2 b3 b4 b5 b6 X) := by
  refine fun sz => k_of (lv := [(0, .ref b0), (1, .int 4)]) (by decide) sz (by exact Nat.le_of_ble_eq_true rfl) rfl ?_
  intro p e s m args below meth c hsz C
  refine k_aload_n C dX3_ballTold_0 0 rfl ?_
  refine k_getX3 C 0 2 rfl (by decide) rfl q572 rfl dX3_ballTold_1 ?_
  refine k_if_eq C 16 (by decide) dX3_ballTold_4 (fun c1 => ?_) (fun c1 => ?_)
  ·
    refine k_iconst C 0 (by decide) dX3_ballTold_16 ?_
    have hL : fX3_ballTold_4 X = 0 := by exact (if_pos c1).trans rfl
    exact k_iret C rfl (hL.symm) rfl dX3_ballTold_17
  ·
    refine k_aload_n C dX3_ballTold_7 0 rfl ?_
    refine k_getX3 C 0 5 rfl (by decide) rfl q575 rfl dX3_ballTold_8 ?_
    refine k_iload_n C dX3_ballTold_11 1 rfl ?_
    refine k_iald C 1 rfl vi9_4 (ar9_l4 _) dX3_ballTold_12 ?_
    refine k_goto C 17 (by decide) dX3_ballTold_13 ?_
    have hL : fX3_ballTold_4 X = X.1.2.2.2.2.1 := by exact (if_neg c1).trans rfl
    exact k_iret C rfl (hL.symm) rfl dX3_ballTold_17

noncomputable def fX3_ballTold_5 (X : Mo) : Int32 :=
  if X.2.2.2.2.2.2.2.2.1 = 0 then 0
  else X.1.2.2.2.2.2.1
set_option maxHeartbeats 4000000 in
set_option maxRecDepth 100000 in
theorem mX3_ballTold_5 (l : Launch) (D : va_G) (cI cJ : ClassId) (b0 b1 b2 b3 b4 b5 b6 : Nat) (X : Mo)  : kCi l D cI cJ yX3_ballTold (.code yX3_ballTold cX3_ballTold 2 (some .int)) { frames := 0, cells := 0, slots := 0, locals := 0 } [.ref b0, .int 5] (wM cI b0 b1 b2 b3 b4 b5 b6 X) (fX3_ballTold_5 X) (wM cI b0 b1 b2 b3 b4 b5 b6 X) := by
  refine fun sz => k_of (lv := [(0, .ref b0), (1, .int 5)]) (by decide) sz (by exact Nat.le_of_ble_eq_true rfl) rfl ?_
  intro p e s m args below meth c hsz C
  refine k_aload_n C dX3_ballTold_0 0 rfl ?_
  refine k_getX3 C 0 2 rfl (by decide) rfl q572 rfl dX3_ballTold_1 ?_
  refine k_if_eq C 16 (by decide) dX3_ballTold_4 (fun c1 => ?_) (fun c1 => ?_)
  ·
    refine k_iconst C 0 (by decide) dX3_ballTold_16 ?_
    have hL : fX3_ballTold_5 X = 0 := by exact (if_pos c1).trans rfl
    exact k_iret C rfl (hL.symm) rfl dX3_ballTold_17
  ·
    refine k_aload_n C dX3_ballTold_7 0 rfl ?_
    refine k_getX3 C 0 5 rfl (by decide) rfl q575 rfl dX3_ballTold_8 ?_
    refine k_iload_n C dX3_ballTold_11 1 rfl ?_
    refine k_iald C 1 rfl vi9_5 (ar9_l5 _) dX3_ballTold_12 ?_
    refine k_goto C 17 (by decide) dX3_ballTold_13 ?_
    have hL : fX3_ballTold_5 X = X.1.2.2.2.2.2.1 := by exact (if_neg c1).trans rfl
    exact k_iret C rfl (hL.symm) rfl dX3_ballTold_17

set_option maxHeartbeats 4000000 in
set_option maxRecDepth 100000 in
theorem mX3_isIn_k0_0_5 (l : Launch) (D : va_G) (cI cJ : ClassId)   : kCi l D cI cJ yX3_isIn (.code yX3_isIn cX3_isIn 3 (some .boolean)) { frames := 0, cells := 0, slots := 0, locals := 0 } [.int 0, .int 0, .int 5] [] (1) [] := by
  refine fun sz => k_of (lv := [(0, .int 0), (1, .int 0), (2, .int 5)]) (by decide) sz (by exact Nat.le_of_ble_eq_true rfl) rfl ?_
  intro p e s m args below meth c hsz C
  refine k_iload_n C dX3_isIn_0 0 rfl ?_
  refine k_iload_n C dX3_isIn_1 1 rfl ?_
  refine k_icmp_lt C 14 (by decide) dX3_isIn_2 (fun h => absurd h (by decide)) (fun _ => ?_)
  refine k_iload_n C dX3_isIn_5 0 rfl ?_
  refine k_iload_n C dX3_isIn_6 2 rfl ?_
  refine k_icmp_gt C 14 (by decide) dX3_isIn_7 (fun h => absurd h (by decide)) (fun _ => ?_)
  refine k_iconst C 1 (by decide) dX3_isIn_10 ?_
  refine k_goto C 15 (by decide) dX3_isIn_11 ?_
  exact k_zret C rfl rfl rfl rfl dX3_isIn_15

theorem hdX3_ball : yX3_ball.cls ≠ "java/lang/invoke/MethodHandle" ∧ yX3_ball.cls ≠ "java/lang/invoke/VarHandle" ∧ (parseMethodDescriptor yX3_ball.desc).map (fun d => d.parameters.length) = some 1 := by decide +kernel
noncomputable def fX3_ball_0 (X : Mo) : Int32 × Mo :=
  ((fX3_ballTold_0 (X.1, X.2.1, X.2.2.1, X.2.2.2.1, X.2.2.2.2.1, X.2.2.2.2.2.1, 0, X.2.2.2.2.2.2.2)), (X.1, X.2.1, X.2.2.1, X.2.2.2.1, X.2.2.2.2.1, X.2.2.2.2.2.1, 0, X.2.2.2.2.2.2.2))
set_option maxHeartbeats 4000000 in
set_option maxRecDepth 100000 in
theorem mX3_ball_0 (l : Launch) (D : va_G) (cI cJ : ClassId) (b0 b1 b2 b3 b4 b5 b6 : Nat) (X : Mo)  : kCi l D cI cJ yX3_ball (.code yX3_ball cX3_ball 2 (some .int)) { frames := 1, cells := 0, slots := 0, locals := 22 } [.ref b0, .int 0] (wM cI b0 b1 b2 b3 b4 b5 b6 X) (fX3_ball_0 X).1 (wM cI b0 b1 b2 b3 b4 b5 b6 (fX3_ball_0 X).2) := by
  refine fun sz => k_of (lv := [(0, .ref b0), (1, .int 0)]) (by decide) sz (by exact Nat.le_of_ble_eq_true rfl) rfl ?_
  intro p e s m args below meth c hsz C
  refine k_aload_n C dX3_ball_0 0 rfl ?_
  refine k_iconst C 0 (by decide) dX3_ball_1 ?_
  refine k_putX3 C [(b0, cM b1 b2 b3 b4 b5 b6 (0, X.2.2.2.2.2.2.2)), (b1, cA9 cI X.1), (b2, cA2 cI X.2.1), (b3, cA2 cI X.2.2.1), (b4, cA2 cI X.2.2.2.1), (b5, cA2 cI X.2.2.2.2.1), (b6, cA9 cI X.2.2.2.2.2.1)] 0 0 rfl rfl (by decide) q570 rfl rfl fdI rfl rfl (Nat.le_of_ble_eq_true rfl) dX3_ball_2 ?_
  refine k_iload_n C dX3_ball_5 1 rfl ?_
  refine k_iconst C 0 (by decide) dX3_ball_6 ?_
  refine k_iconst C 5 (by decide) dX3_ball_7 ?_
  refine k_callS_i C (mX3_isIn_k0_0_5 l D cI cJ) (va_cwS 3 C.2.2.2.2.1 (kGS q637 q638 q61 q639) rfl rfl rfl hdX3_isIn ⟨Nat.le_of_ble_eq_true rfl, Nat.le_of_ble_eq_true rfl⟩) [] [0, 1, 2, 3, 4, 5, 6] [0, 1, 2, 3, 4, 5, 6] [(b0, cM b1 b2 b3 b4 b5 b6 (0, X.2.2.2.2.2.2.2)), (b1, cA9 cI X.1), (b2, cA2 cI X.2.1), (b3, cA2 cI X.2.2.1), (b4, cA2 cI X.2.2.2.1), (b5, cA2 cI X.2.2.2.2.1), (b6, cA9 cI X.2.2.2.2.2.1)] ([(b0, cM b1 b2 b3 b4 b5 b6 (0, X.2.2.2.2.2.2.2)), (b1, cA9 cI X.1), (b2, cA2 cI X.2.1), (b3, cA2 cI X.2.2.1), (b4, cA2 cI X.2.2.2.1), (b5, cA2 cI X.2.2.2.2.1), (b6, cA9 cI X.2.2.2.2.2.1)]) rfl rfl rfl rfl (by decide) [] rfl rfl rfl rfl (Nat.le_of_ble_eq_true rfl) ⟨Nat.zero_le _, Nat.zero_le _⟩ rfl dX3_ball_8 ?_
  refine k_if_eq C 22 (by decide) dX3_ball_11 (fun h => absurd h (by decide)) (fun _ => ?_)
  refine k_aload_n C dX3_ball_14 0 rfl ?_
  refine k_iload_n C dX3_ball_15 1 rfl ?_
  refine k_callV_i C (mX3_ballTold_0 l D cI cJ b0 b1 b2 b3 b4 b5 b6 (X.1, X.2.1, X.2.2.1, X.2.2.2.1, X.2.2.2.2.1, X.2.2.2.2.2.1, 0, X.2.2.2.2.2.2.2)) (cwV 1 C.2.2.2.2.1 (kGV q743 q745 q50 q61 q746) rfl rfl rfl ⟨rfl, hdX3_ballTold⟩ ⟨Nat.le_of_ble_eq_true rfl, Nat.le_of_ble_eq_true rfl⟩) [0, 1, 2, 3, 4, 5, 6] [] [0, 1, 2, 3, 4, 5, 6] [] ([(b0, cM b1 b2 b3 b4 b5 b6 (0, X.2.2.2.2.2.2.2)), (b1, cA9 cI X.1), (b2, cA2 cI X.2.1), (b3, cA2 cI X.2.2.1), (b4, cA2 cI X.2.2.2.1), (b5, cA2 cI X.2.2.2.2.1), (b6, cA9 cI X.2.2.2.2.2.1)]) rfl rfl rfl rfl (by decide) [b0, b1, b2, b3, b4, b5, b6] rfl rfl rfl rfl 0 3 rfl rfl rfl (Nat.le_of_ble_eq_true rfl) ⟨Nat.zero_le _, Nat.zero_le _⟩ rfl dX3_ball_16 ?_
  generalize er1 : fX3_ballTold_0 (X.1, X.2.1, X.2.2.1, X.2.2.2.1, X.2.2.2.2.1, X.2.2.2.2.2.1, 0, X.2.2.2.2.2.2.2) = r1
  refine k_goto C 27 (by decide) dX3_ball_19 ?_
  have hL : fX3_ball_0 X = (r1, (X.1, X.2.1, X.2.2.1, X.2.2.2.1, X.2.2.2.2.1, X.2.2.2.2.2.1, 0, X.2.2.2.2.2.2.2)) := by subst er1; exact rfl
  exact k_iret C rfl (by rw [hL]) (by rw [hL]) dX3_ball_27

set_option maxHeartbeats 4000000 in
set_option maxRecDepth 100000 in
theorem mX3_isIn_k1_0_5 (l : Launch) (D : va_G) (cI cJ : ClassId)   : kCi l D cI cJ yX3_isIn (.code yX3_isIn cX3_isIn 3 (some .boolean)) { frames := 0, cells := 0, slots := 0, locals := 0 } [.int 1, .int 0, .int 5] [] (1) [] := by
  refine fun sz => k_of (lv := [(0, .int 1), (1, .int 0), (2, .int 5)]) (by decide) sz (by exact Nat.le_of_ble_eq_true rfl) rfl ?_
  intro p e s m args below meth c hsz C
  refine k_iload_n C dX3_isIn_0 0 rfl ?_
  refine k_iload_n C dX3_isIn_1 1 rfl ?_
  refine k_icmp_lt C 14 (by decide) dX3_isIn_2 (fun h => absurd h (by decide)) (fun _ => ?_)
  refine k_iload_n C dX3_isIn_5 0 rfl ?_
  refine k_iload_n C dX3_isIn_6 2 rfl ?_
  refine k_icmp_gt C 14 (by decide) dX3_isIn_7 (fun h => absurd h (by decide)) (fun _ => ?_)
  refine k_iconst C 1 (by decide) dX3_isIn_10 ?_
  refine k_goto C 15 (by decide) dX3_isIn_11 ?_
  exact k_zret C rfl rfl rfl rfl dX3_isIn_15

noncomputable def fX3_ball_1 (X : Mo) : Int32 × Mo :=
  ((fX3_ballTold_1 (X.1, X.2.1, X.2.2.1, X.2.2.2.1, X.2.2.2.2.1, X.2.2.2.2.2.1, 0, X.2.2.2.2.2.2.2)), (X.1, X.2.1, X.2.2.1, X.2.2.2.1, X.2.2.2.2.1, X.2.2.2.2.2.1, 0, X.2.2.2.2.2.2.2))
set_option maxHeartbeats 4000000 in
set_option maxRecDepth 100000 in
theorem mX3_ball_1 (l : Launch) (D : va_G) (cI cJ : ClassId) (b0 b1 b2 b3 b4 b5 b6 : Nat) (X : Mo)  : kCi l D cI cJ yX3_ball (.code yX3_ball cX3_ball 2 (some .int)) { frames := 1, cells := 0, slots := 0, locals := 22 } [.ref b0, .int 1] (wM cI b0 b1 b2 b3 b4 b5 b6 X) (fX3_ball_1 X).1 (wM cI b0 b1 b2 b3 b4 b5 b6 (fX3_ball_1 X).2) := by
  refine fun sz => k_of (lv := [(0, .ref b0), (1, .int 1)]) (by decide) sz (by exact Nat.le_of_ble_eq_true rfl) rfl ?_
  intro p e s m args below meth c hsz C
  refine k_aload_n C dX3_ball_0 0 rfl ?_
  refine k_iconst C 0 (by decide) dX3_ball_1 ?_
  refine k_putX3 C [(b0, cM b1 b2 b3 b4 b5 b6 (0, X.2.2.2.2.2.2.2)), (b1, cA9 cI X.1), (b2, cA2 cI X.2.1), (b3, cA2 cI X.2.2.1), (b4, cA2 cI X.2.2.2.1), (b5, cA2 cI X.2.2.2.2.1), (b6, cA9 cI X.2.2.2.2.2.1)] 0 0 rfl rfl (by decide) q570 rfl rfl fdI rfl rfl (Nat.le_of_ble_eq_true rfl) dX3_ball_2 ?_
  refine k_iload_n C dX3_ball_5 1 rfl ?_
  refine k_iconst C 0 (by decide) dX3_ball_6 ?_
  refine k_iconst C 5 (by decide) dX3_ball_7 ?_
  refine k_callS_i C (mX3_isIn_k1_0_5 l D cI cJ) (va_cwS 3 C.2.2.2.2.1 (kGS q637 q638 q61 q639) rfl rfl rfl hdX3_isIn ⟨Nat.le_of_ble_eq_true rfl, Nat.le_of_ble_eq_true rfl⟩) [] [0, 1, 2, 3, 4, 5, 6] [0, 1, 2, 3, 4, 5, 6] [(b0, cM b1 b2 b3 b4 b5 b6 (0, X.2.2.2.2.2.2.2)), (b1, cA9 cI X.1), (b2, cA2 cI X.2.1), (b3, cA2 cI X.2.2.1), (b4, cA2 cI X.2.2.2.1), (b5, cA2 cI X.2.2.2.2.1), (b6, cA9 cI X.2.2.2.2.2.1)] ([(b0, cM b1 b2 b3 b4 b5 b6 (0, X.2.2.2.2.2.2.2)), (b1, cA9 cI X.1), (b2, cA2 cI X.2.1), (b3, cA2 cI X.2.2.1), (b4, cA2 cI X.2.2.2.1), (b5, cA2 cI X.2.2.2.2.1), (b6, cA9 cI X.2.2.2.2.2.1)]) rfl rfl rfl rfl (by decide) [] rfl rfl rfl rfl (Nat.le_of_ble_eq_true rfl) ⟨Nat.zero_le _, Nat.zero_le _⟩ rfl dX3_ball_8 ?_
  refine k_if_eq C 22 (by decide) dX3_ball_11 (fun h => absurd h (by decide)) (fun _ => ?_)
  refine k_aload_n C dX3_ball_14 0 rfl ?_
  refine k_iload_n C dX3_ball_15 1 rfl ?_
  refine k_callV_i C (mX3_ballTold_1 l D cI cJ b0 b1 b2 b3 b4 b5 b6 (X.1, X.2.1, X.2.2.1, X.2.2.2.1, X.2.2.2.2.1, X.2.2.2.2.2.1, 0, X.2.2.2.2.2.2.2)) (cwV 1 C.2.2.2.2.1 (kGV q743 q745 q50 q61 q746) rfl rfl rfl ⟨rfl, hdX3_ballTold⟩ ⟨Nat.le_of_ble_eq_true rfl, Nat.le_of_ble_eq_true rfl⟩) [0, 1, 2, 3, 4, 5, 6] [] [0, 1, 2, 3, 4, 5, 6] [] ([(b0, cM b1 b2 b3 b4 b5 b6 (0, X.2.2.2.2.2.2.2)), (b1, cA9 cI X.1), (b2, cA2 cI X.2.1), (b3, cA2 cI X.2.2.1), (b4, cA2 cI X.2.2.2.1), (b5, cA2 cI X.2.2.2.2.1), (b6, cA9 cI X.2.2.2.2.2.1)]) rfl rfl rfl rfl (by decide) [b0, b1, b2, b3, b4, b5, b6] rfl rfl rfl rfl 0 3 rfl rfl rfl (Nat.le_of_ble_eq_true rfl) ⟨Nat.zero_le _, Nat.zero_le _⟩ rfl dX3_ball_16 ?_
  generalize er1 : fX3_ballTold_1 (X.1, X.2.1, X.2.2.1, X.2.2.2.1, X.2.2.2.2.1, X.2.2.2.2.2.1, 0, X.2.2.2.2.2.2.2) = r1
  refine k_goto C 27 (by decide) dX3_ball_19 ?_
  have hL : fX3_ball_1 X = (r1, (X.1, X.2.1, X.2.2.1, X.2.2.2.1, X.2.2.2.2.1, X.2.2.2.2.2.1, 0, X.2.2.2.2.2.2.2)) := by subst er1; exact rfl
  exact k_iret C rfl (by rw [hL]) (by rw [hL]) dX3_ball_27

set_option maxHeartbeats 4000000 in
set_option maxRecDepth 100000 in
theorem mX3_isIn_k2_0_5 (l : Launch) (D : va_G) (cI cJ : ClassId)   : kCi l D cI cJ yX3_isIn (.code yX3_isIn cX3_isIn 3 (some .boolean)) { frames := 0, cells := 0, slots := 0, locals := 0 } [.int 2, .int 0, .int 5] [] (1) [] := by
  refine fun sz => k_of (lv := [(0, .int 2), (1, .int 0), (2, .int 5)]) (by decide) sz (by exact Nat.le_of_ble_eq_true rfl) rfl ?_
  intro p e s m args below meth c hsz C
  refine k_iload_n C dX3_isIn_0 0 rfl ?_
  refine k_iload_n C dX3_isIn_1 1 rfl ?_
  refine k_icmp_lt C 14 (by decide) dX3_isIn_2 (fun h => absurd h (by decide)) (fun _ => ?_)
  refine k_iload_n C dX3_isIn_5 0 rfl ?_
  refine k_iload_n C dX3_isIn_6 2 rfl ?_
  refine k_icmp_gt C 14 (by decide) dX3_isIn_7 (fun h => absurd h (by decide)) (fun _ => ?_)
  refine k_iconst C 1 (by decide) dX3_isIn_10 ?_
  refine k_goto C 15 (by decide) dX3_isIn_11 ?_
  exact k_zret C rfl rfl rfl rfl dX3_isIn_15

noncomputable def fX3_ball_2 (X : Mo) : Int32 × Mo :=
  ((fX3_ballTold_2 (X.1, X.2.1, X.2.2.1, X.2.2.2.1, X.2.2.2.2.1, X.2.2.2.2.2.1, 0, X.2.2.2.2.2.2.2)), (X.1, X.2.1, X.2.2.1, X.2.2.2.1, X.2.2.2.2.1, X.2.2.2.2.2.1, 0, X.2.2.2.2.2.2.2))
set_option maxHeartbeats 4000000 in
set_option maxRecDepth 100000 in
theorem mX3_ball_2 (l : Launch) (D : va_G) (cI cJ : ClassId) (b0 b1 b2 b3 b4 b5 b6 : Nat) (X : Mo)  : kCi l D cI cJ yX3_ball (.code yX3_ball cX3_ball 2 (some .int)) { frames := 1, cells := 0, slots := 0, locals := 22 } [.ref b0, .int 2] (wM cI b0 b1 b2 b3 b4 b5 b6 X) (fX3_ball_2 X).1 (wM cI b0 b1 b2 b3 b4 b5 b6 (fX3_ball_2 X).2) := by
  refine fun sz => k_of (lv := [(0, .ref b0), (1, .int 2)]) (by decide) sz (by exact Nat.le_of_ble_eq_true rfl) rfl ?_
  intro p e s m args below meth c hsz C
  refine k_aload_n C dX3_ball_0 0 rfl ?_
  refine k_iconst C 0 (by decide) dX3_ball_1 ?_
  refine k_putX3 C [(b0, cM b1 b2 b3 b4 b5 b6 (0, X.2.2.2.2.2.2.2)), (b1, cA9 cI X.1), (b2, cA2 cI X.2.1), (b3, cA2 cI X.2.2.1), (b4, cA2 cI X.2.2.2.1), (b5, cA2 cI X.2.2.2.2.1), (b6, cA9 cI X.2.2.2.2.2.1)] 0 0 rfl rfl (by decide) q570 rfl rfl fdI rfl rfl (Nat.le_of_ble_eq_true rfl) dX3_ball_2 ?_
  refine k_iload_n C dX3_ball_5 1 rfl ?_
  refine k_iconst C 0 (by decide) dX3_ball_6 ?_
  refine k_iconst C 5 (by decide) dX3_ball_7 ?_
  refine k_callS_i C (mX3_isIn_k2_0_5 l D cI cJ) (va_cwS 3 C.2.2.2.2.1 (kGS q637 q638 q61 q639) rfl rfl rfl hdX3_isIn ⟨Nat.le_of_ble_eq_true rfl, Nat.le_of_ble_eq_true rfl⟩) [] [0, 1, 2, 3, 4, 5, 6] [0, 1, 2, 3, 4, 5, 6] [(b0, cM b1 b2 b3 b4 b5 b6 (0, X.2.2.2.2.2.2.2)), (b1, cA9 cI X.1), (b2, cA2 cI X.2.1), (b3, cA2 cI X.2.2.1), (b4, cA2 cI X.2.2.2.1), (b5, cA2 cI X.2.2.2.2.1), (b6, cA9 cI X.2.2.2.2.2.1)] ([(b0, cM b1 b2 b3 b4 b5 b6 (0, X.2.2.2.2.2.2.2)), (b1, cA9 cI X.1), (b2, cA2 cI X.2.1), (b3, cA2 cI X.2.2.1), (b4, cA2 cI X.2.2.2.1), (b5, cA2 cI X.2.2.2.2.1), (b6, cA9 cI X.2.2.2.2.2.1)]) rfl rfl rfl rfl (by decide) [] rfl rfl rfl rfl (Nat.le_of_ble_eq_true rfl) ⟨Nat.zero_le _, Nat.zero_le _⟩ rfl dX3_ball_8 ?_
  refine k_if_eq C 22 (by decide) dX3_ball_11 (fun h => absurd h (by decide)) (fun _ => ?_)
  refine k_aload_n C dX3_ball_14 0 rfl ?_
  refine k_iload_n C dX3_ball_15 1 rfl ?_
  refine k_callV_i C (mX3_ballTold_2 l D cI cJ b0 b1 b2 b3 b4 b5 b6 (X.1, X.2.1, X.2.2.1, X.2.2.2.1, X.2.2.2.2.1, X.2.2.2.2.2.1, 0, X.2.2.2.2.2.2.2)) (cwV 1 C.2.2.2.2.1 (kGV q743 q745 q50 q61 q746) rfl rfl rfl ⟨rfl, hdX3_ballTold⟩ ⟨Nat.le_of_ble_eq_true rfl, Nat.le_of_ble_eq_true rfl⟩) [0, 1, 2, 3, 4, 5, 6] [] [0, 1, 2, 3, 4, 5, 6] [] ([(b0, cM b1 b2 b3 b4 b5 b6 (0, X.2.2.2.2.2.2.2)), (b1, cA9 cI X.1), (b2, cA2 cI X.2.1), (b3, cA2 cI X.2.2.1), (b4, cA2 cI X.2.2.2.1), (b5, cA2 cI X.2.2.2.2.1), (b6, cA9 cI X.2.2.2.2.2.1)]) rfl rfl rfl rfl (by decide) [b0, b1, b2, b3, b4, b5, b6] rfl rfl rfl rfl 0 3 rfl rfl rfl (Nat.le_of_ble_eq_true rfl) ⟨Nat.zero_le _, Nat.zero_le _⟩ rfl dX3_ball_16 ?_
  generalize er1 : fX3_ballTold_2 (X.1, X.2.1, X.2.2.1, X.2.2.2.1, X.2.2.2.2.1, X.2.2.2.2.2.1, 0, X.2.2.2.2.2.2.2) = r1
  refine k_goto C 27 (by decide) dX3_ball_19 ?_
  have hL : fX3_ball_2 X = (r1, (X.1, X.2.1, X.2.2.1, X.2.2.2.1, X.2.2.2.2.1, X.2.2.2.2.2.1, 0, X.2.2.2.2.2.2.2)) := by subst er1; exact rfl
  exact k_iret C rfl (by rw [hL]) (by rw [hL]) dX3_ball_27

set_option maxHeartbeats 4000000 in
set_option maxRecDepth 100000 in
theorem mX3_isIn_k3_0_5 (l : Launch) (D : va_G) (cI cJ : ClassId)   : kCi l D cI cJ yX3_isIn (.code yX3_isIn cX3_isIn 3 (some .boolean)) { frames := 0, cells := 0, slots := 0, locals := 0 } [.int 3, .int 0, .int 5] [] (1) [] := by
  refine fun sz => k_of (lv := [(0, .int 3), (1, .int 0), (2, .int 5)]) (by decide) sz (by exact Nat.le_of_ble_eq_true rfl) rfl ?_
  intro p e s m args below meth c hsz C
  refine k_iload_n C dX3_isIn_0 0 rfl ?_
  refine k_iload_n C dX3_isIn_1 1 rfl ?_
  refine k_icmp_lt C 14 (by decide) dX3_isIn_2 (fun h => absurd h (by decide)) (fun _ => ?_)
  refine k_iload_n C dX3_isIn_5 0 rfl ?_
  refine k_iload_n C dX3_isIn_6 2 rfl ?_
  refine k_icmp_gt C 14 (by decide) dX3_isIn_7 (fun h => absurd h (by decide)) (fun _ => ?_)
  refine k_iconst C 1 (by decide) dX3_isIn_10 ?_
  refine k_goto C 15 (by decide) dX3_isIn_11 ?_
  exact k_zret C rfl rfl rfl rfl dX3_isIn_15

noncomputable def fX3_ball_3 (X : Mo) : Int32 × Mo :=
  ((fX3_ballTold_3 (X.1, X.2.1, X.2.2.1, X.2.2.2.1, X.2.2.2.2.1, X.2.2.2.2.2.1, 0, X.2.2.2.2.2.2.2)), (X.1, X.2.1, X.2.2.1, X.2.2.2.1, X.2.2.2.2.1, X.2.2.2.2.2.1, 0, X.2.2.2.2.2.2.2))
set_option maxHeartbeats 4000000 in
set_option maxRecDepth 100000 in
theorem mX3_ball_3 (l : Launch) (D : va_G) (cI cJ : ClassId) (b0 b1 b2 b3 b4 b5 b6 : Nat) (X : Mo)  : kCi l D cI cJ yX3_ball (.code yX3_ball cX3_ball 2 (some .int)) { frames := 1, cells := 0, slots := 0, locals := 22 } [.ref b0, .int 3] (wM cI b0 b1 b2 b3 b4 b5 b6 X) (fX3_ball_3 X).1 (wM cI b0 b1 b2 b3 b4 b5 b6 (fX3_ball_3 X).2) := by
  refine fun sz => k_of (lv := [(0, .ref b0), (1, .int 3)]) (by decide) sz (by exact Nat.le_of_ble_eq_true rfl) rfl ?_
  intro p e s m args below meth c hsz C
  refine k_aload_n C dX3_ball_0 0 rfl ?_
  refine k_iconst C 0 (by decide) dX3_ball_1 ?_
  refine k_putX3 C [(b0, cM b1 b2 b3 b4 b5 b6 (0, X.2.2.2.2.2.2.2)), (b1, cA9 cI X.1), (b2, cA2 cI X.2.1), (b3, cA2 cI X.2.2.1), (b4, cA2 cI X.2.2.2.1), (b5, cA2 cI X.2.2.2.2.1), (b6, cA9 cI X.2.2.2.2.2.1)] 0 0 rfl rfl (by decide) q570 rfl rfl fdI rfl rfl (Nat.le_of_ble_eq_true rfl) dX3_ball_2 ?_
  refine k_iload_n C dX3_ball_5 1 rfl ?_
  refine k_iconst C 0 (by decide) dX3_ball_6 ?_
  refine k_iconst C 5 (by decide) dX3_ball_7 ?_
  refine k_callS_i C (mX3_isIn_k3_0_5 l D cI cJ) (va_cwS 3 C.2.2.2.2.1 (kGS q637 q638 q61 q639) rfl rfl rfl hdX3_isIn ⟨Nat.le_of_ble_eq_true rfl, Nat.le_of_ble_eq_true rfl⟩) [] [0, 1, 2, 3, 4, 5, 6] [0, 1, 2, 3, 4, 5, 6] [(b0, cM b1 b2 b3 b4 b5 b6 (0, X.2.2.2.2.2.2.2)), (b1, cA9 cI X.1), (b2, cA2 cI X.2.1), (b3, cA2 cI X.2.2.1), (b4, cA2 cI X.2.2.2.1), (b5, cA2 cI X.2.2.2.2.1), (b6, cA9 cI X.2.2.2.2.2.1)] ([(b0, cM b1 b2 b3 b4 b5 b6 (0, X.2.2.2.2.2.2.2)), (b1, cA9 cI X.1), (b2, cA2 cI X.2.1), (b3, cA2 cI X.2.2.1), (b4, cA2 cI X.2.2.2.1), (b5, cA2 cI X.2.2.2.2.1), (b6, cA9 cI X.2.2.2.2.2.1)]) rfl rfl rfl rfl (by decide) [] rfl rfl rfl rfl (Nat.le_of_ble_eq_true rfl) ⟨Nat.zero_le _, Nat.zero_le _⟩ rfl dX3_ball_8 ?_
  refine k_if_eq C 22 (by decide) dX3_ball_11 (fun h => absurd h (by decide)) (fun _ => ?_)
  refine k_aload_n C dX3_ball_14 0 rfl ?_
  refine k_iload_n C dX3_ball_15 1 rfl ?_
  refine k_callV_i C (mX3_ballTold_3 l D cI cJ b0 b1 b2 b3 b4 b5 b6 (X.1, X.2.1, X.2.2.1, X.2.2.2.1, X.2.2.2.2.1, X.2.2.2.2.2.1, 0, X.2.2.2.2.2.2.2)) (cwV 1 C.2.2.2.2.1 (kGV q743 q745 q50 q61 q746) rfl rfl rfl ⟨rfl, hdX3_ballTold⟩ ⟨Nat.le_of_ble_eq_true rfl, Nat.le_of_ble_eq_true rfl⟩) [0, 1, 2, 3, 4, 5, 6] [] [0, 1, 2, 3, 4, 5, 6] [] ([(b0, cM b1 b2 b3 b4 b5 b6 (0, X.2.2.2.2.2.2.2)), (b1, cA9 cI X.1), (b2, cA2 cI X.2.1), (b3, cA2 cI X.2.2.1), (b4, cA2 cI X.2.2.2.1), (b5, cA2 cI X.2.2.2.2.1), (b6, cA9 cI X.2.2.2.2.2.1)]) rfl rfl rfl rfl (by decide) [b0, b1, b2, b3, b4, b5, b6] rfl rfl rfl rfl 0 3 rfl rfl rfl (Nat.le_of_ble_eq_true rfl) ⟨Nat.zero_le _, Nat.zero_le _⟩ rfl dX3_ball_16 ?_
  generalize er1 : fX3_ballTold_3 (X.1, X.2.1, X.2.2.1, X.2.2.2.1, X.2.2.2.2.1, X.2.2.2.2.2.1, 0, X.2.2.2.2.2.2.2) = r1
  refine k_goto C 27 (by decide) dX3_ball_19 ?_
  have hL : fX3_ball_3 X = (r1, (X.1, X.2.1, X.2.2.1, X.2.2.2.1, X.2.2.2.2.1, X.2.2.2.2.2.1, 0, X.2.2.2.2.2.2.2)) := by subst er1; exact rfl
  exact k_iret C rfl (by rw [hL]) (by rw [hL]) dX3_ball_27

set_option maxHeartbeats 4000000 in
set_option maxRecDepth 100000 in
theorem mX3_isIn_k4_0_5 (l : Launch) (D : va_G) (cI cJ : ClassId)   : kCi l D cI cJ yX3_isIn (.code yX3_isIn cX3_isIn 3 (some .boolean)) { frames := 0, cells := 0, slots := 0, locals := 0 } [.int 4, .int 0, .int 5] [] (1) [] := by
  refine fun sz => k_of (lv := [(0, .int 4), (1, .int 0), (2, .int 5)]) (by decide) sz (by exact Nat.le_of_ble_eq_true rfl) rfl ?_
  intro p e s m args below meth c hsz C
  refine k_iload_n C dX3_isIn_0 0 rfl ?_
  refine k_iload_n C dX3_isIn_1 1 rfl ?_
  refine k_icmp_lt C 14 (by decide) dX3_isIn_2 (fun h => absurd h (by decide)) (fun _ => ?_)
  refine k_iload_n C dX3_isIn_5 0 rfl ?_
  refine k_iload_n C dX3_isIn_6 2 rfl ?_
  refine k_icmp_gt C 14 (by decide) dX3_isIn_7 (fun h => absurd h (by decide)) (fun _ => ?_)
  refine k_iconst C 1 (by decide) dX3_isIn_10 ?_
  refine k_goto C 15 (by decide) dX3_isIn_11 ?_
  exact k_zret C rfl rfl rfl rfl dX3_isIn_15

noncomputable def fX3_ball_4 (X : Mo) : Int32 × Mo :=
  ((fX3_ballTold_4 (X.1, X.2.1, X.2.2.1, X.2.2.2.1, X.2.2.2.2.1, X.2.2.2.2.2.1, 0, X.2.2.2.2.2.2.2)), (X.1, X.2.1, X.2.2.1, X.2.2.2.1, X.2.2.2.2.1, X.2.2.2.2.2.1, 0, X.2.2.2.2.2.2.2))
set_option maxHeartbeats 4000000 in
set_option maxRecDepth 100000 in
theorem mX3_ball_4 (l : Launch) (D : va_G) (cI cJ : ClassId) (b0 b1 b2 b3 b4 b5 b6 : Nat) (X : Mo)  : kCi l D cI cJ yX3_ball (.code yX3_ball cX3_ball 2 (some .int)) { frames := 1, cells := 0, slots := 0, locals := 22 } [.ref b0, .int 4] (wM cI b0 b1 b2 b3 b4 b5 b6 X) (fX3_ball_4 X).1 (wM cI b0 b1 b2 b3 b4 b5 b6 (fX3_ball_4 X).2) := by
  refine fun sz => k_of (lv := [(0, .ref b0), (1, .int 4)]) (by decide) sz (by exact Nat.le_of_ble_eq_true rfl) rfl ?_
  intro p e s m args below meth c hsz C
  refine k_aload_n C dX3_ball_0 0 rfl ?_
  refine k_iconst C 0 (by decide) dX3_ball_1 ?_
  refine k_putX3 C [(b0, cM b1 b2 b3 b4 b5 b6 (0, X.2.2.2.2.2.2.2)), (b1, cA9 cI X.1), (b2, cA2 cI X.2.1), (b3, cA2 cI X.2.2.1), (b4, cA2 cI X.2.2.2.1), (b5, cA2 cI X.2.2.2.2.1), (b6, cA9 cI X.2.2.2.2.2.1)] 0 0 rfl rfl (by decide) q570 rfl rfl fdI rfl rfl (Nat.le_of_ble_eq_true rfl) dX3_ball_2 ?_
  refine k_iload_n C dX3_ball_5 1 rfl ?_
  refine k_iconst C 0 (by decide) dX3_ball_6 ?_
  refine k_iconst C 5 (by decide) dX3_ball_7 ?_
  refine k_callS_i C (mX3_isIn_k4_0_5 l D cI cJ) (va_cwS 3 C.2.2.2.2.1 (kGS q637 q638 q61 q639) rfl rfl rfl hdX3_isIn ⟨Nat.le_of_ble_eq_true rfl, Nat.le_of_ble_eq_true rfl⟩) [] [0, 1, 2, 3, 4, 5, 6] [0, 1, 2, 3, 4, 5, 6] [(b0, cM b1 b2 b3 b4 b5 b6 (0, X.2.2.2.2.2.2.2)), (b1, cA9 cI X.1), (b2, cA2 cI X.2.1), (b3, cA2 cI X.2.2.1), (b4, cA2 cI X.2.2.2.1), (b5, cA2 cI X.2.2.2.2.1), (b6, cA9 cI X.2.2.2.2.2.1)] ([(b0, cM b1 b2 b3 b4 b5 b6 (0, X.2.2.2.2.2.2.2)), (b1, cA9 cI X.1), (b2, cA2 cI X.2.1), (b3, cA2 cI X.2.2.1), (b4, cA2 cI X.2.2.2.1), (b5, cA2 cI X.2.2.2.2.1), (b6, cA9 cI X.2.2.2.2.2.1)]) rfl rfl rfl rfl (by decide) [] rfl rfl rfl rfl (Nat.le_of_ble_eq_true rfl) ⟨Nat.zero_le _, Nat.zero_le _⟩ rfl dX3_ball_8 ?_
  refine k_if_eq C 22 (by decide) dX3_ball_11 (fun h => absurd h (by decide)) (fun _ => ?_)
  refine k_aload_n C dX3_ball_14 0 rfl ?_
  refine k_iload_n C dX3_ball_15 1 rfl ?_
  refine k_callV_i C (mX3_ballTold_4 l D cI cJ b0 b1 b2 b3 b4 b5 b6 (X.1, X.2.1, X.2.2.1, X.2.2.2.1, X.2.2.2.2.1, X.2.2.2.2.2.1, 0, X.2.2.2.2.2.2.2)) (cwV 1 C.2.2.2.2.1 (kGV q743 q745 q50 q61 q746) rfl rfl rfl ⟨rfl, hdX3_ballTold⟩ ⟨Nat.le_of_ble_eq_true rfl, Nat.le_of_ble_eq_true rfl⟩) [0, 1, 2, 3, 4, 5, 6] [] [0, 1, 2, 3, 4, 5, 6] [] ([(b0, cM b1 b2 b3 b4 b5 b6 (0, X.2.2.2.2.2.2.2)), (b1, cA9 cI X.1), (b2, cA2 cI X.2.1), (b3, cA2 cI X.2.2.1), (b4, cA2 cI X.2.2.2.1), (b5, cA2 cI X.2.2.2.2.1), (b6, cA9 cI X.2.2.2.2.2.1)]) rfl rfl rfl rfl (by decide) [b0, b1, b2, b3, b4, b5, b6] rfl rfl rfl rfl 0 3 rfl rfl rfl (Nat.le_of_ble_eq_true rfl) ⟨Nat.zero_le _, Nat.zero_le _⟩ rfl dX3_ball_16 ?_
  generalize er1 : fX3_ballTold_4 (X.1, X.2.1, X.2.2.1, X.2.2.2.1, X.2.2.2.2.1, X.2.2.2.2.2.1, 0, X.2.2.2.2.2.2.2) = r1
  refine k_goto C 27 (by decide) dX3_ball_19 ?_
  have hL : fX3_ball_4 X = (r1, (X.1, X.2.1, X.2.2.1, X.2.2.2.1, X.2.2.2.2.1, X.2.2.2.2.2.1, 0, X.2.2.2.2.2.2.2)) := by subst er1; exact rfl
  exact k_iret C rfl (by rw [hL]) (by rw [hL]) dX3_ball_27

set_option maxHeartbeats 4000000 in
set_option maxRecDepth 100000 in
theorem mX3_isIn_k5_0_5 (l : Launch) (D : va_G) (cI cJ : ClassId)   : kCi l D cI cJ yX3_isIn (.code yX3_isIn cX3_isIn 3 (some .boolean)) { frames := 0, cells := 0, slots := 0, locals := 0 } [.int 5, .int 0, .int 5] [] (1) [] := by
  refine fun sz => k_of (lv := [(0, .int 5), (1, .int 0), (2, .int 5)]) (by decide) sz (by exact Nat.le_of_ble_eq_true rfl) rfl ?_
  intro p e s m args below meth c hsz C
  refine k_iload_n C dX3_isIn_0 0 rfl ?_
  refine k_iload_n C dX3_isIn_1 1 rfl ?_
  refine k_icmp_lt C 14 (by decide) dX3_isIn_2 (fun h => absurd h (by decide)) (fun _ => ?_)
  refine k_iload_n C dX3_isIn_5 0 rfl ?_
  refine k_iload_n C dX3_isIn_6 2 rfl ?_
  refine k_icmp_gt C 14 (by decide) dX3_isIn_7 (fun h => absurd h (by decide)) (fun _ => ?_)
  refine k_iconst C 1 (by decide) dX3_isIn_10 ?_
  refine k_goto C 15 (by decide) dX3_isIn_11 ?_
  exact k_zret C rfl rfl rfl rfl dX3_isIn_15

noncomputable def fX3_ball_5 (X : Mo) : Int32 × Mo :=
  ((fX3_ballTold_5 (X.1, X.2.1, X.2.2.1, X.2.2.2.1, X.2.2.2.2.1, X.2.2.2.2.2.1, 0, X.2.2.2.2.2.2.2)), (X.1, X.2.1, X.2.2.1, X.2.2.2.1, X.2.2.2.2.1, X.2.2.2.2.2.1, 0, X.2.2.2.2.2.2.2))
set_option maxHeartbeats 4000000 in
set_option maxRecDepth 100000 in
theorem mX3_ball_5 (l : Launch) (D : va_G) (cI cJ : ClassId) (b0 b1 b2 b3 b4 b5 b6 : Nat) (X : Mo)  : kCi l D cI cJ yX3_ball (.code yX3_ball cX3_ball 2 (some .int)) { frames := 1, cells := 0, slots := 0, locals := 22 } [.ref b0, .int 5] (wM cI b0 b1 b2 b3 b4 b5 b6 X) (fX3_ball_5 X).1 (wM cI b0 b1 b2 b3 b4 b5 b6 (fX3_ball_5 X).2) := by
  refine fun sz => k_of (lv := [(0, .ref b0), (1, .int 5)]) (by decide) sz (by exact Nat.le_of_ble_eq_true rfl) rfl ?_
  intro p e s m args below meth c hsz C
  refine k_aload_n C dX3_ball_0 0 rfl ?_
  refine k_iconst C 0 (by decide) dX3_ball_1 ?_
  refine k_putX3 C [(b0, cM b1 b2 b3 b4 b5 b6 (0, X.2.2.2.2.2.2.2)), (b1, cA9 cI X.1), (b2, cA2 cI X.2.1), (b3, cA2 cI X.2.2.1), (b4, cA2 cI X.2.2.2.1), (b5, cA2 cI X.2.2.2.2.1), (b6, cA9 cI X.2.2.2.2.2.1)] 0 0 rfl rfl (by decide) q570 rfl rfl fdI rfl rfl (Nat.le_of_ble_eq_true rfl) dX3_ball_2 ?_
  refine k_iload_n C dX3_ball_5 1 rfl ?_
  refine k_iconst C 0 (by decide) dX3_ball_6 ?_
  refine k_iconst C 5 (by decide) dX3_ball_7 ?_
  refine k_callS_i C (mX3_isIn_k5_0_5 l D cI cJ) (va_cwS 3 C.2.2.2.2.1 (kGS q637 q638 q61 q639) rfl rfl rfl hdX3_isIn ⟨Nat.le_of_ble_eq_true rfl, Nat.le_of_ble_eq_true rfl⟩) [] [0, 1, 2, 3, 4, 5, 6] [0, 1, 2, 3, 4, 5, 6] [(b0, cM b1 b2 b3 b4 b5 b6 (0, X.2.2.2.2.2.2.2)), (b1, cA9 cI X.1), (b2, cA2 cI X.2.1), (b3, cA2 cI X.2.2.1), (b4, cA2 cI X.2.2.2.1), (b5, cA2 cI X.2.2.2.2.1), (b6, cA9 cI X.2.2.2.2.2.1)] ([(b0, cM b1 b2 b3 b4 b5 b6 (0, X.2.2.2.2.2.2.2)), (b1, cA9 cI X.1), (b2, cA2 cI X.2.1), (b3, cA2 cI X.2.2.1), (b4, cA2 cI X.2.2.2.1), (b5, cA2 cI X.2.2.2.2.1), (b6, cA9 cI X.2.2.2.2.2.1)]) rfl rfl rfl rfl (by decide) [] rfl rfl rfl rfl (Nat.le_of_ble_eq_true rfl) ⟨Nat.zero_le _, Nat.zero_le _⟩ rfl dX3_ball_8 ?_
  refine k_if_eq C 22 (by decide) dX3_ball_11 (fun h => absurd h (by decide)) (fun _ => ?_)
  refine k_aload_n C dX3_ball_14 0 rfl ?_
  refine k_iload_n C dX3_ball_15 1 rfl ?_
  refine k_callV_i C (mX3_ballTold_5 l D cI cJ b0 b1 b2 b3 b4 b5 b6 (X.1, X.2.1, X.2.2.1, X.2.2.2.1, X.2.2.2.2.1, X.2.2.2.2.2.1, 0, X.2.2.2.2.2.2.2)) (cwV 1 C.2.2.2.2.1 (kGV q743 q745 q50 q61 q746) rfl rfl rfl ⟨rfl, hdX3_ballTold⟩ ⟨Nat.le_of_ble_eq_true rfl, Nat.le_of_ble_eq_true rfl⟩) [0, 1, 2, 3, 4, 5, 6] [] [0, 1, 2, 3, 4, 5, 6] [] ([(b0, cM b1 b2 b3 b4 b5 b6 (0, X.2.2.2.2.2.2.2)), (b1, cA9 cI X.1), (b2, cA2 cI X.2.1), (b3, cA2 cI X.2.2.1), (b4, cA2 cI X.2.2.2.1), (b5, cA2 cI X.2.2.2.2.1), (b6, cA9 cI X.2.2.2.2.2.1)]) rfl rfl rfl rfl (by decide) [b0, b1, b2, b3, b4, b5, b6] rfl rfl rfl rfl 0 3 rfl rfl rfl (Nat.le_of_ble_eq_true rfl) ⟨Nat.zero_le _, Nat.zero_le _⟩ rfl dX3_ball_16 ?_
  generalize er1 : fX3_ballTold_5 (X.1, X.2.1, X.2.2.1, X.2.2.2.1, X.2.2.2.2.1, X.2.2.2.2.2.1, 0, X.2.2.2.2.2.2.2) = r1
  refine k_goto C 27 (by decide) dX3_ball_19 ?_
  have hL : fX3_ball_5 X = (r1, (X.1, X.2.1, X.2.2.1, X.2.2.2.1, X.2.2.2.2.1, X.2.2.2.2.2.1, 0, X.2.2.2.2.2.2.2)) := by subst er1; exact rfl
  exact k_iret C rfl (by rw [hL]) (by rw [hL]) dX3_ball_27

noncomputable def fX3_ball_bad (p0 : Int32) (X : Mo) : Int32 × Mo :=
  ((fX3_no 1 (X.1, X.2.1, X.2.2.1, X.2.2.2.1, X.2.2.2.2.1, X.2.2.2.2.2.1, 0, X.2.2.2.2.2.2.2)).1, (fX3_no 1 (X.1, X.2.1, X.2.2.1, X.2.2.2.1, X.2.2.2.2.1, X.2.2.2.2.2.1, 0, X.2.2.2.2.2.2.2)).2)
set_option maxHeartbeats 4000000 in
set_option maxRecDepth 100000 in
theorem mX3_ball_bad (l : Launch) (D : va_G) (cI cJ : ClassId) (b0 b1 b2 b3 b4 b5 b6 : Nat) (p0 : Int32) (X : Mo) (hb0 : (fX3_isIn p0 0 5) = 0)  : kCi l D cI cJ yX3_ball (.code yX3_ball cX3_ball 2 (some .int)) { frames := 1, cells := 0, slots := 0, locals := 22 } [.ref b0, .int p0] (wM cI b0 b1 b2 b3 b4 b5 b6 X) (fX3_ball_bad p0 X).1 (wM cI b0 b1 b2 b3 b4 b5 b6 (fX3_ball_bad p0 X).2) := by
  refine fun sz => k_of (lv := [(0, .ref b0), (1, .int p0)]) (by decide) sz (by exact Nat.le_of_ble_eq_true rfl) rfl ?_
  intro p e s m args below meth c hsz C
  refine k_aload_n C dX3_ball_0 0 rfl ?_
  refine k_iconst C 0 (by decide) dX3_ball_1 ?_
  refine k_putX3 C [(b0, cM b1 b2 b3 b4 b5 b6 (0, X.2.2.2.2.2.2.2)), (b1, cA9 cI X.1), (b2, cA2 cI X.2.1), (b3, cA2 cI X.2.2.1), (b4, cA2 cI X.2.2.2.1), (b5, cA2 cI X.2.2.2.2.1), (b6, cA9 cI X.2.2.2.2.2.1)] 0 0 rfl rfl (by decide) q570 rfl rfl fdI rfl rfl (Nat.le_of_ble_eq_true rfl) dX3_ball_2 ?_
  refine k_iload_n C dX3_ball_5 1 rfl ?_
  refine k_iconst C 0 (by decide) dX3_ball_6 ?_
  refine k_iconst C 5 (by decide) dX3_ball_7 ?_
  refine k_callS_i C (mX3_isIn l D cI cJ p0 0 5) (va_cwS 3 C.2.2.2.2.1 (kGS q637 q638 q61 q639) rfl rfl rfl hdX3_isIn ⟨Nat.le_of_ble_eq_true rfl, Nat.le_of_ble_eq_true rfl⟩) [] [0, 1, 2, 3, 4, 5, 6] [0, 1, 2, 3, 4, 5, 6] [(b0, cM b1 b2 b3 b4 b5 b6 (0, X.2.2.2.2.2.2.2)), (b1, cA9 cI X.1), (b2, cA2 cI X.2.1), (b3, cA2 cI X.2.2.1), (b4, cA2 cI X.2.2.2.1), (b5, cA2 cI X.2.2.2.2.1), (b6, cA9 cI X.2.2.2.2.2.1)] ([(b0, cM b1 b2 b3 b4 b5 b6 (0, X.2.2.2.2.2.2.2)), (b1, cA9 cI X.1), (b2, cA2 cI X.2.1), (b3, cA2 cI X.2.2.1), (b4, cA2 cI X.2.2.2.1), (b5, cA2 cI X.2.2.2.2.1), (b6, cA9 cI X.2.2.2.2.2.1)]) rfl rfl rfl rfl (by decide) [] rfl rfl rfl rfl (Nat.le_of_ble_eq_true rfl) ⟨Nat.zero_le _, Nat.zero_le _⟩ rfl dX3_ball_8 ?_
  generalize er1 : fX3_isIn p0 0 5 = r1
  refine k_if_eq C 22 (by decide) dX3_ball_11 (fun _ => ?_) (fun h => absurd (by subst er1; exact hb0) h)
  refine k_aload_n C dX3_ball_22 0 rfl ?_
  refine k_iconst C 1 (by decide) dX3_ball_23 ?_
  refine k_callV_i C (mX3_no l D cI cJ b0 b1 b2 b3 b4 b5 b6 1 (X.1, X.2.1, X.2.2.1, X.2.2.2.1, X.2.2.2.2.1, X.2.2.2.2.2.1, 0, X.2.2.2.2.2.2.2)) (cwV 1 C.2.2.2.2.1 (kGV q640 q642 q33 q61 q643) rfl rfl rfl ⟨rfl, hdX3_no⟩ ⟨Nat.le_of_ble_eq_true rfl, Nat.le_of_ble_eq_true rfl⟩) [0, 1, 2, 3, 4, 5, 6] [] [0, 1, 2, 3, 4, 5, 6] [] (wM cI b0 b1 b2 b3 b4 b5 b6 (fX3_no 1 (X.1, X.2.1, X.2.2.1, X.2.2.2.1, X.2.2.2.2.1, X.2.2.2.2.2.1, 0, X.2.2.2.2.2.2.2)).2) rfl rfl rfl rfl (by decide) [b0, b1, b2, b3, b4, b5, b6] rfl rfl rfl rfl 0 3 rfl rfl rfl (Nat.le_of_ble_eq_true rfl) ⟨Nat.zero_le _, Nat.zero_le _⟩ rfl dX3_ball_24 ?_
  generalize ez2 : fX3_no 1 (X.1, X.2.1, X.2.2.1, X.2.2.2.1, X.2.2.2.2.1, X.2.2.2.2.2.1, 0, X.2.2.2.2.2.2.2) = z2
  have hL : fX3_ball_bad p0 X = (z2.1, z2.2) := by subst ez2; subst er1; exact rfl
  exact k_iret C rfl (by rw [hL]) (by rw [hL]) dX3_ball_27

theorem hdX3_sideTold : yX3_sideTold.cls ≠ "java/lang/invoke/MethodHandle" ∧ yX3_sideTold.cls ≠ "java/lang/invoke/VarHandle" ∧ (parseMethodDescriptor yX3_sideTold.desc).map (fun d => d.parameters.length) = some 2 := by decide +kernel
noncomputable def fX3_sideTold_00 (X : Mo) : Int32 :=
  X.2.1.1
set_option maxHeartbeats 4000000 in
set_option maxRecDepth 100000 in
theorem mX3_sideTold_00 (l : Launch) (D : va_G) (cI cJ : ClassId) (b0 b1 b2 b3 b4 b5 b6 : Nat) (X : Mo)  : kCi l D cI cJ yX3_sideTold (.code yX3_sideTold cX3_sideTold 3 (some .int)) { frames := 0, cells := 0, slots := 0, locals := 0 } [.ref b0, .int 0, .int 0] (wM cI b0 b1 b2 b3 b4 b5 b6 X) (fX3_sideTold_00 X) (wM cI b0 b1 b2 b3 b4 b5 b6 X) := by
  refine fun sz => k_of (lv := [(0, .ref b0), (1, .int 0), (2, .int 0)]) (by decide) sz (by exact Nat.le_of_ble_eq_true rfl) rfl ?_
  intro p e s m args below meth c hsz C
  refine k_iload_n C dX3_sideTold_0 2 rfl ?_
  refine k_if_ne C 13 (by decide) dX3_sideTold_1 (fun h => absurd (by decide) h) (fun _ => ?_)
  refine k_aload_n C dX3_sideTold_4 0 rfl ?_
  refine k_getX3 C 0 6 rfl (by decide) rfl q576 rfl dX3_sideTold_5 ?_
  refine k_iload_n C dX3_sideTold_8 1 rfl ?_
  refine k_iald C 2 rfl vi2_0 (ar2_l0 _) dX3_sideTold_9 ?_
  refine k_goto C 47 (by decide) dX3_sideTold_10 ?_
  have hL : fX3_sideTold_00 X = X.2.1.1 := by exact rfl
  exact k_iret C rfl (hL.symm) rfl dX3_sideTold_47

noncomputable def fX3_sideTold_01 (X : Mo) : Int32 :=
  X.2.2.1.1
set_option maxHeartbeats 4000000 in
set_option maxRecDepth 100000 in
theorem mX3_sideTold_01 (l : Launch) (D : va_G) (cI cJ : ClassId) (b0 b1 b2 b3 b4 b5 b6 : Nat) (X : Mo)  : kCi l D cI cJ yX3_sideTold (.code yX3_sideTold cX3_sideTold 3 (some .int)) { frames := 0, cells := 0, slots := 0, locals := 0 } [.ref b0, .int 0, .int 1] (wM cI b0 b1 b2 b3 b4 b5 b6 X) (fX3_sideTold_01 X) (wM cI b0 b1 b2 b3 b4 b5 b6 X) := by
  refine fun sz => k_of (lv := [(0, .ref b0), (1, .int 0), (2, .int 1)]) (by decide) sz (by exact Nat.le_of_ble_eq_true rfl) rfl ?_
  intro p e s m args below meth c hsz C
  refine k_iload_n C dX3_sideTold_0 2 rfl ?_
  refine k_if_ne C 13 (by decide) dX3_sideTold_1 (fun _ => ?_) (fun h => absurd h (by decide))
  refine k_iload_n C dX3_sideTold_13 2 rfl ?_
  refine k_iconst C 1 (by decide) dX3_sideTold_14 ?_
  refine k_icmp_ne C 27 (by decide) dX3_sideTold_15 (fun h => absurd (by decide) h) (fun _ => ?_)
  refine k_aload_n C dX3_sideTold_18 0 rfl ?_
  refine k_getX3 C 0 7 rfl (by decide) rfl q577 rfl dX3_sideTold_19 ?_
  refine k_iload_n C dX3_sideTold_22 1 rfl ?_
  refine k_iald C 3 rfl vi2_0 (ar2_l0 _) dX3_sideTold_23 ?_
  refine k_goto C 47 (by decide) dX3_sideTold_24 ?_
  have hL : fX3_sideTold_01 X = X.2.2.1.1 := by exact rfl
  exact k_iret C rfl (hL.symm) rfl dX3_sideTold_47

noncomputable def fX3_sideTold_02 (X : Mo) : Int32 :=
  X.2.2.2.1.1
set_option maxHeartbeats 4000000 in
set_option maxRecDepth 100000 in
theorem mX3_sideTold_02 (l : Launch) (D : va_G) (cI cJ : ClassId) (b0 b1 b2 b3 b4 b5 b6 : Nat) (X : Mo)  : kCi l D cI cJ yX3_sideTold (.code yX3_sideTold cX3_sideTold 3 (some .int)) { frames := 0, cells := 0, slots := 0, locals := 0 } [.ref b0, .int 0, .int 2] (wM cI b0 b1 b2 b3 b4 b5 b6 X) (fX3_sideTold_02 X) (wM cI b0 b1 b2 b3 b4 b5 b6 X) := by
  refine fun sz => k_of (lv := [(0, .ref b0), (1, .int 0), (2, .int 2)]) (by decide) sz (by exact Nat.le_of_ble_eq_true rfl) rfl ?_
  intro p e s m args below meth c hsz C
  refine k_iload_n C dX3_sideTold_0 2 rfl ?_
  refine k_if_ne C 13 (by decide) dX3_sideTold_1 (fun _ => ?_) (fun h => absurd h (by decide))
  refine k_iload_n C dX3_sideTold_13 2 rfl ?_
  refine k_iconst C 1 (by decide) dX3_sideTold_14 ?_
  refine k_icmp_ne C 27 (by decide) dX3_sideTold_15 (fun _ => ?_) (fun h => absurd h (by decide))
  refine k_iload_n C dX3_sideTold_27 2 rfl ?_
  refine k_iconst C 2 (by decide) dX3_sideTold_28 ?_
  refine k_icmp_ne C 41 (by decide) dX3_sideTold_29 (fun h => absurd (by decide) h) (fun _ => ?_)
  refine k_aload_n C dX3_sideTold_32 0 rfl ?_
  refine k_getX3 C 0 8 rfl (by decide) rfl q578 rfl dX3_sideTold_33 ?_
  refine k_iload_n C dX3_sideTold_36 1 rfl ?_
  refine k_iald C 4 rfl vi2_0 (ar2_l0 _) dX3_sideTold_37 ?_
  refine k_goto C 47 (by decide) dX3_sideTold_38 ?_
  have hL : fX3_sideTold_02 X = X.2.2.2.1.1 := by exact rfl
  exact k_iret C rfl (hL.symm) rfl dX3_sideTold_47

noncomputable def fX3_sideTold_03 (X : Mo) : Int32 :=
  X.2.2.2.2.1.1
set_option maxHeartbeats 4000000 in
set_option maxRecDepth 100000 in
theorem mX3_sideTold_03 (l : Launch) (D : va_G) (cI cJ : ClassId) (b0 b1 b2 b3 b4 b5 b6 : Nat) (X : Mo)  : kCi l D cI cJ yX3_sideTold (.code yX3_sideTold cX3_sideTold 3 (some .int)) { frames := 0, cells := 0, slots := 0, locals := 0 } [.ref b0, .int 0, .int 3] (wM cI b0 b1 b2 b3 b4 b5 b6 X) (fX3_sideTold_03 X) (wM cI b0 b1 b2 b3 b4 b5 b6 X) := by
  refine fun sz => k_of (lv := [(0, .ref b0), (1, .int 0), (2, .int 3)]) (by decide) sz (by exact Nat.le_of_ble_eq_true rfl) rfl ?_
  intro p e s m args below meth c hsz C
  refine k_iload_n C dX3_sideTold_0 2 rfl ?_
  refine k_if_ne C 13 (by decide) dX3_sideTold_1 (fun _ => ?_) (fun h => absurd h (by decide))
  refine k_iload_n C dX3_sideTold_13 2 rfl ?_
  refine k_iconst C 1 (by decide) dX3_sideTold_14 ?_
  refine k_icmp_ne C 27 (by decide) dX3_sideTold_15 (fun _ => ?_) (fun h => absurd h (by decide))
  refine k_iload_n C dX3_sideTold_27 2 rfl ?_
  refine k_iconst C 2 (by decide) dX3_sideTold_28 ?_
  refine k_icmp_ne C 41 (by decide) dX3_sideTold_29 (fun _ => ?_) (fun h => absurd h (by decide))
  refine k_aload_n C dX3_sideTold_41 0 rfl ?_
  refine k_getX3 C 0 9 rfl (by decide) rfl q579 rfl dX3_sideTold_42 ?_
  refine k_iload_n C dX3_sideTold_45 1 rfl ?_
  refine k_iald C 5 rfl vi2_0 (ar2_l0 _) dX3_sideTold_46 ?_
  have hL : fX3_sideTold_03 X = X.2.2.2.2.1.1 := by exact rfl
  exact k_iret C rfl (hL.symm) rfl dX3_sideTold_47

noncomputable def fX3_sideTold_10 (X : Mo) : Int32 :=
  X.2.1.2
set_option maxHeartbeats 4000000 in
set_option maxRecDepth 100000 in
theorem mX3_sideTold_10 (l : Launch) (D : va_G) (cI cJ : ClassId) (b0 b1 b2 b3 b4 b5 b6 : Nat) (X : Mo)  : kCi l D cI cJ yX3_sideTold (.code yX3_sideTold cX3_sideTold 3 (some .int)) { frames := 0, cells := 0, slots := 0, locals := 0 } [.ref b0, .int 1, .int 0] (wM cI b0 b1 b2 b3 b4 b5 b6 X) (fX3_sideTold_10 X) (wM cI b0 b1 b2 b3 b4 b5 b6 X) := by
  refine fun sz => k_of (lv := [(0, .ref b0), (1, .int 1), (2, .int 0)]) (by decide) sz (by exact Nat.le_of_ble_eq_true rfl) rfl ?_
  intro p e s m args below meth c hsz C
  refine k_iload_n C dX3_sideTold_0 2 rfl ?_
  refine k_if_ne C 13 (by decide) dX3_sideTold_1 (fun h => absurd (by decide) h) (fun _ => ?_)
  refine k_aload_n C dX3_sideTold_4 0 rfl ?_
  refine k_getX3 C 0 6 rfl (by decide) rfl q576 rfl dX3_sideTold_5 ?_
  refine k_iload_n C dX3_sideTold_8 1 rfl ?_
  refine k_iald C 2 rfl vi2_1 (ar2_l1 _) dX3_sideTold_9 ?_
  refine k_goto C 47 (by decide) dX3_sideTold_10 ?_
  have hL : fX3_sideTold_10 X = X.2.1.2 := by exact rfl
  exact k_iret C rfl (hL.symm) rfl dX3_sideTold_47

noncomputable def fX3_sideTold_11 (X : Mo) : Int32 :=
  X.2.2.1.2
set_option maxHeartbeats 4000000 in
set_option maxRecDepth 100000 in
theorem mX3_sideTold_11 (l : Launch) (D : va_G) (cI cJ : ClassId) (b0 b1 b2 b3 b4 b5 b6 : Nat) (X : Mo)  : kCi l D cI cJ yX3_sideTold (.code yX3_sideTold cX3_sideTold 3 (some .int)) { frames := 0, cells := 0, slots := 0, locals := 0 } [.ref b0, .int 1, .int 1] (wM cI b0 b1 b2 b3 b4 b5 b6 X) (fX3_sideTold_11 X) (wM cI b0 b1 b2 b3 b4 b5 b6 X) := by
  refine fun sz => k_of (lv := [(0, .ref b0), (1, .int 1), (2, .int 1)]) (by decide) sz (by exact Nat.le_of_ble_eq_true rfl) rfl ?_
  intro p e s m args below meth c hsz C
  refine k_iload_n C dX3_sideTold_0 2 rfl ?_
  refine k_if_ne C 13 (by decide) dX3_sideTold_1 (fun _ => ?_) (fun h => absurd h (by decide))
  refine k_iload_n C dX3_sideTold_13 2 rfl ?_
  refine k_iconst C 1 (by decide) dX3_sideTold_14 ?_
  refine k_icmp_ne C 27 (by decide) dX3_sideTold_15 (fun h => absurd (by decide) h) (fun _ => ?_)
  refine k_aload_n C dX3_sideTold_18 0 rfl ?_
  refine k_getX3 C 0 7 rfl (by decide) rfl q577 rfl dX3_sideTold_19 ?_
  refine k_iload_n C dX3_sideTold_22 1 rfl ?_
  refine k_iald C 3 rfl vi2_1 (ar2_l1 _) dX3_sideTold_23 ?_
  refine k_goto C 47 (by decide) dX3_sideTold_24 ?_
  have hL : fX3_sideTold_11 X = X.2.2.1.2 := by exact rfl
  exact k_iret C rfl (hL.symm) rfl dX3_sideTold_47

noncomputable def fX3_sideTold_12 (X : Mo) : Int32 :=
  X.2.2.2.1.2
set_option maxHeartbeats 4000000 in
set_option maxRecDepth 100000 in
theorem mX3_sideTold_12 (l : Launch) (D : va_G) (cI cJ : ClassId) (b0 b1 b2 b3 b4 b5 b6 : Nat) (X : Mo)  : kCi l D cI cJ yX3_sideTold (.code yX3_sideTold cX3_sideTold 3 (some .int)) { frames := 0, cells := 0, slots := 0, locals := 0 } [.ref b0, .int 1, .int 2] (wM cI b0 b1 b2 b3 b4 b5 b6 X) (fX3_sideTold_12 X) (wM cI b0 b1 b2 b3 b4 b5 b6 X) := by
  refine fun sz => k_of (lv := [(0, .ref b0), (1, .int 1), (2, .int 2)]) (by decide) sz (by exact Nat.le_of_ble_eq_true rfl) rfl ?_
  intro p e s m args below meth c hsz C
  refine k_iload_n C dX3_sideTold_0 2 rfl ?_
  refine k_if_ne C 13 (by decide) dX3_sideTold_1 (fun _ => ?_) (fun h => absurd h (by decide))
  refine k_iload_n C dX3_sideTold_13 2 rfl ?_
  refine k_iconst C 1 (by decide) dX3_sideTold_14 ?_
  refine k_icmp_ne C 27 (by decide) dX3_sideTold_15 (fun _ => ?_) (fun h => absurd h (by decide))
  refine k_iload_n C dX3_sideTold_27 2 rfl ?_
  refine k_iconst C 2 (by decide) dX3_sideTold_28 ?_
  refine k_icmp_ne C 41 (by decide) dX3_sideTold_29 (fun h => absurd (by decide) h) (fun _ => ?_)
  refine k_aload_n C dX3_sideTold_32 0 rfl ?_
  refine k_getX3 C 0 8 rfl (by decide) rfl q578 rfl dX3_sideTold_33 ?_
  refine k_iload_n C dX3_sideTold_36 1 rfl ?_
  refine k_iald C 4 rfl vi2_1 (ar2_l1 _) dX3_sideTold_37 ?_
  refine k_goto C 47 (by decide) dX3_sideTold_38 ?_
  have hL : fX3_sideTold_12 X = X.2.2.2.1.2 := by exact rfl
  exact k_iret C rfl (hL.symm) rfl dX3_sideTold_47

noncomputable def fX3_sideTold_13 (X : Mo) : Int32 :=
  X.2.2.2.2.1.2
set_option maxHeartbeats 4000000 in
set_option maxRecDepth 100000 in
theorem mX3_sideTold_13 (l : Launch) (D : va_G) (cI cJ : ClassId) (b0 b1 b2 b3 b4 b5 b6 : Nat) (X : Mo)  : kCi l D cI cJ yX3_sideTold (.code yX3_sideTold cX3_sideTold 3 (some .int)) { frames := 0, cells := 0, slots := 0, locals := 0 } [.ref b0, .int 1, .int 3] (wM cI b0 b1 b2 b3 b4 b5 b6 X) (fX3_sideTold_13 X) (wM cI b0 b1 b2 b3 b4 b5 b6 X) := by
  refine fun sz => k_of (lv := [(0, .ref b0), (1, .int 1), (2, .int 3)]) (by decide) sz (by exact Nat.le_of_ble_eq_true rfl) rfl ?_
  intro p e s m args below meth c hsz C
  refine k_iload_n C dX3_sideTold_0 2 rfl ?_
  refine k_if_ne C 13 (by decide) dX3_sideTold_1 (fun _ => ?_) (fun h => absurd h (by decide))
  refine k_iload_n C dX3_sideTold_13 2 rfl ?_
  refine k_iconst C 1 (by decide) dX3_sideTold_14 ?_
  refine k_icmp_ne C 27 (by decide) dX3_sideTold_15 (fun _ => ?_) (fun h => absurd h (by decide))
  refine k_iload_n C dX3_sideTold_27 2 rfl ?_
  refine k_iconst C 2 (by decide) dX3_sideTold_28 ?_
  refine k_icmp_ne C 41 (by decide) dX3_sideTold_29 (fun _ => ?_) (fun h => absurd h (by decide))
  refine k_aload_n C dX3_sideTold_41 0 rfl ?_
  refine k_getX3 C 0 9 rfl (by decide) rfl q579 rfl dX3_sideTold_42 ?_
  refine k_iload_n C dX3_sideTold_45 1 rfl ?_
  refine k_iald C 5 rfl vi2_1 (ar2_l1 _) dX3_sideTold_46 ?_
  have hL : fX3_sideTold_13 X = X.2.2.2.2.1.2 := by exact rfl
  exact k_iret C rfl (hL.symm) rfl dX3_sideTold_47

set_option maxHeartbeats 4000000 in
set_option maxRecDepth 100000 in
theorem mX3_isIn_k0_0_1 (l : Launch) (D : va_G) (cI cJ : ClassId)   : kCi l D cI cJ yX3_isIn (.code yX3_isIn cX3_isIn 3 (some .boolean)) { frames := 0, cells := 0, slots := 0, locals := 0 } [.int 0, .int 0, .int 1] [] (1) [] := by
  refine fun sz => k_of (lv := [(0, .int 0), (1, .int 0), (2, .int 1)]) (by decide) sz (by exact Nat.le_of_ble_eq_true rfl) rfl ?_
  intro p e s m args below meth c hsz C
  refine k_iload_n C dX3_isIn_0 0 rfl ?_
  refine k_iload_n C dX3_isIn_1 1 rfl ?_
  refine k_icmp_lt C 14 (by decide) dX3_isIn_2 (fun h => absurd h (by decide)) (fun _ => ?_)
  refine k_iload_n C dX3_isIn_5 0 rfl ?_
  refine k_iload_n C dX3_isIn_6 2 rfl ?_
  refine k_icmp_gt C 14 (by decide) dX3_isIn_7 (fun h => absurd h (by decide)) (fun _ => ?_)
  refine k_iconst C 1 (by decide) dX3_isIn_10 ?_
  refine k_goto C 15 (by decide) dX3_isIn_11 ?_
  exact k_zret C rfl rfl rfl rfl dX3_isIn_15

set_option maxHeartbeats 4000000 in
set_option maxRecDepth 100000 in
theorem mX3_isIn_k0_0_3 (l : Launch) (D : va_G) (cI cJ : ClassId)   : kCi l D cI cJ yX3_isIn (.code yX3_isIn cX3_isIn 3 (some .boolean)) { frames := 0, cells := 0, slots := 0, locals := 0 } [.int 0, .int 0, .int 3] [] (1) [] := by
  refine fun sz => k_of (lv := [(0, .int 0), (1, .int 0), (2, .int 3)]) (by decide) sz (by exact Nat.le_of_ble_eq_true rfl) rfl ?_
  intro p e s m args below meth c hsz C
  refine k_iload_n C dX3_isIn_0 0 rfl ?_
  refine k_iload_n C dX3_isIn_1 1 rfl ?_
  refine k_icmp_lt C 14 (by decide) dX3_isIn_2 (fun h => absurd h (by decide)) (fun _ => ?_)
  refine k_iload_n C dX3_isIn_5 0 rfl ?_
  refine k_iload_n C dX3_isIn_6 2 rfl ?_
  refine k_icmp_gt C 14 (by decide) dX3_isIn_7 (fun h => absurd h (by decide)) (fun _ => ?_)
  refine k_iconst C 1 (by decide) dX3_isIn_10 ?_
  refine k_goto C 15 (by decide) dX3_isIn_11 ?_
  exact k_zret C rfl rfl rfl rfl dX3_isIn_15

theorem hdX3_told : yX3_told.cls ≠ "java/lang/invoke/MethodHandle" ∧ yX3_told.cls ≠ "java/lang/invoke/VarHandle" ∧ (parseMethodDescriptor yX3_told.desc).map (fun d => d.parameters.length) = some 2 := by decide +kernel
noncomputable def fX3_told_00 (X : Mo) : Int32 × Mo :=
  ((fX3_sideTold_00 (X.1, X.2.1, X.2.2.1, X.2.2.2.1, X.2.2.2.2.1, X.2.2.2.2.2.1, 0, X.2.2.2.2.2.2.2)), (X.1, X.2.1, X.2.2.1, X.2.2.2.1, X.2.2.2.2.1, X.2.2.2.2.2.1, 0, X.2.2.2.2.2.2.2))
set_option maxHeartbeats 4000000 in
set_option maxRecDepth 100000 in
theorem mX3_told_00 (l : Launch) (D : va_G) (cI cJ : ClassId) (b0 b1 b2 b3 b4 b5 b6 : Nat) (X : Mo)  : kCi l D cI cJ yX3_told (.code yX3_told cX3_told 3 (some .int)) { frames := 1, cells := 0, slots := 0, locals := 22 } [.ref b0, .int 0, .int 0] (wM cI b0 b1 b2 b3 b4 b5 b6 X) (fX3_told_00 X).1 (wM cI b0 b1 b2 b3 b4 b5 b6 (fX3_told_00 X).2) := by
  refine fun sz => k_of (lv := [(0, .ref b0), (1, .int 0), (2, .int 0)]) (by decide) sz (by exact Nat.le_of_ble_eq_true rfl) rfl ?_
  intro p e s m args below meth c hsz C
  refine k_aload_n C dX3_told_0 0 rfl ?_
  refine k_iconst C 0 (by decide) dX3_told_1 ?_
  refine k_putX3 C [(b0, cM b1 b2 b3 b4 b5 b6 (0, X.2.2.2.2.2.2.2)), (b1, cA9 cI X.1), (b2, cA2 cI X.2.1), (b3, cA2 cI X.2.2.1), (b4, cA2 cI X.2.2.2.1), (b5, cA2 cI X.2.2.2.2.1), (b6, cA9 cI X.2.2.2.2.2.1)] 0 0 rfl rfl (by decide) q570 rfl rfl fdI rfl rfl (Nat.le_of_ble_eq_true rfl) dX3_told_2 ?_
  refine k_iload_n C dX3_told_5 1 rfl ?_
  refine k_iconst C 0 (by decide) dX3_told_6 ?_
  refine k_iconst C 1 (by decide) dX3_told_7 ?_
  refine k_callS_i C (mX3_isIn_k0_0_1 l D cI cJ) (va_cwS 3 C.2.2.2.2.1 (kGS q637 q638 q61 q639) rfl rfl rfl hdX3_isIn ⟨Nat.le_of_ble_eq_true rfl, Nat.le_of_ble_eq_true rfl⟩) [] [0, 1, 2, 3, 4, 5, 6] [0, 1, 2, 3, 4, 5, 6] [(b0, cM b1 b2 b3 b4 b5 b6 (0, X.2.2.2.2.2.2.2)), (b1, cA9 cI X.1), (b2, cA2 cI X.2.1), (b3, cA2 cI X.2.2.1), (b4, cA2 cI X.2.2.2.1), (b5, cA2 cI X.2.2.2.2.1), (b6, cA9 cI X.2.2.2.2.2.1)] ([(b0, cM b1 b2 b3 b4 b5 b6 (0, X.2.2.2.2.2.2.2)), (b1, cA9 cI X.1), (b2, cA2 cI X.2.1), (b3, cA2 cI X.2.2.1), (b4, cA2 cI X.2.2.2.1), (b5, cA2 cI X.2.2.2.2.1), (b6, cA9 cI X.2.2.2.2.2.1)]) rfl rfl rfl rfl (by decide) [] rfl rfl rfl rfl (Nat.le_of_ble_eq_true rfl) ⟨Nat.zero_le _, Nat.zero_le _⟩ rfl dX3_told_8 ?_
  refine k_if_eq C 32 (by decide) dX3_told_11 (fun h => absurd h (by decide)) (fun _ => ?_)
  refine k_iload_n C dX3_told_14 2 rfl ?_
  refine k_iconst C 0 (by decide) dX3_told_15 ?_
  refine k_iconst C 3 (by decide) dX3_told_16 ?_
  refine k_callS_i C (mX3_isIn_k0_0_3 l D cI cJ) (va_cwS 3 C.2.2.2.2.1 (kGS q637 q638 q61 q639) rfl rfl rfl hdX3_isIn ⟨Nat.le_of_ble_eq_true rfl, Nat.le_of_ble_eq_true rfl⟩) [] [0, 1, 2, 3, 4, 5, 6] [0, 1, 2, 3, 4, 5, 6] [(b0, cM b1 b2 b3 b4 b5 b6 (0, X.2.2.2.2.2.2.2)), (b1, cA9 cI X.1), (b2, cA2 cI X.2.1), (b3, cA2 cI X.2.2.1), (b4, cA2 cI X.2.2.2.1), (b5, cA2 cI X.2.2.2.2.1), (b6, cA9 cI X.2.2.2.2.2.1)] ([(b0, cM b1 b2 b3 b4 b5 b6 (0, X.2.2.2.2.2.2.2)), (b1, cA9 cI X.1), (b2, cA2 cI X.2.1), (b3, cA2 cI X.2.2.1), (b4, cA2 cI X.2.2.2.1), (b5, cA2 cI X.2.2.2.2.1), (b6, cA9 cI X.2.2.2.2.2.1)]) rfl rfl rfl rfl (by decide) [] rfl rfl rfl rfl (Nat.le_of_ble_eq_true rfl) ⟨Nat.zero_le _, Nat.zero_le _⟩ rfl dX3_told_17 ?_
  refine k_if_eq C 32 (by decide) dX3_told_20 (fun h => absurd h (by decide)) (fun _ => ?_)
  refine k_aload_n C dX3_told_23 0 rfl ?_
  refine k_iload_n C dX3_told_24 1 rfl ?_
  refine k_iload_n C dX3_told_25 2 rfl ?_
  refine k_callV_i C (mX3_sideTold_00 l D cI cJ b0 b1 b2 b3 b4 b5 b6 (X.1, X.2.1, X.2.2.1, X.2.2.2.1, X.2.2.2.2.1, X.2.2.2.2.2.1, 0, X.2.2.2.2.2.2.2)) (cwV 2 C.2.2.2.2.1 (kGV q751 q753 q51 q61 q754) rfl rfl rfl ⟨rfl, hdX3_sideTold⟩ ⟨Nat.le_of_ble_eq_true rfl, Nat.le_of_ble_eq_true rfl⟩) [0, 1, 2, 3, 4, 5, 6] [] [0, 1, 2, 3, 4, 5, 6] [] ([(b0, cM b1 b2 b3 b4 b5 b6 (0, X.2.2.2.2.2.2.2)), (b1, cA9 cI X.1), (b2, cA2 cI X.2.1), (b3, cA2 cI X.2.2.1), (b4, cA2 cI X.2.2.2.1), (b5, cA2 cI X.2.2.2.2.1), (b6, cA9 cI X.2.2.2.2.2.1)]) rfl rfl rfl rfl (by decide) [b0, b1, b2, b3, b4, b5, b6] rfl rfl rfl rfl 0 3 rfl rfl rfl (Nat.le_of_ble_eq_true rfl) ⟨Nat.zero_le _, Nat.zero_le _⟩ rfl dX3_told_26 ?_
  generalize er1 : fX3_sideTold_00 (X.1, X.2.1, X.2.2.1, X.2.2.2.1, X.2.2.2.2.1, X.2.2.2.2.2.1, 0, X.2.2.2.2.2.2.2) = r1
  refine k_goto C 37 (by decide) dX3_told_29 ?_
  have hL : fX3_told_00 X = (r1, (X.1, X.2.1, X.2.2.1, X.2.2.2.1, X.2.2.2.2.1, X.2.2.2.2.2.1, 0, X.2.2.2.2.2.2.2)) := by subst er1; exact rfl
  exact k_iret C rfl (by rw [hL]) (by rw [hL]) dX3_told_37

set_option maxHeartbeats 4000000 in
set_option maxRecDepth 100000 in
theorem mX3_isIn_k1_0_3 (l : Launch) (D : va_G) (cI cJ : ClassId)   : kCi l D cI cJ yX3_isIn (.code yX3_isIn cX3_isIn 3 (some .boolean)) { frames := 0, cells := 0, slots := 0, locals := 0 } [.int 1, .int 0, .int 3] [] (1) [] := by
  refine fun sz => k_of (lv := [(0, .int 1), (1, .int 0), (2, .int 3)]) (by decide) sz (by exact Nat.le_of_ble_eq_true rfl) rfl ?_
  intro p e s m args below meth c hsz C
  refine k_iload_n C dX3_isIn_0 0 rfl ?_
  refine k_iload_n C dX3_isIn_1 1 rfl ?_
  refine k_icmp_lt C 14 (by decide) dX3_isIn_2 (fun h => absurd h (by decide)) (fun _ => ?_)
  refine k_iload_n C dX3_isIn_5 0 rfl ?_
  refine k_iload_n C dX3_isIn_6 2 rfl ?_
  refine k_icmp_gt C 14 (by decide) dX3_isIn_7 (fun h => absurd h (by decide)) (fun _ => ?_)
  refine k_iconst C 1 (by decide) dX3_isIn_10 ?_
  refine k_goto C 15 (by decide) dX3_isIn_11 ?_
  exact k_zret C rfl rfl rfl rfl dX3_isIn_15

noncomputable def fX3_told_01 (X : Mo) : Int32 × Mo :=
  ((fX3_sideTold_01 (X.1, X.2.1, X.2.2.1, X.2.2.2.1, X.2.2.2.2.1, X.2.2.2.2.2.1, 0, X.2.2.2.2.2.2.2)), (X.1, X.2.1, X.2.2.1, X.2.2.2.1, X.2.2.2.2.1, X.2.2.2.2.2.1, 0, X.2.2.2.2.2.2.2))
set_option maxHeartbeats 4000000 in
set_option maxRecDepth 100000 in
theorem mX3_told_01 (l : Launch) (D : va_G) (cI cJ : ClassId) (b0 b1 b2 b3 b4 b5 b6 : Nat) (X : Mo)  : kCi l D cI cJ yX3_told (.code yX3_told cX3_told 3 (some .int)) { frames := 1, cells := 0, slots := 0, locals := 22 } [.ref b0, .int 0, .int 1] (wM cI b0 b1 b2 b3 b4 b5 b6 X) (fX3_told_01 X).1 (wM cI b0 b1 b2 b3 b4 b5 b6 (fX3_told_01 X).2) := by
  refine fun sz => k_of (lv := [(0, .ref b0), (1, .int 0), (2, .int 1)]) (by decide) sz (by exact Nat.le_of_ble_eq_true rfl) rfl ?_
  intro p e s m args below meth c hsz C
  refine k_aload_n C dX3_told_0 0 rfl ?_
  refine k_iconst C 0 (by decide) dX3_told_1 ?_
  refine k_putX3 C [(b0, cM b1 b2 b3 b4 b5 b6 (0, X.2.2.2.2.2.2.2)), (b1, cA9 cI X.1), (b2, cA2 cI X.2.1), (b3, cA2 cI X.2.2.1), (b4, cA2 cI X.2.2.2.1), (b5, cA2 cI X.2.2.2.2.1), (b6, cA9 cI X.2.2.2.2.2.1)] 0 0 rfl rfl (by decide) q570 rfl rfl fdI rfl rfl (Nat.le_of_ble_eq_true rfl) dX3_told_2 ?_
  refine k_iload_n C dX3_told_5 1 rfl ?_
  refine k_iconst C 0 (by decide) dX3_told_6 ?_
  refine k_iconst C 1 (by decide) dX3_told_7 ?_
  refine k_callS_i C (mX3_isIn_k0_0_1 l D cI cJ) (va_cwS 3 C.2.2.2.2.1 (kGS q637 q638 q61 q639) rfl rfl rfl hdX3_isIn ⟨Nat.le_of_ble_eq_true rfl, Nat.le_of_ble_eq_true rfl⟩) [] [0, 1, 2, 3, 4, 5, 6] [0, 1, 2, 3, 4, 5, 6] [(b0, cM b1 b2 b3 b4 b5 b6 (0, X.2.2.2.2.2.2.2)), (b1, cA9 cI X.1), (b2, cA2 cI X.2.1), (b3, cA2 cI X.2.2.1), (b4, cA2 cI X.2.2.2.1), (b5, cA2 cI X.2.2.2.2.1), (b6, cA9 cI X.2.2.2.2.2.1)] ([(b0, cM b1 b2 b3 b4 b5 b6 (0, X.2.2.2.2.2.2.2)), (b1, cA9 cI X.1), (b2, cA2 cI X.2.1), (b3, cA2 cI X.2.2.1), (b4, cA2 cI X.2.2.2.1), (b5, cA2 cI X.2.2.2.2.1), (b6, cA9 cI X.2.2.2.2.2.1)]) rfl rfl rfl rfl (by decide) [] rfl rfl rfl rfl (Nat.le_of_ble_eq_true rfl) ⟨Nat.zero_le _, Nat.zero_le _⟩ rfl dX3_told_8 ?_
  refine k_if_eq C 32 (by decide) dX3_told_11 (fun h => absurd h (by decide)) (fun _ => ?_)
  refine k_iload_n C dX3_told_14 2 rfl ?_
  refine k_iconst C 0 (by decide) dX3_told_15 ?_
  refine k_iconst C 3 (by decide) dX3_told_16 ?_
  refine k_callS_i C (mX3_isIn_k1_0_3 l D cI cJ) (va_cwS 3 C.2.2.2.2.1 (kGS q637 q638 q61 q639) rfl rfl rfl hdX3_isIn ⟨Nat.le_of_ble_eq_true rfl, Nat.le_of_ble_eq_true rfl⟩) [] [0, 1, 2, 3, 4, 5, 6] [0, 1, 2, 3, 4, 5, 6] [(b0, cM b1 b2 b3 b4 b5 b6 (0, X.2.2.2.2.2.2.2)), (b1, cA9 cI X.1), (b2, cA2 cI X.2.1), (b3, cA2 cI X.2.2.1), (b4, cA2 cI X.2.2.2.1), (b5, cA2 cI X.2.2.2.2.1), (b6, cA9 cI X.2.2.2.2.2.1)] ([(b0, cM b1 b2 b3 b4 b5 b6 (0, X.2.2.2.2.2.2.2)), (b1, cA9 cI X.1), (b2, cA2 cI X.2.1), (b3, cA2 cI X.2.2.1), (b4, cA2 cI X.2.2.2.1), (b5, cA2 cI X.2.2.2.2.1), (b6, cA9 cI X.2.2.2.2.2.1)]) rfl rfl rfl rfl (by decide) [] rfl rfl rfl rfl (Nat.le_of_ble_eq_true rfl) ⟨Nat.zero_le _, Nat.zero_le _⟩ rfl dX3_told_17 ?_
  refine k_if_eq C 32 (by decide) dX3_told_20 (fun h => absurd h (by decide)) (fun _ => ?_)
  refine k_aload_n C dX3_told_23 0 rfl ?_
  refine k_iload_n C dX3_told_24 1 rfl ?_
  refine k_iload_n C dX3_told_25 2 rfl ?_
  refine k_callV_i C (mX3_sideTold_01 l D cI cJ b0 b1 b2 b3 b4 b5 b6 (X.1, X.2.1, X.2.2.1, X.2.2.2.1, X.2.2.2.2.1, X.2.2.2.2.2.1, 0, X.2.2.2.2.2.2.2)) (cwV 2 C.2.2.2.2.1 (kGV q751 q753 q51 q61 q754) rfl rfl rfl ⟨rfl, hdX3_sideTold⟩ ⟨Nat.le_of_ble_eq_true rfl, Nat.le_of_ble_eq_true rfl⟩) [0, 1, 2, 3, 4, 5, 6] [] [0, 1, 2, 3, 4, 5, 6] [] ([(b0, cM b1 b2 b3 b4 b5 b6 (0, X.2.2.2.2.2.2.2)), (b1, cA9 cI X.1), (b2, cA2 cI X.2.1), (b3, cA2 cI X.2.2.1), (b4, cA2 cI X.2.2.2.1), (b5, cA2 cI X.2.2.2.2.1), (b6, cA9 cI X.2.2.2.2.2.1)]) rfl rfl rfl rfl (by decide) [b0, b1, b2, b3, b4, b5, b6] rfl rfl rfl rfl 0 3 rfl rfl rfl (Nat.le_of_ble_eq_true rfl) ⟨Nat.zero_le _, Nat.zero_le _⟩ rfl dX3_told_26 ?_
  generalize er1 : fX3_sideTold_01 (X.1, X.2.1, X.2.2.1, X.2.2.2.1, X.2.2.2.2.1, X.2.2.2.2.2.1, 0, X.2.2.2.2.2.2.2) = r1
  refine k_goto C 37 (by decide) dX3_told_29 ?_
  have hL : fX3_told_01 X = (r1, (X.1, X.2.1, X.2.2.1, X.2.2.2.1, X.2.2.2.2.1, X.2.2.2.2.2.1, 0, X.2.2.2.2.2.2.2)) := by subst er1; exact rfl
  exact k_iret C rfl (by rw [hL]) (by rw [hL]) dX3_told_37

set_option maxHeartbeats 4000000 in
set_option maxRecDepth 100000 in
theorem mX3_isIn_k2_0_3 (l : Launch) (D : va_G) (cI cJ : ClassId)   : kCi l D cI cJ yX3_isIn (.code yX3_isIn cX3_isIn 3 (some .boolean)) { frames := 0, cells := 0, slots := 0, locals := 0 } [.int 2, .int 0, .int 3] [] (1) [] := by
  refine fun sz => k_of (lv := [(0, .int 2), (1, .int 0), (2, .int 3)]) (by decide) sz (by exact Nat.le_of_ble_eq_true rfl) rfl ?_
  intro p e s m args below meth c hsz C
  refine k_iload_n C dX3_isIn_0 0 rfl ?_
  refine k_iload_n C dX3_isIn_1 1 rfl ?_
  refine k_icmp_lt C 14 (by decide) dX3_isIn_2 (fun h => absurd h (by decide)) (fun _ => ?_)
  refine k_iload_n C dX3_isIn_5 0 rfl ?_
  refine k_iload_n C dX3_isIn_6 2 rfl ?_
  refine k_icmp_gt C 14 (by decide) dX3_isIn_7 (fun h => absurd h (by decide)) (fun _ => ?_)
  refine k_iconst C 1 (by decide) dX3_isIn_10 ?_
  refine k_goto C 15 (by decide) dX3_isIn_11 ?_
  exact k_zret C rfl rfl rfl rfl dX3_isIn_15

noncomputable def fX3_told_02 (X : Mo) : Int32 × Mo :=
  ((fX3_sideTold_02 (X.1, X.2.1, X.2.2.1, X.2.2.2.1, X.2.2.2.2.1, X.2.2.2.2.2.1, 0, X.2.2.2.2.2.2.2)), (X.1, X.2.1, X.2.2.1, X.2.2.2.1, X.2.2.2.2.1, X.2.2.2.2.2.1, 0, X.2.2.2.2.2.2.2))
set_option maxHeartbeats 4000000 in
set_option maxRecDepth 100000 in
theorem mX3_told_02 (l : Launch) (D : va_G) (cI cJ : ClassId) (b0 b1 b2 b3 b4 b5 b6 : Nat) (X : Mo)  : kCi l D cI cJ yX3_told (.code yX3_told cX3_told 3 (some .int)) { frames := 1, cells := 0, slots := 0, locals := 22 } [.ref b0, .int 0, .int 2] (wM cI b0 b1 b2 b3 b4 b5 b6 X) (fX3_told_02 X).1 (wM cI b0 b1 b2 b3 b4 b5 b6 (fX3_told_02 X).2) := by
  refine fun sz => k_of (lv := [(0, .ref b0), (1, .int 0), (2, .int 2)]) (by decide) sz (by exact Nat.le_of_ble_eq_true rfl) rfl ?_
  intro p e s m args below meth c hsz C
  refine k_aload_n C dX3_told_0 0 rfl ?_
  refine k_iconst C 0 (by decide) dX3_told_1 ?_
  refine k_putX3 C [(b0, cM b1 b2 b3 b4 b5 b6 (0, X.2.2.2.2.2.2.2)), (b1, cA9 cI X.1), (b2, cA2 cI X.2.1), (b3, cA2 cI X.2.2.1), (b4, cA2 cI X.2.2.2.1), (b5, cA2 cI X.2.2.2.2.1), (b6, cA9 cI X.2.2.2.2.2.1)] 0 0 rfl rfl (by decide) q570 rfl rfl fdI rfl rfl (Nat.le_of_ble_eq_true rfl) dX3_told_2 ?_
  refine k_iload_n C dX3_told_5 1 rfl ?_
  refine k_iconst C 0 (by decide) dX3_told_6 ?_
  refine k_iconst C 1 (by decide) dX3_told_7 ?_
  refine k_callS_i C (mX3_isIn_k0_0_1 l D cI cJ) (va_cwS 3 C.2.2.2.2.1 (kGS q637 q638 q61 q639) rfl rfl rfl hdX3_isIn ⟨Nat.le_of_ble_eq_true rfl, Nat.le_of_ble_eq_true rfl⟩) [] [0, 1, 2, 3, 4, 5, 6] [0, 1, 2, 3, 4, 5, 6] [(b0, cM b1 b2 b3 b4 b5 b6 (0, X.2.2.2.2.2.2.2)), (b1, cA9 cI X.1), (b2, cA2 cI X.2.1), (b3, cA2 cI X.2.2.1), (b4, cA2 cI X.2.2.2.1), (b5, cA2 cI X.2.2.2.2.1), (b6, cA9 cI X.2.2.2.2.2.1)] ([(b0, cM b1 b2 b3 b4 b5 b6 (0, X.2.2.2.2.2.2.2)), (b1, cA9 cI X.1), (b2, cA2 cI X.2.1), (b3, cA2 cI X.2.2.1), (b4, cA2 cI X.2.2.2.1), (b5, cA2 cI X.2.2.2.2.1), (b6, cA9 cI X.2.2.2.2.2.1)]) rfl rfl rfl rfl (by decide) [] rfl rfl rfl rfl (Nat.le_of_ble_eq_true rfl) ⟨Nat.zero_le _, Nat.zero_le _⟩ rfl dX3_told_8 ?_
  refine k_if_eq C 32 (by decide) dX3_told_11 (fun h => absurd h (by decide)) (fun _ => ?_)
  refine k_iload_n C dX3_told_14 2 rfl ?_
  refine k_iconst C 0 (by decide) dX3_told_15 ?_
  refine k_iconst C 3 (by decide) dX3_told_16 ?_
  refine k_callS_i C (mX3_isIn_k2_0_3 l D cI cJ) (va_cwS 3 C.2.2.2.2.1 (kGS q637 q638 q61 q639) rfl rfl rfl hdX3_isIn ⟨Nat.le_of_ble_eq_true rfl, Nat.le_of_ble_eq_true rfl⟩) [] [0, 1, 2, 3, 4, 5, 6] [0, 1, 2, 3, 4, 5, 6] [(b0, cM b1 b2 b3 b4 b5 b6 (0, X.2.2.2.2.2.2.2)), (b1, cA9 cI X.1), (b2, cA2 cI X.2.1), (b3, cA2 cI X.2.2.1), (b4, cA2 cI X.2.2.2.1), (b5, cA2 cI X.2.2.2.2.1), (b6, cA9 cI X.2.2.2.2.2.1)] ([(b0, cM b1 b2 b3 b4 b5 b6 (0, X.2.2.2.2.2.2.2)), (b1, cA9 cI X.1), (b2, cA2 cI X.2.1), (b3, cA2 cI X.2.2.1), (b4, cA2 cI X.2.2.2.1), (b5, cA2 cI X.2.2.2.2.1), (b6, cA9 cI X.2.2.2.2.2.1)]) rfl rfl rfl rfl (by decide) [] rfl rfl rfl rfl (Nat.le_of_ble_eq_true rfl) ⟨Nat.zero_le _, Nat.zero_le _⟩ rfl dX3_told_17 ?_
  refine k_if_eq C 32 (by decide) dX3_told_20 (fun h => absurd h (by decide)) (fun _ => ?_)
  refine k_aload_n C dX3_told_23 0 rfl ?_
  refine k_iload_n C dX3_told_24 1 rfl ?_
  refine k_iload_n C dX3_told_25 2 rfl ?_
  refine k_callV_i C (mX3_sideTold_02 l D cI cJ b0 b1 b2 b3 b4 b5 b6 (X.1, X.2.1, X.2.2.1, X.2.2.2.1, X.2.2.2.2.1, X.2.2.2.2.2.1, 0, X.2.2.2.2.2.2.2)) (cwV 2 C.2.2.2.2.1 (kGV q751 q753 q51 q61 q754) rfl rfl rfl ⟨rfl, hdX3_sideTold⟩ ⟨Nat.le_of_ble_eq_true rfl, Nat.le_of_ble_eq_true rfl⟩) [0, 1, 2, 3, 4, 5, 6] [] [0, 1, 2, 3, 4, 5, 6] [] ([(b0, cM b1 b2 b3 b4 b5 b6 (0, X.2.2.2.2.2.2.2)), (b1, cA9 cI X.1), (b2, cA2 cI X.2.1), (b3, cA2 cI X.2.2.1), (b4, cA2 cI X.2.2.2.1), (b5, cA2 cI X.2.2.2.2.1), (b6, cA9 cI X.2.2.2.2.2.1)]) rfl rfl rfl rfl (by decide) [b0, b1, b2, b3, b4, b5, b6] rfl rfl rfl rfl 0 3 rfl rfl rfl (Nat.le_of_ble_eq_true rfl) ⟨Nat.zero_le _, Nat.zero_le _⟩ rfl dX3_told_26 ?_
  generalize er1 : fX3_sideTold_02 (X.1, X.2.1, X.2.2.1, X.2.2.2.1, X.2.2.2.2.1, X.2.2.2.2.2.1, 0, X.2.2.2.2.2.2.2) = r1
  refine k_goto C 37 (by decide) dX3_told_29 ?_
  have hL : fX3_told_02 X = (r1, (X.1, X.2.1, X.2.2.1, X.2.2.2.1, X.2.2.2.2.1, X.2.2.2.2.2.1, 0, X.2.2.2.2.2.2.2)) := by subst er1; exact rfl
  exact k_iret C rfl (by rw [hL]) (by rw [hL]) dX3_told_37

set_option maxHeartbeats 4000000 in
set_option maxRecDepth 100000 in
theorem mX3_isIn_k3_0_3 (l : Launch) (D : va_G) (cI cJ : ClassId)   : kCi l D cI cJ yX3_isIn (.code yX3_isIn cX3_isIn 3 (some .boolean)) { frames := 0, cells := 0, slots := 0, locals := 0 } [.int 3, .int 0, .int 3] [] (1) [] := by
  refine fun sz => k_of (lv := [(0, .int 3), (1, .int 0), (2, .int 3)]) (by decide) sz (by exact Nat.le_of_ble_eq_true rfl) rfl ?_
  intro p e s m args below meth c hsz C
  refine k_iload_n C dX3_isIn_0 0 rfl ?_
  refine k_iload_n C dX3_isIn_1 1 rfl ?_
  refine k_icmp_lt C 14 (by decide) dX3_isIn_2 (fun h => absurd h (by decide)) (fun _ => ?_)
  refine k_iload_n C dX3_isIn_5 0 rfl ?_
  refine k_iload_n C dX3_isIn_6 2 rfl ?_
  refine k_icmp_gt C 14 (by decide) dX3_isIn_7 (fun h => absurd h (by decide)) (fun _ => ?_)
  refine k_iconst C 1 (by decide) dX3_isIn_10 ?_
  refine k_goto C 15 (by decide) dX3_isIn_11 ?_
  exact k_zret C rfl rfl rfl rfl dX3_isIn_15

noncomputable def fX3_told_03 (X : Mo) : Int32 × Mo :=
  ((fX3_sideTold_03 (X.1, X.2.1, X.2.2.1, X.2.2.2.1, X.2.2.2.2.1, X.2.2.2.2.2.1, 0, X.2.2.2.2.2.2.2)), (X.1, X.2.1, X.2.2.1, X.2.2.2.1, X.2.2.2.2.1, X.2.2.2.2.2.1, 0, X.2.2.2.2.2.2.2))
set_option maxHeartbeats 4000000 in
set_option maxRecDepth 100000 in
theorem mX3_told_03 (l : Launch) (D : va_G) (cI cJ : ClassId) (b0 b1 b2 b3 b4 b5 b6 : Nat) (X : Mo)  : kCi l D cI cJ yX3_told (.code yX3_told cX3_told 3 (some .int)) { frames := 1, cells := 0, slots := 0, locals := 22 } [.ref b0, .int 0, .int 3] (wM cI b0 b1 b2 b3 b4 b5 b6 X) (fX3_told_03 X).1 (wM cI b0 b1 b2 b3 b4 b5 b6 (fX3_told_03 X).2) := by
  refine fun sz => k_of (lv := [(0, .ref b0), (1, .int 0), (2, .int 3)]) (by decide) sz (by exact Nat.le_of_ble_eq_true rfl) rfl ?_
  intro p e s m args below meth c hsz C
  refine k_aload_n C dX3_told_0 0 rfl ?_
  refine k_iconst C 0 (by decide) dX3_told_1 ?_
  refine k_putX3 C [(b0, cM b1 b2 b3 b4 b5 b6 (0, X.2.2.2.2.2.2.2)), (b1, cA9 cI X.1), (b2, cA2 cI X.2.1), (b3, cA2 cI X.2.2.1), (b4, cA2 cI X.2.2.2.1), (b5, cA2 cI X.2.2.2.2.1), (b6, cA9 cI X.2.2.2.2.2.1)] 0 0 rfl rfl (by decide) q570 rfl rfl fdI rfl rfl (Nat.le_of_ble_eq_true rfl) dX3_told_2 ?_
  refine k_iload_n C dX3_told_5 1 rfl ?_
  refine k_iconst C 0 (by decide) dX3_told_6 ?_
  refine k_iconst C 1 (by decide) dX3_told_7 ?_
  refine k_callS_i C (mX3_isIn_k0_0_1 l D cI cJ) (va_cwS 3 C.2.2.2.2.1 (kGS q637 q638 q61 q639) rfl rfl rfl hdX3_isIn ⟨Nat.le_of_ble_eq_true rfl, Nat.le_of_ble_eq_true rfl⟩) [] [0, 1, 2, 3, 4, 5, 6] [0, 1, 2, 3, 4, 5, 6] [(b0, cM b1 b2 b3 b4 b5 b6 (0, X.2.2.2.2.2.2.2)), (b1, cA9 cI X.1), (b2, cA2 cI X.2.1), (b3, cA2 cI X.2.2.1), (b4, cA2 cI X.2.2.2.1), (b5, cA2 cI X.2.2.2.2.1), (b6, cA9 cI X.2.2.2.2.2.1)] ([(b0, cM b1 b2 b3 b4 b5 b6 (0, X.2.2.2.2.2.2.2)), (b1, cA9 cI X.1), (b2, cA2 cI X.2.1), (b3, cA2 cI X.2.2.1), (b4, cA2 cI X.2.2.2.1), (b5, cA2 cI X.2.2.2.2.1), (b6, cA9 cI X.2.2.2.2.2.1)]) rfl rfl rfl rfl (by decide) [] rfl rfl rfl rfl (Nat.le_of_ble_eq_true rfl) ⟨Nat.zero_le _, Nat.zero_le _⟩ rfl dX3_told_8 ?_
  refine k_if_eq C 32 (by decide) dX3_told_11 (fun h => absurd h (by decide)) (fun _ => ?_)
  refine k_iload_n C dX3_told_14 2 rfl ?_
  refine k_iconst C 0 (by decide) dX3_told_15 ?_
  refine k_iconst C 3 (by decide) dX3_told_16 ?_
  refine k_callS_i C (mX3_isIn_k3_0_3 l D cI cJ) (va_cwS 3 C.2.2.2.2.1 (kGS q637 q638 q61 q639) rfl rfl rfl hdX3_isIn ⟨Nat.le_of_ble_eq_true rfl, Nat.le_of_ble_eq_true rfl⟩) [] [0, 1, 2, 3, 4, 5, 6] [0, 1, 2, 3, 4, 5, 6] [(b0, cM b1 b2 b3 b4 b5 b6 (0, X.2.2.2.2.2.2.2)), (b1, cA9 cI X.1), (b2, cA2 cI X.2.1), (b3, cA2 cI X.2.2.1), (b4, cA2 cI X.2.2.2.1), (b5, cA2 cI X.2.2.2.2.1), (b6, cA9 cI X.2.2.2.2.2.1)] ([(b0, cM b1 b2 b3 b4 b5 b6 (0, X.2.2.2.2.2.2.2)), (b1, cA9 cI X.1), (b2, cA2 cI X.2.1), (b3, cA2 cI X.2.2.1), (b4, cA2 cI X.2.2.2.1), (b5, cA2 cI X.2.2.2.2.1), (b6, cA9 cI X.2.2.2.2.2.1)]) rfl rfl rfl rfl (by decide) [] rfl rfl rfl rfl (Nat.le_of_ble_eq_true rfl) ⟨Nat.zero_le _, Nat.zero_le _⟩ rfl dX3_told_17 ?_
  refine k_if_eq C 32 (by decide) dX3_told_20 (fun h => absurd h (by decide)) (fun _ => ?_)
  refine k_aload_n C dX3_told_23 0 rfl ?_
  refine k_iload_n C dX3_told_24 1 rfl ?_
  refine k_iload_n C dX3_told_25 2 rfl ?_
  refine k_callV_i C (mX3_sideTold_03 l D cI cJ b0 b1 b2 b3 b4 b5 b6 (X.1, X.2.1, X.2.2.1, X.2.2.2.1, X.2.2.2.2.1, X.2.2.2.2.2.1, 0, X.2.2.2.2.2.2.2)) (cwV 2 C.2.2.2.2.1 (kGV q751 q753 q51 q61 q754) rfl rfl rfl ⟨rfl, hdX3_sideTold⟩ ⟨Nat.le_of_ble_eq_true rfl, Nat.le_of_ble_eq_true rfl⟩) [0, 1, 2, 3, 4, 5, 6] [] [0, 1, 2, 3, 4, 5, 6] [] ([(b0, cM b1 b2 b3 b4 b5 b6 (0, X.2.2.2.2.2.2.2)), (b1, cA9 cI X.1), (b2, cA2 cI X.2.1), (b3, cA2 cI X.2.2.1), (b4, cA2 cI X.2.2.2.1), (b5, cA2 cI X.2.2.2.2.1), (b6, cA9 cI X.2.2.2.2.2.1)]) rfl rfl rfl rfl (by decide) [b0, b1, b2, b3, b4, b5, b6] rfl rfl rfl rfl 0 3 rfl rfl rfl (Nat.le_of_ble_eq_true rfl) ⟨Nat.zero_le _, Nat.zero_le _⟩ rfl dX3_told_26 ?_
  generalize er1 : fX3_sideTold_03 (X.1, X.2.1, X.2.2.1, X.2.2.2.1, X.2.2.2.2.1, X.2.2.2.2.2.1, 0, X.2.2.2.2.2.2.2) = r1
  refine k_goto C 37 (by decide) dX3_told_29 ?_
  have hL : fX3_told_03 X = (r1, (X.1, X.2.1, X.2.2.1, X.2.2.2.1, X.2.2.2.2.1, X.2.2.2.2.2.1, 0, X.2.2.2.2.2.2.2)) := by subst er1; exact rfl
  exact k_iret C rfl (by rw [hL]) (by rw [hL]) dX3_told_37

set_option maxHeartbeats 4000000 in
set_option maxRecDepth 100000 in
theorem mX3_isIn_k1_0_1 (l : Launch) (D : va_G) (cI cJ : ClassId)   : kCi l D cI cJ yX3_isIn (.code yX3_isIn cX3_isIn 3 (some .boolean)) { frames := 0, cells := 0, slots := 0, locals := 0 } [.int 1, .int 0, .int 1] [] (1) [] := by
  refine fun sz => k_of (lv := [(0, .int 1), (1, .int 0), (2, .int 1)]) (by decide) sz (by exact Nat.le_of_ble_eq_true rfl) rfl ?_
  intro p e s m args below meth c hsz C
  refine k_iload_n C dX3_isIn_0 0 rfl ?_
  refine k_iload_n C dX3_isIn_1 1 rfl ?_
  refine k_icmp_lt C 14 (by decide) dX3_isIn_2 (fun h => absurd h (by decide)) (fun _ => ?_)
  refine k_iload_n C dX3_isIn_5 0 rfl ?_
  refine k_iload_n C dX3_isIn_6 2 rfl ?_
  refine k_icmp_gt C 14 (by decide) dX3_isIn_7 (fun h => absurd h (by decide)) (fun _ => ?_)
  refine k_iconst C 1 (by decide) dX3_isIn_10 ?_
  refine k_goto C 15 (by decide) dX3_isIn_11 ?_
  exact k_zret C rfl rfl rfl rfl dX3_isIn_15

noncomputable def fX3_told_10 (X : Mo) : Int32 × Mo :=
  ((fX3_sideTold_10 (X.1, X.2.1, X.2.2.1, X.2.2.2.1, X.2.2.2.2.1, X.2.2.2.2.2.1, 0, X.2.2.2.2.2.2.2)), (X.1, X.2.1, X.2.2.1, X.2.2.2.1, X.2.2.2.2.1, X.2.2.2.2.2.1, 0, X.2.2.2.2.2.2.2))
set_option maxHeartbeats 4000000 in
set_option maxRecDepth 100000 in
theorem mX3_told_10 (l : Launch) (D : va_G) (cI cJ : ClassId) (b0 b1 b2 b3 b4 b5 b6 : Nat) (X : Mo)  : kCi l D cI cJ yX3_told (.code yX3_told cX3_told 3 (some .int)) { frames := 1, cells := 0, slots := 0, locals := 22 } [.ref b0, .int 1, .int 0] (wM cI b0 b1 b2 b3 b4 b5 b6 X) (fX3_told_10 X).1 (wM cI b0 b1 b2 b3 b4 b5 b6 (fX3_told_10 X).2) := by
  refine fun sz => k_of (lv := [(0, .ref b0), (1, .int 1), (2, .int 0)]) (by decide) sz (by exact Nat.le_of_ble_eq_true rfl) rfl ?_
  intro p e s m args below meth c hsz C
  refine k_aload_n C dX3_told_0 0 rfl ?_
  refine k_iconst C 0 (by decide) dX3_told_1 ?_
  refine k_putX3 C [(b0, cM b1 b2 b3 b4 b5 b6 (0, X.2.2.2.2.2.2.2)), (b1, cA9 cI X.1), (b2, cA2 cI X.2.1), (b3, cA2 cI X.2.2.1), (b4, cA2 cI X.2.2.2.1), (b5, cA2 cI X.2.2.2.2.1), (b6, cA9 cI X.2.2.2.2.2.1)] 0 0 rfl rfl (by decide) q570 rfl rfl fdI rfl rfl (Nat.le_of_ble_eq_true rfl) dX3_told_2 ?_
  refine k_iload_n C dX3_told_5 1 rfl ?_
  refine k_iconst C 0 (by decide) dX3_told_6 ?_
  refine k_iconst C 1 (by decide) dX3_told_7 ?_
  refine k_callS_i C (mX3_isIn_k1_0_1 l D cI cJ) (va_cwS 3 C.2.2.2.2.1 (kGS q637 q638 q61 q639) rfl rfl rfl hdX3_isIn ⟨Nat.le_of_ble_eq_true rfl, Nat.le_of_ble_eq_true rfl⟩) [] [0, 1, 2, 3, 4, 5, 6] [0, 1, 2, 3, 4, 5, 6] [(b0, cM b1 b2 b3 b4 b5 b6 (0, X.2.2.2.2.2.2.2)), (b1, cA9 cI X.1), (b2, cA2 cI X.2.1), (b3, cA2 cI X.2.2.1), (b4, cA2 cI X.2.2.2.1), (b5, cA2 cI X.2.2.2.2.1), (b6, cA9 cI X.2.2.2.2.2.1)] ([(b0, cM b1 b2 b3 b4 b5 b6 (0, X.2.2.2.2.2.2.2)), (b1, cA9 cI X.1), (b2, cA2 cI X.2.1), (b3, cA2 cI X.2.2.1), (b4, cA2 cI X.2.2.2.1), (b5, cA2 cI X.2.2.2.2.1), (b6, cA9 cI X.2.2.2.2.2.1)]) rfl rfl rfl rfl (by decide) [] rfl rfl rfl rfl (Nat.le_of_ble_eq_true rfl) ⟨Nat.zero_le _, Nat.zero_le _⟩ rfl dX3_told_8 ?_
  refine k_if_eq C 32 (by decide) dX3_told_11 (fun h => absurd h (by decide)) (fun _ => ?_)
  refine k_iload_n C dX3_told_14 2 rfl ?_
  refine k_iconst C 0 (by decide) dX3_told_15 ?_
  refine k_iconst C 3 (by decide) dX3_told_16 ?_
  refine k_callS_i C (mX3_isIn_k0_0_3 l D cI cJ) (va_cwS 3 C.2.2.2.2.1 (kGS q637 q638 q61 q639) rfl rfl rfl hdX3_isIn ⟨Nat.le_of_ble_eq_true rfl, Nat.le_of_ble_eq_true rfl⟩) [] [0, 1, 2, 3, 4, 5, 6] [0, 1, 2, 3, 4, 5, 6] [(b0, cM b1 b2 b3 b4 b5 b6 (0, X.2.2.2.2.2.2.2)), (b1, cA9 cI X.1), (b2, cA2 cI X.2.1), (b3, cA2 cI X.2.2.1), (b4, cA2 cI X.2.2.2.1), (b5, cA2 cI X.2.2.2.2.1), (b6, cA9 cI X.2.2.2.2.2.1)] ([(b0, cM b1 b2 b3 b4 b5 b6 (0, X.2.2.2.2.2.2.2)), (b1, cA9 cI X.1), (b2, cA2 cI X.2.1), (b3, cA2 cI X.2.2.1), (b4, cA2 cI X.2.2.2.1), (b5, cA2 cI X.2.2.2.2.1), (b6, cA9 cI X.2.2.2.2.2.1)]) rfl rfl rfl rfl (by decide) [] rfl rfl rfl rfl (Nat.le_of_ble_eq_true rfl) ⟨Nat.zero_le _, Nat.zero_le _⟩ rfl dX3_told_17 ?_
  refine k_if_eq C 32 (by decide) dX3_told_20 (fun h => absurd h (by decide)) (fun _ => ?_)
  refine k_aload_n C dX3_told_23 0 rfl ?_
  refine k_iload_n C dX3_told_24 1 rfl ?_
  refine k_iload_n C dX3_told_25 2 rfl ?_
  refine k_callV_i C (mX3_sideTold_10 l D cI cJ b0 b1 b2 b3 b4 b5 b6 (X.1, X.2.1, X.2.2.1, X.2.2.2.1, X.2.2.2.2.1, X.2.2.2.2.2.1, 0, X.2.2.2.2.2.2.2)) (cwV 2 C.2.2.2.2.1 (kGV q751 q753 q51 q61 q754) rfl rfl rfl ⟨rfl, hdX3_sideTold⟩ ⟨Nat.le_of_ble_eq_true rfl, Nat.le_of_ble_eq_true rfl⟩) [0, 1, 2, 3, 4, 5, 6] [] [0, 1, 2, 3, 4, 5, 6] [] ([(b0, cM b1 b2 b3 b4 b5 b6 (0, X.2.2.2.2.2.2.2)), (b1, cA9 cI X.1), (b2, cA2 cI X.2.1), (b3, cA2 cI X.2.2.1), (b4, cA2 cI X.2.2.2.1), (b5, cA2 cI X.2.2.2.2.1), (b6, cA9 cI X.2.2.2.2.2.1)]) rfl rfl rfl rfl (by decide) [b0, b1, b2, b3, b4, b5, b6] rfl rfl rfl rfl 0 3 rfl rfl rfl (Nat.le_of_ble_eq_true rfl) ⟨Nat.zero_le _, Nat.zero_le _⟩ rfl dX3_told_26 ?_
  generalize er1 : fX3_sideTold_10 (X.1, X.2.1, X.2.2.1, X.2.2.2.1, X.2.2.2.2.1, X.2.2.2.2.2.1, 0, X.2.2.2.2.2.2.2) = r1
  refine k_goto C 37 (by decide) dX3_told_29 ?_
  have hL : fX3_told_10 X = (r1, (X.1, X.2.1, X.2.2.1, X.2.2.2.1, X.2.2.2.2.1, X.2.2.2.2.2.1, 0, X.2.2.2.2.2.2.2)) := by subst er1; exact rfl
  exact k_iret C rfl (by rw [hL]) (by rw [hL]) dX3_told_37

noncomputable def fX3_told_11 (X : Mo) : Int32 × Mo :=
  ((fX3_sideTold_11 (X.1, X.2.1, X.2.2.1, X.2.2.2.1, X.2.2.2.2.1, X.2.2.2.2.2.1, 0, X.2.2.2.2.2.2.2)), (X.1, X.2.1, X.2.2.1, X.2.2.2.1, X.2.2.2.2.1, X.2.2.2.2.2.1, 0, X.2.2.2.2.2.2.2))
set_option maxHeartbeats 4000000 in
set_option maxRecDepth 100000 in
theorem mX3_told_11 (l : Launch) (D : va_G) (cI cJ : ClassId) (b0 b1 b2 b3 b4 b5 b6 : Nat) (X : Mo)  : kCi l D cI cJ yX3_told (.code yX3_told cX3_told 3 (some .int)) { frames := 1, cells := 0, slots := 0, locals := 22 } [.ref b0, .int 1, .int 1] (wM cI b0 b1 b2 b3 b4 b5 b6 X) (fX3_told_11 X).1 (wM cI b0 b1 b2 b3 b4 b5 b6 (fX3_told_11 X).2) := by
  refine fun sz => k_of (lv := [(0, .ref b0), (1, .int 1), (2, .int 1)]) (by decide) sz (by exact Nat.le_of_ble_eq_true rfl) rfl ?_
  intro p e s m args below meth c hsz C
  refine k_aload_n C dX3_told_0 0 rfl ?_
  refine k_iconst C 0 (by decide) dX3_told_1 ?_
  refine k_putX3 C [(b0, cM b1 b2 b3 b4 b5 b6 (0, X.2.2.2.2.2.2.2)), (b1, cA9 cI X.1), (b2, cA2 cI X.2.1), (b3, cA2 cI X.2.2.1), (b4, cA2 cI X.2.2.2.1), (b5, cA2 cI X.2.2.2.2.1), (b6, cA9 cI X.2.2.2.2.2.1)] 0 0 rfl rfl (by decide) q570 rfl rfl fdI rfl rfl (Nat.le_of_ble_eq_true rfl) dX3_told_2 ?_
  refine k_iload_n C dX3_told_5 1 rfl ?_
  refine k_iconst C 0 (by decide) dX3_told_6 ?_
  refine k_iconst C 1 (by decide) dX3_told_7 ?_
  refine k_callS_i C (mX3_isIn_k1_0_1 l D cI cJ) (va_cwS 3 C.2.2.2.2.1 (kGS q637 q638 q61 q639) rfl rfl rfl hdX3_isIn ⟨Nat.le_of_ble_eq_true rfl, Nat.le_of_ble_eq_true rfl⟩) [] [0, 1, 2, 3, 4, 5, 6] [0, 1, 2, 3, 4, 5, 6] [(b0, cM b1 b2 b3 b4 b5 b6 (0, X.2.2.2.2.2.2.2)), (b1, cA9 cI X.1), (b2, cA2 cI X.2.1), (b3, cA2 cI X.2.2.1), (b4, cA2 cI X.2.2.2.1), (b5, cA2 cI X.2.2.2.2.1), (b6, cA9 cI X.2.2.2.2.2.1)] ([(b0, cM b1 b2 b3 b4 b5 b6 (0, X.2.2.2.2.2.2.2)), (b1, cA9 cI X.1), (b2, cA2 cI X.2.1), (b3, cA2 cI X.2.2.1), (b4, cA2 cI X.2.2.2.1), (b5, cA2 cI X.2.2.2.2.1), (b6, cA9 cI X.2.2.2.2.2.1)]) rfl rfl rfl rfl (by decide) [] rfl rfl rfl rfl (Nat.le_of_ble_eq_true rfl) ⟨Nat.zero_le _, Nat.zero_le _⟩ rfl dX3_told_8 ?_
  refine k_if_eq C 32 (by decide) dX3_told_11 (fun h => absurd h (by decide)) (fun _ => ?_)
  refine k_iload_n C dX3_told_14 2 rfl ?_
  refine k_iconst C 0 (by decide) dX3_told_15 ?_
  refine k_iconst C 3 (by decide) dX3_told_16 ?_
  refine k_callS_i C (mX3_isIn_k1_0_3 l D cI cJ) (va_cwS 3 C.2.2.2.2.1 (kGS q637 q638 q61 q639) rfl rfl rfl hdX3_isIn ⟨Nat.le_of_ble_eq_true rfl, Nat.le_of_ble_eq_true rfl⟩) [] [0, 1, 2, 3, 4, 5, 6] [0, 1, 2, 3, 4, 5, 6] [(b0, cM b1 b2 b3 b4 b5 b6 (0, X.2.2.2.2.2.2.2)), (b1, cA9 cI X.1), (b2, cA2 cI X.2.1), (b3, cA2 cI X.2.2.1), (b4, cA2 cI X.2.2.2.1), (b5, cA2 cI X.2.2.2.2.1), (b6, cA9 cI X.2.2.2.2.2.1)] ([(b0, cM b1 b2 b3 b4 b5 b6 (0, X.2.2.2.2.2.2.2)), (b1, cA9 cI X.1), (b2, cA2 cI X.2.1), (b3, cA2 cI X.2.2.1), (b4, cA2 cI X.2.2.2.1), (b5, cA2 cI X.2.2.2.2.1), (b6, cA9 cI X.2.2.2.2.2.1)]) rfl rfl rfl rfl (by decide) [] rfl rfl rfl rfl (Nat.le_of_ble_eq_true rfl) ⟨Nat.zero_le _, Nat.zero_le _⟩ rfl dX3_told_17 ?_
  refine k_if_eq C 32 (by decide) dX3_told_20 (fun h => absurd h (by decide)) (fun _ => ?_)
  refine k_aload_n C dX3_told_23 0 rfl ?_
  refine k_iload_n C dX3_told_24 1 rfl ?_
  refine k_iload_n C dX3_told_25 2 rfl ?_
  refine k_callV_i C (mX3_sideTold_11 l D cI cJ b0 b1 b2 b3 b4 b5 b6 (X.1, X.2.1, X.2.2.1, X.2.2.2.1, X.2.2.2.2.1, X.2.2.2.2.2.1, 0, X.2.2.2.2.2.2.2)) (cwV 2 C.2.2.2.2.1 (kGV q751 q753 q51 q61 q754) rfl rfl rfl ⟨rfl, hdX3_sideTold⟩ ⟨Nat.le_of_ble_eq_true rfl, Nat.le_of_ble_eq_true rfl⟩) [0, 1, 2, 3, 4, 5, 6] [] [0, 1, 2, 3, 4, 5, 6] [] ([(b0, cM b1 b2 b3 b4 b5 b6 (0, X.2.2.2.2.2.2.2)), (b1, cA9 cI X.1), (b2, cA2 cI X.2.1), (b3, cA2 cI X.2.2.1), (b4, cA2 cI X.2.2.2.1), (b5, cA2 cI X.2.2.2.2.1), (b6, cA9 cI X.2.2.2.2.2.1)]) rfl rfl rfl rfl (by decide) [b0, b1, b2, b3, b4, b5, b6] rfl rfl rfl rfl 0 3 rfl rfl rfl (Nat.le_of_ble_eq_true rfl) ⟨Nat.zero_le _, Nat.zero_le _⟩ rfl dX3_told_26 ?_
  generalize er1 : fX3_sideTold_11 (X.1, X.2.1, X.2.2.1, X.2.2.2.1, X.2.2.2.2.1, X.2.2.2.2.2.1, 0, X.2.2.2.2.2.2.2) = r1
  refine k_goto C 37 (by decide) dX3_told_29 ?_
  have hL : fX3_told_11 X = (r1, (X.1, X.2.1, X.2.2.1, X.2.2.2.1, X.2.2.2.2.1, X.2.2.2.2.2.1, 0, X.2.2.2.2.2.2.2)) := by subst er1; exact rfl
  exact k_iret C rfl (by rw [hL]) (by rw [hL]) dX3_told_37

noncomputable def fX3_told_12 (X : Mo) : Int32 × Mo :=
  ((fX3_sideTold_12 (X.1, X.2.1, X.2.2.1, X.2.2.2.1, X.2.2.2.2.1, X.2.2.2.2.2.1, 0, X.2.2.2.2.2.2.2)), (X.1, X.2.1, X.2.2.1, X.2.2.2.1, X.2.2.2.2.1, X.2.2.2.2.2.1, 0, X.2.2.2.2.2.2.2))
set_option maxHeartbeats 4000000 in
set_option maxRecDepth 100000 in
theorem mX3_told_12 (l : Launch) (D : va_G) (cI cJ : ClassId) (b0 b1 b2 b3 b4 b5 b6 : Nat) (X : Mo)  : kCi l D cI cJ yX3_told (.code yX3_told cX3_told 3 (some .int)) { frames := 1, cells := 0, slots := 0, locals := 22 } [.ref b0, .int 1, .int 2] (wM cI b0 b1 b2 b3 b4 b5 b6 X) (fX3_told_12 X).1 (wM cI b0 b1 b2 b3 b4 b5 b6 (fX3_told_12 X).2) := by
  refine fun sz => k_of (lv := [(0, .ref b0), (1, .int 1), (2, .int 2)]) (by decide) sz (by exact Nat.le_of_ble_eq_true rfl) rfl ?_
  intro p e s m args below meth c hsz C
  refine k_aload_n C dX3_told_0 0 rfl ?_
  refine k_iconst C 0 (by decide) dX3_told_1 ?_
  refine k_putX3 C [(b0, cM b1 b2 b3 b4 b5 b6 (0, X.2.2.2.2.2.2.2)), (b1, cA9 cI X.1), (b2, cA2 cI X.2.1), (b3, cA2 cI X.2.2.1), (b4, cA2 cI X.2.2.2.1), (b5, cA2 cI X.2.2.2.2.1), (b6, cA9 cI X.2.2.2.2.2.1)] 0 0 rfl rfl (by decide) q570 rfl rfl fdI rfl rfl (Nat.le_of_ble_eq_true rfl) dX3_told_2 ?_
  refine k_iload_n C dX3_told_5 1 rfl ?_
  refine k_iconst C 0 (by decide) dX3_told_6 ?_
  refine k_iconst C 1 (by decide) dX3_told_7 ?_
  refine k_callS_i C (mX3_isIn_k1_0_1 l D cI cJ) (va_cwS 3 C.2.2.2.2.1 (kGS q637 q638 q61 q639) rfl rfl rfl hdX3_isIn ⟨Nat.le_of_ble_eq_true rfl, Nat.le_of_ble_eq_true rfl⟩) [] [0, 1, 2, 3, 4, 5, 6] [0, 1, 2, 3, 4, 5, 6] [(b0, cM b1 b2 b3 b4 b5 b6 (0, X.2.2.2.2.2.2.2)), (b1, cA9 cI X.1), (b2, cA2 cI X.2.1), (b3, cA2 cI X.2.2.1), (b4, cA2 cI X.2.2.2.1), (b5, cA2 cI X.2.2.2.2.1), (b6, cA9 cI X.2.2.2.2.2.1)] ([(b0, cM b1 b2 b3 b4 b5 b6 (0, X.2.2.2.2.2.2.2)), (b1, cA9 cI X.1), (b2, cA2 cI X.2.1), (b3, cA2 cI X.2.2.1), (b4, cA2 cI X.2.2.2.1), (b5, cA2 cI X.2.2.2.2.1), (b6, cA9 cI X.2.2.2.2.2.1)]) rfl rfl rfl rfl (by decide) [] rfl rfl rfl rfl (Nat.le_of_ble_eq_true rfl) ⟨Nat.zero_le _, Nat.zero_le _⟩ rfl dX3_told_8 ?_
  refine k_if_eq C 32 (by decide) dX3_told_11 (fun h => absurd h (by decide)) (fun _ => ?_)
  refine k_iload_n C dX3_told_14 2 rfl ?_
  refine k_iconst C 0 (by decide) dX3_told_15 ?_
  refine k_iconst C 3 (by decide) dX3_told_16 ?_
  refine k_callS_i C (mX3_isIn_k2_0_3 l D cI cJ) (va_cwS 3 C.2.2.2.2.1 (kGS q637 q638 q61 q639) rfl rfl rfl hdX3_isIn ⟨Nat.le_of_ble_eq_true rfl, Nat.le_of_ble_eq_true rfl⟩) [] [0, 1, 2, 3, 4, 5, 6] [0, 1, 2, 3, 4, 5, 6] [(b0, cM b1 b2 b3 b4 b5 b6 (0, X.2.2.2.2.2.2.2)), (b1, cA9 cI X.1), (b2, cA2 cI X.2.1), (b3, cA2 cI X.2.2.1), (b4, cA2 cI X.2.2.2.1), (b5, cA2 cI X.2.2.2.2.1), (b6, cA9 cI X.2.2.2.2.2.1)] ([(b0, cM b1 b2 b3 b4 b5 b6 (0, X.2.2.2.2.2.2.2)), (b1, cA9 cI X.1), (b2, cA2 cI X.2.1), (b3, cA2 cI X.2.2.1), (b4, cA2 cI X.2.2.2.1), (b5, cA2 cI X.2.2.2.2.1), (b6, cA9 cI X.2.2.2.2.2.1)]) rfl rfl rfl rfl (by decide) [] rfl rfl rfl rfl (Nat.le_of_ble_eq_true rfl) ⟨Nat.zero_le _, Nat.zero_le _⟩ rfl dX3_told_17 ?_
  refine k_if_eq C 32 (by decide) dX3_told_20 (fun h => absurd h (by decide)) (fun _ => ?_)
  refine k_aload_n C dX3_told_23 0 rfl ?_
  refine k_iload_n C dX3_told_24 1 rfl ?_
  refine k_iload_n C dX3_told_25 2 rfl ?_
  refine k_callV_i C (mX3_sideTold_12 l D cI cJ b0 b1 b2 b3 b4 b5 b6 (X.1, X.2.1, X.2.2.1, X.2.2.2.1, X.2.2.2.2.1, X.2.2.2.2.2.1, 0, X.2.2.2.2.2.2.2)) (cwV 2 C.2.2.2.2.1 (kGV q751 q753 q51 q61 q754) rfl rfl rfl ⟨rfl, hdX3_sideTold⟩ ⟨Nat.le_of_ble_eq_true rfl, Nat.le_of_ble_eq_true rfl⟩) [0, 1, 2, 3, 4, 5, 6] [] [0, 1, 2, 3, 4, 5, 6] [] ([(b0, cM b1 b2 b3 b4 b5 b6 (0, X.2.2.2.2.2.2.2)), (b1, cA9 cI X.1), (b2, cA2 cI X.2.1), (b3, cA2 cI X.2.2.1), (b4, cA2 cI X.2.2.2.1), (b5, cA2 cI X.2.2.2.2.1), (b6, cA9 cI X.2.2.2.2.2.1)]) rfl rfl rfl rfl (by decide) [b0, b1, b2, b3, b4, b5, b6] rfl rfl rfl rfl 0 3 rfl rfl rfl (Nat.le_of_ble_eq_true rfl) ⟨Nat.zero_le _, Nat.zero_le _⟩ rfl dX3_told_26 ?_
  generalize er1 : fX3_sideTold_12 (X.1, X.2.1, X.2.2.1, X.2.2.2.1, X.2.2.2.2.1, X.2.2.2.2.2.1, 0, X.2.2.2.2.2.2.2) = r1
  refine k_goto C 37 (by decide) dX3_told_29 ?_
  have hL : fX3_told_12 X = (r1, (X.1, X.2.1, X.2.2.1, X.2.2.2.1, X.2.2.2.2.1, X.2.2.2.2.2.1, 0, X.2.2.2.2.2.2.2)) := by subst er1; exact rfl
  exact k_iret C rfl (by rw [hL]) (by rw [hL]) dX3_told_37

noncomputable def fX3_told_13 (X : Mo) : Int32 × Mo :=
  ((fX3_sideTold_13 (X.1, X.2.1, X.2.2.1, X.2.2.2.1, X.2.2.2.2.1, X.2.2.2.2.2.1, 0, X.2.2.2.2.2.2.2)), (X.1, X.2.1, X.2.2.1, X.2.2.2.1, X.2.2.2.2.1, X.2.2.2.2.2.1, 0, X.2.2.2.2.2.2.2))
set_option maxHeartbeats 4000000 in
set_option maxRecDepth 100000 in
theorem mX3_told_13 (l : Launch) (D : va_G) (cI cJ : ClassId) (b0 b1 b2 b3 b4 b5 b6 : Nat) (X : Mo)  : kCi l D cI cJ yX3_told (.code yX3_told cX3_told 3 (some .int)) { frames := 1, cells := 0, slots := 0, locals := 22 } [.ref b0, .int 1, .int 3] (wM cI b0 b1 b2 b3 b4 b5 b6 X) (fX3_told_13 X).1 (wM cI b0 b1 b2 b3 b4 b5 b6 (fX3_told_13 X).2) := by
  refine fun sz => k_of (lv := [(0, .ref b0), (1, .int 1), (2, .int 3)]) (by decide) sz (by exact Nat.le_of_ble_eq_true rfl) rfl ?_
  intro p e s m args below meth c hsz C
  refine k_aload_n C dX3_told_0 0 rfl ?_
  refine k_iconst C 0 (by decide) dX3_told_1 ?_
  refine k_putX3 C [(b0, cM b1 b2 b3 b4 b5 b6 (0, X.2.2.2.2.2.2.2)), (b1, cA9 cI X.1), (b2, cA2 cI X.2.1), (b3, cA2 cI X.2.2.1), (b4, cA2 cI X.2.2.2.1), (b5, cA2 cI X.2.2.2.2.1), (b6, cA9 cI X.2.2.2.2.2.1)] 0 0 rfl rfl (by decide) q570 rfl rfl fdI rfl rfl (Nat.le_of_ble_eq_true rfl) dX3_told_2 ?_
  refine k_iload_n C dX3_told_5 1 rfl ?_
  refine k_iconst C 0 (by decide) dX3_told_6 ?_
  refine k_iconst C 1 (by decide) dX3_told_7 ?_
  refine k_callS_i C (mX3_isIn_k1_0_1 l D cI cJ) (va_cwS 3 C.2.2.2.2.1 (kGS q637 q638 q61 q639) rfl rfl rfl hdX3_isIn ⟨Nat.le_of_ble_eq_true rfl, Nat.le_of_ble_eq_true rfl⟩) [] [0, 1, 2, 3, 4, 5, 6] [0, 1, 2, 3, 4, 5, 6] [(b0, cM b1 b2 b3 b4 b5 b6 (0, X.2.2.2.2.2.2.2)), (b1, cA9 cI X.1), (b2, cA2 cI X.2.1), (b3, cA2 cI X.2.2.1), (b4, cA2 cI X.2.2.2.1), (b5, cA2 cI X.2.2.2.2.1), (b6, cA9 cI X.2.2.2.2.2.1)] ([(b0, cM b1 b2 b3 b4 b5 b6 (0, X.2.2.2.2.2.2.2)), (b1, cA9 cI X.1), (b2, cA2 cI X.2.1), (b3, cA2 cI X.2.2.1), (b4, cA2 cI X.2.2.2.1), (b5, cA2 cI X.2.2.2.2.1), (b6, cA9 cI X.2.2.2.2.2.1)]) rfl rfl rfl rfl (by decide) [] rfl rfl rfl rfl (Nat.le_of_ble_eq_true rfl) ⟨Nat.zero_le _, Nat.zero_le _⟩ rfl dX3_told_8 ?_
  refine k_if_eq C 32 (by decide) dX3_told_11 (fun h => absurd h (by decide)) (fun _ => ?_)
  refine k_iload_n C dX3_told_14 2 rfl ?_
  refine k_iconst C 0 (by decide) dX3_told_15 ?_
  refine k_iconst C 3 (by decide) dX3_told_16 ?_
  refine k_callS_i C (mX3_isIn_k3_0_3 l D cI cJ) (va_cwS 3 C.2.2.2.2.1 (kGS q637 q638 q61 q639) rfl rfl rfl hdX3_isIn ⟨Nat.le_of_ble_eq_true rfl, Nat.le_of_ble_eq_true rfl⟩) [] [0, 1, 2, 3, 4, 5, 6] [0, 1, 2, 3, 4, 5, 6] [(b0, cM b1 b2 b3 b4 b5 b6 (0, X.2.2.2.2.2.2.2)), (b1, cA9 cI X.1), (b2, cA2 cI X.2.1), (b3, cA2 cI X.2.2.1), (b4, cA2 cI X.2.2.2.1), (b5, cA2 cI X.2.2.2.2.1), (b6, cA9 cI X.2.2.2.2.2.1)] ([(b0, cM b1 b2 b3 b4 b5 b6 (0, X.2.2.2.2.2.2.2)), (b1, cA9 cI X.1), (b2, cA2 cI X.2.1), (b3, cA2 cI X.2.2.1), (b4, cA2 cI X.2.2.2.1), (b5, cA2 cI X.2.2.2.2.1), (b6, cA9 cI X.2.2.2.2.2.1)]) rfl rfl rfl rfl (by decide) [] rfl rfl rfl rfl (Nat.le_of_ble_eq_true rfl) ⟨Nat.zero_le _, Nat.zero_le _⟩ rfl dX3_told_17 ?_
  refine k_if_eq C 32 (by decide) dX3_told_20 (fun h => absurd h (by decide)) (fun _ => ?_)
  refine k_aload_n C dX3_told_23 0 rfl ?_
  refine k_iload_n C dX3_told_24 1 rfl ?_
  refine k_iload_n C dX3_told_25 2 rfl ?_
  refine k_callV_i C (mX3_sideTold_13 l D cI cJ b0 b1 b2 b3 b4 b5 b6 (X.1, X.2.1, X.2.2.1, X.2.2.2.1, X.2.2.2.2.1, X.2.2.2.2.2.1, 0, X.2.2.2.2.2.2.2)) (cwV 2 C.2.2.2.2.1 (kGV q751 q753 q51 q61 q754) rfl rfl rfl ⟨rfl, hdX3_sideTold⟩ ⟨Nat.le_of_ble_eq_true rfl, Nat.le_of_ble_eq_true rfl⟩) [0, 1, 2, 3, 4, 5, 6] [] [0, 1, 2, 3, 4, 5, 6] [] ([(b0, cM b1 b2 b3 b4 b5 b6 (0, X.2.2.2.2.2.2.2)), (b1, cA9 cI X.1), (b2, cA2 cI X.2.1), (b3, cA2 cI X.2.2.1), (b4, cA2 cI X.2.2.2.1), (b5, cA2 cI X.2.2.2.2.1), (b6, cA9 cI X.2.2.2.2.2.1)]) rfl rfl rfl rfl (by decide) [b0, b1, b2, b3, b4, b5, b6] rfl rfl rfl rfl 0 3 rfl rfl rfl (Nat.le_of_ble_eq_true rfl) ⟨Nat.zero_le _, Nat.zero_le _⟩ rfl dX3_told_26 ?_
  generalize er1 : fX3_sideTold_13 (X.1, X.2.1, X.2.2.1, X.2.2.2.1, X.2.2.2.2.1, X.2.2.2.2.2.1, 0, X.2.2.2.2.2.2.2) = r1
  refine k_goto C 37 (by decide) dX3_told_29 ?_
  have hL : fX3_told_13 X = (r1, (X.1, X.2.1, X.2.2.1, X.2.2.2.1, X.2.2.2.2.1, X.2.2.2.2.2.1, 0, X.2.2.2.2.2.2.2)) := by subst er1; exact rfl
  exact k_iret C rfl (by rw [hL]) (by rw [hL]) dX3_told_37

theorem hdX3_counted : yX3_counted.cls ≠ "java/lang/invoke/MethodHandle" ∧ yX3_counted.cls ≠ "java/lang/invoke/VarHandle" ∧ (parseMethodDescriptor yX3_counted.desc).map (fun d => d.parameters.length) = some 1 := by decide +kernel
noncomputable def fX3_counted_0 (X : Mo) : Int32 :=
  X.2.2.2.2.2.2.2.1
set_option maxHeartbeats 4000000 in
set_option maxRecDepth 100000 in
theorem mX3_counted_0 (l : Launch) (D : va_G) (cI cJ : ClassId) (b0 b1 b2 b3 b4 b5 b6 : Nat) (X : Mo)  : kCi l D cI cJ yX3_counted (.code yX3_counted cX3_counted 2 (some .int)) { frames := 2, cells := 0, slots := 0, locals := 42 } [.ref b0, .int 0] (wM cI b0 b1 b2 b3 b4 b5 b6 X) (fX3_counted_0 X) (wM cI b0 b1 b2 b3 b4 b5 b6 X) := by
  refine fun sz => k_of (lv := [(0, .ref b0), (1, .int 0)]) (by decide) sz (by exact Nat.le_of_ble_eq_true rfl) rfl ?_
  intro p e s m args below meth c hsz C
  refine k_iload_n C dX3_counted_0 1 rfl ?_
  refine k_tabIn (off := 47) C 48 (by decide) (by decide) (by decide +kernel) (by decide) dX3_counted_1 ?_
  refine k_aload_n C dX3_counted_48 0 rfl ?_
  refine k_getX3 C 0 1 rfl (by decide) rfl q571 rfl dX3_counted_49 ?_
  have hL : fX3_counted_0 X = X.2.2.2.2.2.2.2.1 := by exact rfl
  exact k_iret C rfl (hL.symm) rfl dX3_counted_52

noncomputable def fX3_counted_1 (X : Mo) : Int32 :=
  if X.2.2.2.2.2.2.2.2.1 = 0 then (-1)
  else X.2.2.2.2.2.2.2.2.2.1
set_option maxHeartbeats 4000000 in
set_option maxRecDepth 100000 in
theorem mX3_counted_1 (l : Launch) (D : va_G) (cI cJ : ClassId) (b0 b1 b2 b3 b4 b5 b6 : Nat) (X : Mo)  : kCi l D cI cJ yX3_counted (.code yX3_counted cX3_counted 2 (some .int)) { frames := 2, cells := 0, slots := 0, locals := 42 } [.ref b0, .int 1] (wM cI b0 b1 b2 b3 b4 b5 b6 X) (fX3_counted_1 X) (wM cI b0 b1 b2 b3 b4 b5 b6 X) := by
  refine fun sz => k_of (lv := [(0, .ref b0), (1, .int 1)]) (by decide) sz (by exact Nat.le_of_ble_eq_true rfl) rfl ?_
  intro p e s m args below meth c hsz C
  refine k_iload_n C dX3_counted_0 1 rfl ?_
  refine k_tabIn (off := 52) C 53 (by decide) (by decide) (by decide +kernel) (by decide) dX3_counted_1 ?_
  refine k_aload_n C dX3_counted_53 0 rfl ?_
  refine k_getX3 C 0 2 rfl (by decide) rfl q572 rfl dX3_counted_54 ?_
  refine k_if_eq C 67 (by decide) dX3_counted_57 (fun c1 => ?_) (fun c1 => ?_)
  ·
    refine k_iconst C (-1) (by decide) dX3_counted_67 ?_
    have hL : fX3_counted_1 X = (-1) := by exact (if_pos c1).trans rfl
    exact k_iret C rfl (hL.symm) rfl dX3_counted_68
  ·
    refine k_aload_n C dX3_counted_60 0 rfl ?_
    refine k_getX3 C 0 3 rfl (by decide) rfl q573 rfl dX3_counted_61 ?_
    refine k_goto C 68 (by decide) dX3_counted_64 ?_
    have hL : fX3_counted_1 X = X.2.2.2.2.2.2.2.2.2.1 := by exact (if_neg c1).trans rfl
    exact k_iret C rfl (hL.symm) rfl dX3_counted_68

noncomputable def fX3_counted_2 (X : Mo) : Int32 :=
  if X.2.2.2.2.2.2.2.2.1 = 0 then 0
  else X.2.2.2.2.2.2.2.2.2.2.1
set_option maxHeartbeats 4000000 in
set_option maxRecDepth 100000 in
theorem mX3_counted_2 (l : Launch) (D : va_G) (cI cJ : ClassId) (b0 b1 b2 b3 b4 b5 b6 : Nat) (X : Mo)  : kCi l D cI cJ yX3_counted (.code yX3_counted cX3_counted 2 (some .int)) { frames := 2, cells := 0, slots := 0, locals := 42 } [.ref b0, .int 2] (wM cI b0 b1 b2 b3 b4 b5 b6 X) (fX3_counted_2 X) (wM cI b0 b1 b2 b3 b4 b5 b6 X) := by
  refine fun sz => k_of (lv := [(0, .ref b0), (1, .int 2)]) (by decide) sz (by exact Nat.le_of_ble_eq_true rfl) rfl ?_
  intro p e s m args below meth c hsz C
  refine k_iload_n C dX3_counted_0 1 rfl ?_
  refine k_tabIn (off := 68) C 69 (by decide) (by decide) (by decide +kernel) (by decide) dX3_counted_1 ?_
  refine k_aload_n C dX3_counted_69 0 rfl ?_
  refine k_getX3 C 0 2 rfl (by decide) rfl q572 rfl dX3_counted_70 ?_
  refine k_if_eq C 83 (by decide) dX3_counted_73 (fun c1 => ?_) (fun c1 => ?_)
  ·
    refine k_iconst C 0 (by decide) dX3_counted_83 ?_
    have hL : fX3_counted_2 X = 0 := by exact (if_pos c1).trans rfl
    exact k_iret C rfl (hL.symm) rfl dX3_counted_84
  ·
    refine k_aload_n C dX3_counted_76 0 rfl ?_
    refine k_getX3 C 0 4 rfl (by decide) rfl q574 rfl dX3_counted_77 ?_
    refine k_goto C 84 (by decide) dX3_counted_80 ?_
    have hL : fX3_counted_2 X = X.2.2.2.2.2.2.2.2.2.2.1 := by exact (if_neg c1).trans rfl
    exact k_iret C rfl (hL.symm) rfl dX3_counted_84

noncomputable def fX3_counted_3 (X : Mo) : Int32 :=
  X.2.2.2.2.2.2.2.2.2.2.2.1
set_option maxHeartbeats 4000000 in
set_option maxRecDepth 100000 in
theorem mX3_counted_3 (l : Launch) (D : va_G) (cI cJ : ClassId) (b0 b1 b2 b3 b4 b5 b6 : Nat) (X : Mo)  : kCi l D cI cJ yX3_counted (.code yX3_counted cX3_counted 2 (some .int)) { frames := 2, cells := 0, slots := 0, locals := 42 } [.ref b0, .int 3] (wM cI b0 b1 b2 b3 b4 b5 b6 X) (fX3_counted_3 X) (wM cI b0 b1 b2 b3 b4 b5 b6 X) := by
  refine fun sz => k_of (lv := [(0, .ref b0), (1, .int 3)]) (by decide) sz (by exact Nat.le_of_ble_eq_true rfl) rfl ?_
  intro p e s m args below meth c hsz C
  refine k_iload_n C dX3_counted_0 1 rfl ?_
  refine k_tabIn (off := 84) C 85 (by decide) (by decide) (by decide +kernel) (by decide) dX3_counted_1 ?_
  refine k_aload_n C dX3_counted_85 0 rfl ?_
  refine k_getX3 C 0 10 rfl (by decide) rfl q580 rfl dX3_counted_86 ?_
  have hL : fX3_counted_3 X = X.2.2.2.2.2.2.2.2.2.2.2.1 := by exact rfl
  exact k_iret C rfl (hL.symm) rfl dX3_counted_89

noncomputable def fX3_counted_4 (X : Mo) : Int32 :=
  X.2.2.2.2.2.2.2.2.2.2.2.2.1
set_option maxHeartbeats 4000000 in
set_option maxRecDepth 100000 in
theorem mX3_counted_4 (l : Launch) (D : va_G) (cI cJ : ClassId) (b0 b1 b2 b3 b4 b5 b6 : Nat) (X : Mo)  : kCi l D cI cJ yX3_counted (.code yX3_counted cX3_counted 2 (some .int)) { frames := 2, cells := 0, slots := 0, locals := 42 } [.ref b0, .int 4] (wM cI b0 b1 b2 b3 b4 b5 b6 X) (fX3_counted_4 X) (wM cI b0 b1 b2 b3 b4 b5 b6 X) := by
  refine fun sz => k_of (lv := [(0, .ref b0), (1, .int 4)]) (by decide) sz (by exact Nat.le_of_ble_eq_true rfl) rfl ?_
  intro p e s m args below meth c hsz C
  refine k_iload_n C dX3_counted_0 1 rfl ?_
  refine k_tabIn (off := 89) C 90 (by decide) (by decide) (by decide +kernel) (by decide) dX3_counted_1 ?_
  refine k_aload_n C dX3_counted_90 0 rfl ?_
  refine k_getX3 C 0 11 rfl (by decide) rfl q581 rfl dX3_counted_91 ?_
  have hL : fX3_counted_4 X = X.2.2.2.2.2.2.2.2.2.2.2.2.1 := by exact rfl
  exact k_iret C rfl (hL.symm) rfl dX3_counted_94

noncomputable def fX3_counted_5 (X : Mo) : Int32 :=
  X.2.2.2.2.2.2.2.2.2.2.2.2.2.2.1
set_option maxHeartbeats 4000000 in
set_option maxRecDepth 100000 in
theorem mX3_counted_5 (l : Launch) (D : va_G) (cI cJ : ClassId) (b0 b1 b2 b3 b4 b5 b6 : Nat) (X : Mo)  : kCi l D cI cJ yX3_counted (.code yX3_counted cX3_counted 2 (some .int)) { frames := 2, cells := 0, slots := 0, locals := 42 } [.ref b0, .int 5] (wM cI b0 b1 b2 b3 b4 b5 b6 X) (fX3_counted_5 X) (wM cI b0 b1 b2 b3 b4 b5 b6 X) := by
  refine fun sz => k_of (lv := [(0, .ref b0), (1, .int 5)]) (by decide) sz (by exact Nat.le_of_ble_eq_true rfl) rfl ?_
  intro p e s m args below meth c hsz C
  refine k_iload_n C dX3_counted_0 1 rfl ?_
  refine k_tabIn (off := 94) C 95 (by decide) (by decide) (by decide +kernel) (by decide) dX3_counted_1 ?_
  refine k_aload_n C dX3_counted_95 0 rfl ?_
  refine k_getX3 C 0 13 rfl (by decide) rfl q583 rfl dX3_counted_96 ?_
  have hL : fX3_counted_5 X = X.2.2.2.2.2.2.2.2.2.2.2.2.2.2.1 := by exact rfl
  exact k_iret C rfl (hL.symm) rfl dX3_counted_99

noncomputable def fX3_counted_6 (X : Mo) : Int32 :=
  if (fX3_canSet X) = 0 then 0
  else 1
set_option maxHeartbeats 4000000 in
set_option maxRecDepth 100000 in
theorem mX3_counted_6 (l : Launch) (D : va_G) (cI cJ : ClassId) (b0 b1 b2 b3 b4 b5 b6 : Nat) (X : Mo)  : kCi l D cI cJ yX3_counted (.code yX3_counted cX3_counted 2 (some .int)) { frames := 2, cells := 0, slots := 0, locals := 42 } [.ref b0, .int 6] (wM cI b0 b1 b2 b3 b4 b5 b6 X) (fX3_counted_6 X) (wM cI b0 b1 b2 b3 b4 b5 b6 X) := by
  refine fun sz => k_of (lv := [(0, .ref b0), (1, .int 6)]) (by decide) sz (by exact Nat.le_of_ble_eq_true rfl) rfl ?_
  intro p e s m args below meth c hsz C
  refine k_iload_n C dX3_counted_0 1 rfl ?_
  refine k_tabIn (off := 99) C 100 (by decide) (by decide) (by decide +kernel) (by decide) dX3_counted_1 ?_
  refine k_aload_n C dX3_counted_100 0 rfl ?_
  refine k_callV_i C (mX3_canSet l D cI cJ b0 b1 b2 b3 b4 b5 b6 X) (cwV 0 C.2.2.2.2.1 (kGV q731 q733 q49 q61 q734) rfl rfl rfl ⟨rfl, hdX3_canSet⟩ ⟨Nat.le_of_ble_eq_true rfl, Nat.le_of_ble_eq_true rfl⟩) [0, 1, 2, 3, 4, 5, 6] [] [0, 1, 2, 3, 4, 5, 6] [] ([(b0, cM b1 b2 b3 b4 b5 b6 X.2.2.2.2.2.2), (b1, cA9 cI X.1), (b2, cA2 cI X.2.1), (b3, cA2 cI X.2.2.1), (b4, cA2 cI X.2.2.2.1), (b5, cA2 cI X.2.2.2.2.1), (b6, cA9 cI X.2.2.2.2.2.1)]) rfl rfl rfl rfl (by decide) [b0, b1, b2, b3, b4, b5, b6] rfl rfl rfl rfl 0 3 rfl rfl rfl (Nat.le_of_ble_eq_true rfl) ⟨Nat.zero_le _, Nat.zero_le _⟩ rfl dX3_counted_101 ?_
  generalize er1 : fX3_canSet X = r1
  refine k_if_eq C 111 (by decide) dX3_counted_104 (fun c2 => ?_) (fun c2 => ?_)
  ·
    refine k_iconst C 0 (by decide) dX3_counted_111 ?_
    have hL : fX3_counted_6 X = 0 := by subst er1; exact (if_pos c2).trans rfl
    exact k_iret C rfl (hL.symm) rfl dX3_counted_112
  ·
    refine k_iconst C 1 (by decide) dX3_counted_107 ?_
    refine k_goto C 112 (by decide) dX3_counted_108 ?_
    have hL : fX3_counted_6 X = 1 := by subst er1; exact (if_neg c2).trans rfl
    exact k_iret C rfl (hL.symm) rfl dX3_counted_112

noncomputable def fX3_counted_7 (X : Mo) : Int32 :=
  (fX3_winner X)
set_option maxHeartbeats 4000000 in
set_option maxRecDepth 100000 in
theorem mX3_counted_7 (l : Launch) (D : va_G) (cI cJ : ClassId) (b0 b1 b2 b3 b4 b5 b6 : Nat) (X : Mo)  : kCi l D cI cJ yX3_counted (.code yX3_counted cX3_counted 2 (some .int)) { frames := 2, cells := 0, slots := 0, locals := 42 } [.ref b0, .int 7] (wM cI b0 b1 b2 b3 b4 b5 b6 X) (fX3_counted_7 X) (wM cI b0 b1 b2 b3 b4 b5 b6 X) := by
  refine fun sz => k_of (lv := [(0, .ref b0), (1, .int 7)]) (by decide) sz (by exact Nat.le_of_ble_eq_true rfl) rfl ?_
  intro p e s m args below meth c hsz C
  refine k_iload_n C dX3_counted_0 1 rfl ?_
  refine k_tabIn (off := 112) C 113 (by decide) (by decide) (by decide +kernel) (by decide) dX3_counted_1 ?_
  refine k_aload_n C dX3_counted_113 0 rfl ?_
  refine k_callV_i C (mX3_winner l D cI cJ b0 b1 b2 b3 b4 b5 b6 X) (cwV 0 C.2.2.2.2.1 (kGV q644 q646 q34 q61 q647) rfl rfl rfl ⟨rfl, hdX3_winner⟩ ⟨Nat.le_of_ble_eq_true rfl, Nat.le_of_ble_eq_true rfl⟩) [0, 1, 2, 3, 4, 5, 6] [] [0, 1, 2, 3, 4, 5, 6] [] ([(b0, cM b1 b2 b3 b4 b5 b6 X.2.2.2.2.2.2), (b1, cA9 cI X.1), (b2, cA2 cI X.2.1), (b3, cA2 cI X.2.2.1), (b4, cA2 cI X.2.2.2.1), (b5, cA2 cI X.2.2.2.2.1), (b6, cA9 cI X.2.2.2.2.2.1)]) rfl rfl rfl rfl (by decide) [b0, b1, b2, b3, b4, b5, b6] rfl rfl rfl rfl 0 3 rfl rfl rfl (Nat.le_of_ble_eq_true rfl) ⟨Nat.zero_le _, Nat.zero_le _⟩ rfl dX3_counted_114 ?_
  generalize er1 : fX3_winner X = r1
  have hL : fX3_counted_7 X = r1 := by subst er1; exact rfl
  exact k_iret C rfl (hL.symm) rfl dX3_counted_117

noncomputable def fX3_counted_8 (X : Mo) : Int32 :=
  X.2.2.2.2.2.2.2.2.2.2.2.2.2.1
set_option maxHeartbeats 4000000 in
set_option maxRecDepth 100000 in
theorem mX3_counted_8 (l : Launch) (D : va_G) (cI cJ : ClassId) (b0 b1 b2 b3 b4 b5 b6 : Nat) (X : Mo)  : kCi l D cI cJ yX3_counted (.code yX3_counted cX3_counted 2 (some .int)) { frames := 2, cells := 0, slots := 0, locals := 42 } [.ref b0, .int 8] (wM cI b0 b1 b2 b3 b4 b5 b6 X) (fX3_counted_8 X) (wM cI b0 b1 b2 b3 b4 b5 b6 X) := by
  refine fun sz => k_of (lv := [(0, .ref b0), (1, .int 8)]) (by decide) sz (by exact Nat.le_of_ble_eq_true rfl) rfl ?_
  intro p e s m args below meth c hsz C
  refine k_iload_n C dX3_counted_0 1 rfl ?_
  refine k_tabOut C 118 (by decide) (by decide) dX3_counted_1 ?_
  refine k_aload_n C dX3_counted_118 0 rfl ?_
  refine k_getX3 C 0 12 rfl (by decide) rfl q582 rfl dX3_counted_119 ?_
  have hL : fX3_counted_8 X = X.2.2.2.2.2.2.2.2.2.2.2.2.2.1 := by exact rfl
  exact k_iret C rfl (hL.symm) rfl dX3_counted_122

set_option maxHeartbeats 4000000 in
set_option maxRecDepth 100000 in
theorem mX3_isIn_k0_0_8 (l : Launch) (D : va_G) (cI cJ : ClassId)   : kCi l D cI cJ yX3_isIn (.code yX3_isIn cX3_isIn 3 (some .boolean)) { frames := 0, cells := 0, slots := 0, locals := 0 } [.int 0, .int 0, .int 8] [] (1) [] := by
  refine fun sz => k_of (lv := [(0, .int 0), (1, .int 0), (2, .int 8)]) (by decide) sz (by exact Nat.le_of_ble_eq_true rfl) rfl ?_
  intro p e s m args below meth c hsz C
  refine k_iload_n C dX3_isIn_0 0 rfl ?_
  refine k_iload_n C dX3_isIn_1 1 rfl ?_
  refine k_icmp_lt C 14 (by decide) dX3_isIn_2 (fun h => absurd h (by decide)) (fun _ => ?_)
  refine k_iload_n C dX3_isIn_5 0 rfl ?_
  refine k_iload_n C dX3_isIn_6 2 rfl ?_
  refine k_icmp_gt C 14 (by decide) dX3_isIn_7 (fun h => absurd h (by decide)) (fun _ => ?_)
  refine k_iconst C 1 (by decide) dX3_isIn_10 ?_
  refine k_goto C 15 (by decide) dX3_isIn_11 ?_
  exact k_zret C rfl rfl rfl rfl dX3_isIn_15

theorem hdX3_count : yX3_count.cls ≠ "java/lang/invoke/MethodHandle" ∧ yX3_count.cls ≠ "java/lang/invoke/VarHandle" ∧ (parseMethodDescriptor yX3_count.desc).map (fun d => d.parameters.length) = some 1 := by decide +kernel
noncomputable def fX3_count_0 (X : Mo) : Int32 × Mo :=
  ((fX3_counted_0 (X.1, X.2.1, X.2.2.1, X.2.2.2.1, X.2.2.2.2.1, X.2.2.2.2.2.1, 0, X.2.2.2.2.2.2.2)), (X.1, X.2.1, X.2.2.1, X.2.2.2.1, X.2.2.2.2.1, X.2.2.2.2.2.1, 0, X.2.2.2.2.2.2.2))
set_option maxHeartbeats 4000000 in
set_option maxRecDepth 100000 in
theorem mX3_count_0 (l : Launch) (D : va_G) (cI cJ : ClassId) (b0 b1 b2 b3 b4 b5 b6 : Nat) (X : Mo)  : kCi l D cI cJ yX3_count (.code yX3_count cX3_count 2 (some .int)) { frames := 3, cells := 0, slots := 0, locals := 63 } [.ref b0, .int 0] (wM cI b0 b1 b2 b3 b4 b5 b6 X) (fX3_count_0 X).1 (wM cI b0 b1 b2 b3 b4 b5 b6 (fX3_count_0 X).2) := by
  refine fun sz => k_of (lv := [(0, .ref b0), (1, .int 0)]) (by decide) sz (by exact Nat.le_of_ble_eq_true rfl) rfl ?_
  intro p e s m args below meth c hsz C
  refine k_aload_n C dX3_count_0 0 rfl ?_
  refine k_iconst C 0 (by decide) dX3_count_1 ?_
  refine k_putX3 C [(b0, cM b1 b2 b3 b4 b5 b6 (0, X.2.2.2.2.2.2.2)), (b1, cA9 cI X.1), (b2, cA2 cI X.2.1), (b3, cA2 cI X.2.2.1), (b4, cA2 cI X.2.2.2.1), (b5, cA2 cI X.2.2.2.2.1), (b6, cA9 cI X.2.2.2.2.2.1)] 0 0 rfl rfl (by decide) q570 rfl rfl fdI rfl rfl (Nat.le_of_ble_eq_true rfl) dX3_count_2 ?_
  refine k_iload_n C dX3_count_5 1 rfl ?_
  refine k_iconst C 0 (by decide) dX3_count_6 ?_
  refine k_bipush C 8 (by decide) dX3_count_7 ?_
  refine k_callS_i C (mX3_isIn_k0_0_8 l D cI cJ) (va_cwS 3 C.2.2.2.2.1 (kGS q637 q638 q61 q639) rfl rfl rfl hdX3_isIn ⟨Nat.le_of_ble_eq_true rfl, Nat.le_of_ble_eq_true rfl⟩) [] [0, 1, 2, 3, 4, 5, 6] [0, 1, 2, 3, 4, 5, 6] [(b0, cM b1 b2 b3 b4 b5 b6 (0, X.2.2.2.2.2.2.2)), (b1, cA9 cI X.1), (b2, cA2 cI X.2.1), (b3, cA2 cI X.2.2.1), (b4, cA2 cI X.2.2.2.1), (b5, cA2 cI X.2.2.2.2.1), (b6, cA9 cI X.2.2.2.2.2.1)] ([(b0, cM b1 b2 b3 b4 b5 b6 (0, X.2.2.2.2.2.2.2)), (b1, cA9 cI X.1), (b2, cA2 cI X.2.1), (b3, cA2 cI X.2.2.1), (b4, cA2 cI X.2.2.2.1), (b5, cA2 cI X.2.2.2.2.1), (b6, cA9 cI X.2.2.2.2.2.1)]) rfl rfl rfl rfl (by decide) [] rfl rfl rfl rfl (Nat.le_of_ble_eq_true rfl) ⟨Nat.zero_le _, Nat.zero_le _⟩ rfl dX3_count_9 ?_
  refine k_if_eq C 23 (by decide) dX3_count_12 (fun h => absurd h (by decide)) (fun _ => ?_)
  refine k_aload_n C dX3_count_15 0 rfl ?_
  refine k_iload_n C dX3_count_16 1 rfl ?_
  refine k_callV_i C (mX3_counted_0 l D cI cJ b0 b1 b2 b3 b4 b5 b6 (X.1, X.2.1, X.2.2.1, X.2.2.2.1, X.2.2.2.2.1, X.2.2.2.2.2.1, 0, X.2.2.2.2.2.2.2)) (cwV 1 C.2.2.2.2.1 (kGV q759 q761 q52 q61 q762) rfl rfl rfl ⟨rfl, hdX3_counted⟩ ⟨Nat.le_of_ble_eq_true rfl, Nat.le_of_ble_eq_true rfl⟩) [0, 1, 2, 3, 4, 5, 6] [] [0, 1, 2, 3, 4, 5, 6] [] ([(b0, cM b1 b2 b3 b4 b5 b6 (0, X.2.2.2.2.2.2.2)), (b1, cA9 cI X.1), (b2, cA2 cI X.2.1), (b3, cA2 cI X.2.2.1), (b4, cA2 cI X.2.2.2.1), (b5, cA2 cI X.2.2.2.2.1), (b6, cA9 cI X.2.2.2.2.2.1)]) rfl rfl rfl rfl (by decide) [b0, b1, b2, b3, b4, b5, b6] rfl rfl rfl rfl 0 3 rfl rfl rfl (Nat.le_of_ble_eq_true rfl) ⟨Nat.zero_le _, Nat.zero_le _⟩ rfl dX3_count_17 ?_
  generalize er1 : fX3_counted_0 (X.1, X.2.1, X.2.2.1, X.2.2.2.1, X.2.2.2.2.1, X.2.2.2.2.2.1, 0, X.2.2.2.2.2.2.2) = r1
  refine k_goto C 28 (by decide) dX3_count_20 ?_
  have hL : fX3_count_0 X = (r1, (X.1, X.2.1, X.2.2.1, X.2.2.2.1, X.2.2.2.2.1, X.2.2.2.2.2.1, 0, X.2.2.2.2.2.2.2)) := by subst er1; exact rfl
  exact k_iret C rfl (by rw [hL]) (by rw [hL]) dX3_count_28

set_option maxHeartbeats 4000000 in
set_option maxRecDepth 100000 in
theorem mX3_isIn_k1_0_8 (l : Launch) (D : va_G) (cI cJ : ClassId)   : kCi l D cI cJ yX3_isIn (.code yX3_isIn cX3_isIn 3 (some .boolean)) { frames := 0, cells := 0, slots := 0, locals := 0 } [.int 1, .int 0, .int 8] [] (1) [] := by
  refine fun sz => k_of (lv := [(0, .int 1), (1, .int 0), (2, .int 8)]) (by decide) sz (by exact Nat.le_of_ble_eq_true rfl) rfl ?_
  intro p e s m args below meth c hsz C
  refine k_iload_n C dX3_isIn_0 0 rfl ?_
  refine k_iload_n C dX3_isIn_1 1 rfl ?_
  refine k_icmp_lt C 14 (by decide) dX3_isIn_2 (fun h => absurd h (by decide)) (fun _ => ?_)
  refine k_iload_n C dX3_isIn_5 0 rfl ?_
  refine k_iload_n C dX3_isIn_6 2 rfl ?_
  refine k_icmp_gt C 14 (by decide) dX3_isIn_7 (fun h => absurd h (by decide)) (fun _ => ?_)
  refine k_iconst C 1 (by decide) dX3_isIn_10 ?_
  refine k_goto C 15 (by decide) dX3_isIn_11 ?_
  exact k_zret C rfl rfl rfl rfl dX3_isIn_15

noncomputable def fX3_count_1 (X : Mo) : Int32 × Mo :=
  ((fX3_counted_1 (X.1, X.2.1, X.2.2.1, X.2.2.2.1, X.2.2.2.2.1, X.2.2.2.2.2.1, 0, X.2.2.2.2.2.2.2)), (X.1, X.2.1, X.2.2.1, X.2.2.2.1, X.2.2.2.2.1, X.2.2.2.2.2.1, 0, X.2.2.2.2.2.2.2))
set_option maxHeartbeats 4000000 in
set_option maxRecDepth 100000 in
theorem mX3_count_1 (l : Launch) (D : va_G) (cI cJ : ClassId) (b0 b1 b2 b3 b4 b5 b6 : Nat) (X : Mo)  : kCi l D cI cJ yX3_count (.code yX3_count cX3_count 2 (some .int)) { frames := 3, cells := 0, slots := 0, locals := 63 } [.ref b0, .int 1] (wM cI b0 b1 b2 b3 b4 b5 b6 X) (fX3_count_1 X).1 (wM cI b0 b1 b2 b3 b4 b5 b6 (fX3_count_1 X).2) := by
  refine fun sz => k_of (lv := [(0, .ref b0), (1, .int 1)]) (by decide) sz (by exact Nat.le_of_ble_eq_true rfl) rfl ?_
  intro p e s m args below meth c hsz C
  refine k_aload_n C dX3_count_0 0 rfl ?_
  refine k_iconst C 0 (by decide) dX3_count_1 ?_
  refine k_putX3 C [(b0, cM b1 b2 b3 b4 b5 b6 (0, X.2.2.2.2.2.2.2)), (b1, cA9 cI X.1), (b2, cA2 cI X.2.1), (b3, cA2 cI X.2.2.1), (b4, cA2 cI X.2.2.2.1), (b5, cA2 cI X.2.2.2.2.1), (b6, cA9 cI X.2.2.2.2.2.1)] 0 0 rfl rfl (by decide) q570 rfl rfl fdI rfl rfl (Nat.le_of_ble_eq_true rfl) dX3_count_2 ?_
  refine k_iload_n C dX3_count_5 1 rfl ?_
  refine k_iconst C 0 (by decide) dX3_count_6 ?_
  refine k_bipush C 8 (by decide) dX3_count_7 ?_
  refine k_callS_i C (mX3_isIn_k1_0_8 l D cI cJ) (va_cwS 3 C.2.2.2.2.1 (kGS q637 q638 q61 q639) rfl rfl rfl hdX3_isIn ⟨Nat.le_of_ble_eq_true rfl, Nat.le_of_ble_eq_true rfl⟩) [] [0, 1, 2, 3, 4, 5, 6] [0, 1, 2, 3, 4, 5, 6] [(b0, cM b1 b2 b3 b4 b5 b6 (0, X.2.2.2.2.2.2.2)), (b1, cA9 cI X.1), (b2, cA2 cI X.2.1), (b3, cA2 cI X.2.2.1), (b4, cA2 cI X.2.2.2.1), (b5, cA2 cI X.2.2.2.2.1), (b6, cA9 cI X.2.2.2.2.2.1)] ([(b0, cM b1 b2 b3 b4 b5 b6 (0, X.2.2.2.2.2.2.2)), (b1, cA9 cI X.1), (b2, cA2 cI X.2.1), (b3, cA2 cI X.2.2.1), (b4, cA2 cI X.2.2.2.1), (b5, cA2 cI X.2.2.2.2.1), (b6, cA9 cI X.2.2.2.2.2.1)]) rfl rfl rfl rfl (by decide) [] rfl rfl rfl rfl (Nat.le_of_ble_eq_true rfl) ⟨Nat.zero_le _, Nat.zero_le _⟩ rfl dX3_count_9 ?_
  refine k_if_eq C 23 (by decide) dX3_count_12 (fun h => absurd h (by decide)) (fun _ => ?_)
  refine k_aload_n C dX3_count_15 0 rfl ?_
  refine k_iload_n C dX3_count_16 1 rfl ?_
  refine k_callV_i C (mX3_counted_1 l D cI cJ b0 b1 b2 b3 b4 b5 b6 (X.1, X.2.1, X.2.2.1, X.2.2.2.1, X.2.2.2.2.1, X.2.2.2.2.2.1, 0, X.2.2.2.2.2.2.2)) (cwV 1 C.2.2.2.2.1 (kGV q759 q761 q52 q61 q762) rfl rfl rfl ⟨rfl, hdX3_counted⟩ ⟨Nat.le_of_ble_eq_true rfl, Nat.le_of_ble_eq_true rfl⟩) [0, 1, 2, 3, 4, 5, 6] [] [0, 1, 2, 3, 4, 5, 6] [] ([(b0, cM b1 b2 b3 b4 b5 b6 (0, X.2.2.2.2.2.2.2)), (b1, cA9 cI X.1), (b2, cA2 cI X.2.1), (b3, cA2 cI X.2.2.1), (b4, cA2 cI X.2.2.2.1), (b5, cA2 cI X.2.2.2.2.1), (b6, cA9 cI X.2.2.2.2.2.1)]) rfl rfl rfl rfl (by decide) [b0, b1, b2, b3, b4, b5, b6] rfl rfl rfl rfl 0 3 rfl rfl rfl (Nat.le_of_ble_eq_true rfl) ⟨Nat.zero_le _, Nat.zero_le _⟩ rfl dX3_count_17 ?_
  generalize er1 : fX3_counted_1 (X.1, X.2.1, X.2.2.1, X.2.2.2.1, X.2.2.2.2.1, X.2.2.2.2.2.1, 0, X.2.2.2.2.2.2.2) = r1
  refine k_goto C 28 (by decide) dX3_count_20 ?_
  have hL : fX3_count_1 X = (r1, (X.1, X.2.1, X.2.2.1, X.2.2.2.1, X.2.2.2.2.1, X.2.2.2.2.2.1, 0, X.2.2.2.2.2.2.2)) := by subst er1; exact rfl
  exact k_iret C rfl (by rw [hL]) (by rw [hL]) dX3_count_28

set_option maxHeartbeats 4000000 in
set_option maxRecDepth 100000 in
theorem mX3_isIn_k2_0_8 (l : Launch) (D : va_G) (cI cJ : ClassId)   : kCi l D cI cJ yX3_isIn (.code yX3_isIn cX3_isIn 3 (some .boolean)) { frames := 0, cells := 0, slots := 0, locals := 0 } [.int 2, .int 0, .int 8] [] (1) [] := by
  refine fun sz => k_of (lv := [(0, .int 2), (1, .int 0), (2, .int 8)]) (by decide) sz (by exact Nat.le_of_ble_eq_true rfl) rfl ?_
  intro p e s m args below meth c hsz C
  refine k_iload_n C dX3_isIn_0 0 rfl ?_
  refine k_iload_n C dX3_isIn_1 1 rfl ?_
  refine k_icmp_lt C 14 (by decide) dX3_isIn_2 (fun h => absurd h (by decide)) (fun _ => ?_)
  refine k_iload_n C dX3_isIn_5 0 rfl ?_
  refine k_iload_n C dX3_isIn_6 2 rfl ?_
  refine k_icmp_gt C 14 (by decide) dX3_isIn_7 (fun h => absurd h (by decide)) (fun _ => ?_)
  refine k_iconst C 1 (by decide) dX3_isIn_10 ?_
  refine k_goto C 15 (by decide) dX3_isIn_11 ?_
  exact k_zret C rfl rfl rfl rfl dX3_isIn_15

noncomputable def fX3_count_2 (X : Mo) : Int32 × Mo :=
  ((fX3_counted_2 (X.1, X.2.1, X.2.2.1, X.2.2.2.1, X.2.2.2.2.1, X.2.2.2.2.2.1, 0, X.2.2.2.2.2.2.2)), (X.1, X.2.1, X.2.2.1, X.2.2.2.1, X.2.2.2.2.1, X.2.2.2.2.2.1, 0, X.2.2.2.2.2.2.2))
set_option maxHeartbeats 4000000 in
set_option maxRecDepth 100000 in
theorem mX3_count_2 (l : Launch) (D : va_G) (cI cJ : ClassId) (b0 b1 b2 b3 b4 b5 b6 : Nat) (X : Mo)  : kCi l D cI cJ yX3_count (.code yX3_count cX3_count 2 (some .int)) { frames := 3, cells := 0, slots := 0, locals := 63 } [.ref b0, .int 2] (wM cI b0 b1 b2 b3 b4 b5 b6 X) (fX3_count_2 X).1 (wM cI b0 b1 b2 b3 b4 b5 b6 (fX3_count_2 X).2) := by
  refine fun sz => k_of (lv := [(0, .ref b0), (1, .int 2)]) (by decide) sz (by exact Nat.le_of_ble_eq_true rfl) rfl ?_
  intro p e s m args below meth c hsz C
  refine k_aload_n C dX3_count_0 0 rfl ?_
  refine k_iconst C 0 (by decide) dX3_count_1 ?_
  refine k_putX3 C [(b0, cM b1 b2 b3 b4 b5 b6 (0, X.2.2.2.2.2.2.2)), (b1, cA9 cI X.1), (b2, cA2 cI X.2.1), (b3, cA2 cI X.2.2.1), (b4, cA2 cI X.2.2.2.1), (b5, cA2 cI X.2.2.2.2.1), (b6, cA9 cI X.2.2.2.2.2.1)] 0 0 rfl rfl (by decide) q570 rfl rfl fdI rfl rfl (Nat.le_of_ble_eq_true rfl) dX3_count_2 ?_
  refine k_iload_n C dX3_count_5 1 rfl ?_
  refine k_iconst C 0 (by decide) dX3_count_6 ?_
  refine k_bipush C 8 (by decide) dX3_count_7 ?_
  refine k_callS_i C (mX3_isIn_k2_0_8 l D cI cJ) (va_cwS 3 C.2.2.2.2.1 (kGS q637 q638 q61 q639) rfl rfl rfl hdX3_isIn ⟨Nat.le_of_ble_eq_true rfl, Nat.le_of_ble_eq_true rfl⟩) [] [0, 1, 2, 3, 4, 5, 6] [0, 1, 2, 3, 4, 5, 6] [(b0, cM b1 b2 b3 b4 b5 b6 (0, X.2.2.2.2.2.2.2)), (b1, cA9 cI X.1), (b2, cA2 cI X.2.1), (b3, cA2 cI X.2.2.1), (b4, cA2 cI X.2.2.2.1), (b5, cA2 cI X.2.2.2.2.1), (b6, cA9 cI X.2.2.2.2.2.1)] ([(b0, cM b1 b2 b3 b4 b5 b6 (0, X.2.2.2.2.2.2.2)), (b1, cA9 cI X.1), (b2, cA2 cI X.2.1), (b3, cA2 cI X.2.2.1), (b4, cA2 cI X.2.2.2.1), (b5, cA2 cI X.2.2.2.2.1), (b6, cA9 cI X.2.2.2.2.2.1)]) rfl rfl rfl rfl (by decide) [] rfl rfl rfl rfl (Nat.le_of_ble_eq_true rfl) ⟨Nat.zero_le _, Nat.zero_le _⟩ rfl dX3_count_9 ?_
  refine k_if_eq C 23 (by decide) dX3_count_12 (fun h => absurd h (by decide)) (fun _ => ?_)
  refine k_aload_n C dX3_count_15 0 rfl ?_
  refine k_iload_n C dX3_count_16 1 rfl ?_
  refine k_callV_i C (mX3_counted_2 l D cI cJ b0 b1 b2 b3 b4 b5 b6 (X.1, X.2.1, X.2.2.1, X.2.2.2.1, X.2.2.2.2.1, X.2.2.2.2.2.1, 0, X.2.2.2.2.2.2.2)) (cwV 1 C.2.2.2.2.1 (kGV q759 q761 q52 q61 q762) rfl rfl rfl ⟨rfl, hdX3_counted⟩ ⟨Nat.le_of_ble_eq_true rfl, Nat.le_of_ble_eq_true rfl⟩) [0, 1, 2, 3, 4, 5, 6] [] [0, 1, 2, 3, 4, 5, 6] [] ([(b0, cM b1 b2 b3 b4 b5 b6 (0, X.2.2.2.2.2.2.2)), (b1, cA9 cI X.1), (b2, cA2 cI X.2.1), (b3, cA2 cI X.2.2.1), (b4, cA2 cI X.2.2.2.1), (b5, cA2 cI X.2.2.2.2.1), (b6, cA9 cI X.2.2.2.2.2.1)]) rfl rfl rfl rfl (by decide) [b0, b1, b2, b3, b4, b5, b6] rfl rfl rfl rfl 0 3 rfl rfl rfl (Nat.le_of_ble_eq_true rfl) ⟨Nat.zero_le _, Nat.zero_le _⟩ rfl dX3_count_17 ?_
  generalize er1 : fX3_counted_2 (X.1, X.2.1, X.2.2.1, X.2.2.2.1, X.2.2.2.2.1, X.2.2.2.2.2.1, 0, X.2.2.2.2.2.2.2) = r1
  refine k_goto C 28 (by decide) dX3_count_20 ?_
  have hL : fX3_count_2 X = (r1, (X.1, X.2.1, X.2.2.1, X.2.2.2.1, X.2.2.2.2.1, X.2.2.2.2.2.1, 0, X.2.2.2.2.2.2.2)) := by subst er1; exact rfl
  exact k_iret C rfl (by rw [hL]) (by rw [hL]) dX3_count_28

set_option maxHeartbeats 4000000 in
set_option maxRecDepth 100000 in
theorem mX3_isIn_k3_0_8 (l : Launch) (D : va_G) (cI cJ : ClassId)   : kCi l D cI cJ yX3_isIn (.code yX3_isIn cX3_isIn 3 (some .boolean)) { frames := 0, cells := 0, slots := 0, locals := 0 } [.int 3, .int 0, .int 8] [] (1) [] := by
  refine fun sz => k_of (lv := [(0, .int 3), (1, .int 0), (2, .int 8)]) (by decide) sz (by exact Nat.le_of_ble_eq_true rfl) rfl ?_
  intro p e s m args below meth c hsz C
  refine k_iload_n C dX3_isIn_0 0 rfl ?_
  refine k_iload_n C dX3_isIn_1 1 rfl ?_
  refine k_icmp_lt C 14 (by decide) dX3_isIn_2 (fun h => absurd h (by decide)) (fun _ => ?_)
  refine k_iload_n C dX3_isIn_5 0 rfl ?_
  refine k_iload_n C dX3_isIn_6 2 rfl ?_
  refine k_icmp_gt C 14 (by decide) dX3_isIn_7 (fun h => absurd h (by decide)) (fun _ => ?_)
  refine k_iconst C 1 (by decide) dX3_isIn_10 ?_
  refine k_goto C 15 (by decide) dX3_isIn_11 ?_
  exact k_zret C rfl rfl rfl rfl dX3_isIn_15

noncomputable def fX3_count_3 (X : Mo) : Int32 × Mo :=
  ((fX3_counted_3 (X.1, X.2.1, X.2.2.1, X.2.2.2.1, X.2.2.2.2.1, X.2.2.2.2.2.1, 0, X.2.2.2.2.2.2.2)), (X.1, X.2.1, X.2.2.1, X.2.2.2.1, X.2.2.2.2.1, X.2.2.2.2.2.1, 0, X.2.2.2.2.2.2.2))
set_option maxHeartbeats 4000000 in
set_option maxRecDepth 100000 in
theorem mX3_count_3 (l : Launch) (D : va_G) (cI cJ : ClassId) (b0 b1 b2 b3 b4 b5 b6 : Nat) (X : Mo)  : kCi l D cI cJ yX3_count (.code yX3_count cX3_count 2 (some .int)) { frames := 3, cells := 0, slots := 0, locals := 63 } [.ref b0, .int 3] (wM cI b0 b1 b2 b3 b4 b5 b6 X) (fX3_count_3 X).1 (wM cI b0 b1 b2 b3 b4 b5 b6 (fX3_count_3 X).2) := by
  refine fun sz => k_of (lv := [(0, .ref b0), (1, .int 3)]) (by decide) sz (by exact Nat.le_of_ble_eq_true rfl) rfl ?_
  intro p e s m args below meth c hsz C
  refine k_aload_n C dX3_count_0 0 rfl ?_
  refine k_iconst C 0 (by decide) dX3_count_1 ?_
  refine k_putX3 C [(b0, cM b1 b2 b3 b4 b5 b6 (0, X.2.2.2.2.2.2.2)), (b1, cA9 cI X.1), (b2, cA2 cI X.2.1), (b3, cA2 cI X.2.2.1), (b4, cA2 cI X.2.2.2.1), (b5, cA2 cI X.2.2.2.2.1), (b6, cA9 cI X.2.2.2.2.2.1)] 0 0 rfl rfl (by decide) q570 rfl rfl fdI rfl rfl (Nat.le_of_ble_eq_true rfl) dX3_count_2 ?_
  refine k_iload_n C dX3_count_5 1 rfl ?_
  refine k_iconst C 0 (by decide) dX3_count_6 ?_
  refine k_bipush C 8 (by decide) dX3_count_7 ?_
  refine k_callS_i C (mX3_isIn_k3_0_8 l D cI cJ) (va_cwS 3 C.2.2.2.2.1 (kGS q637 q638 q61 q639) rfl rfl rfl hdX3_isIn ⟨Nat.le_of_ble_eq_true rfl, Nat.le_of_ble_eq_true rfl⟩) [] [0, 1, 2, 3, 4, 5, 6] [0, 1, 2, 3, 4, 5, 6] [(b0, cM b1 b2 b3 b4 b5 b6 (0, X.2.2.2.2.2.2.2)), (b1, cA9 cI X.1), (b2, cA2 cI X.2.1), (b3, cA2 cI X.2.2.1), (b4, cA2 cI X.2.2.2.1), (b5, cA2 cI X.2.2.2.2.1), (b6, cA9 cI X.2.2.2.2.2.1)] ([(b0, cM b1 b2 b3 b4 b5 b6 (0, X.2.2.2.2.2.2.2)), (b1, cA9 cI X.1), (b2, cA2 cI X.2.1), (b3, cA2 cI X.2.2.1), (b4, cA2 cI X.2.2.2.1), (b5, cA2 cI X.2.2.2.2.1), (b6, cA9 cI X.2.2.2.2.2.1)]) rfl rfl rfl rfl (by decide) [] rfl rfl rfl rfl (Nat.le_of_ble_eq_true rfl) ⟨Nat.zero_le _, Nat.zero_le _⟩ rfl dX3_count_9 ?_
  refine k_if_eq C 23 (by decide) dX3_count_12 (fun h => absurd h (by decide)) (fun _ => ?_)
  refine k_aload_n C dX3_count_15 0 rfl ?_
  refine k_iload_n C dX3_count_16 1 rfl ?_
  refine k_callV_i C (mX3_counted_3 l D cI cJ b0 b1 b2 b3 b4 b5 b6 (X.1, X.2.1, X.2.2.1, X.2.2.2.1, X.2.2.2.2.1, X.2.2.2.2.2.1, 0, X.2.2.2.2.2.2.2)) (cwV 1 C.2.2.2.2.1 (kGV q759 q761 q52 q61 q762) rfl rfl rfl ⟨rfl, hdX3_counted⟩ ⟨Nat.le_of_ble_eq_true rfl, Nat.le_of_ble_eq_true rfl⟩) [0, 1, 2, 3, 4, 5, 6] [] [0, 1, 2, 3, 4, 5, 6] [] ([(b0, cM b1 b2 b3 b4 b5 b6 (0, X.2.2.2.2.2.2.2)), (b1, cA9 cI X.1), (b2, cA2 cI X.2.1), (b3, cA2 cI X.2.2.1), (b4, cA2 cI X.2.2.2.1), (b5, cA2 cI X.2.2.2.2.1), (b6, cA9 cI X.2.2.2.2.2.1)]) rfl rfl rfl rfl (by decide) [b0, b1, b2, b3, b4, b5, b6] rfl rfl rfl rfl 0 3 rfl rfl rfl (Nat.le_of_ble_eq_true rfl) ⟨Nat.zero_le _, Nat.zero_le _⟩ rfl dX3_count_17 ?_
  generalize er1 : fX3_counted_3 (X.1, X.2.1, X.2.2.1, X.2.2.2.1, X.2.2.2.2.1, X.2.2.2.2.2.1, 0, X.2.2.2.2.2.2.2) = r1
  refine k_goto C 28 (by decide) dX3_count_20 ?_
  have hL : fX3_count_3 X = (r1, (X.1, X.2.1, X.2.2.1, X.2.2.2.1, X.2.2.2.2.1, X.2.2.2.2.2.1, 0, X.2.2.2.2.2.2.2)) := by subst er1; exact rfl
  exact k_iret C rfl (by rw [hL]) (by rw [hL]) dX3_count_28

set_option maxHeartbeats 4000000 in
set_option maxRecDepth 100000 in
theorem mX3_isIn_k4_0_8 (l : Launch) (D : va_G) (cI cJ : ClassId)   : kCi l D cI cJ yX3_isIn (.code yX3_isIn cX3_isIn 3 (some .boolean)) { frames := 0, cells := 0, slots := 0, locals := 0 } [.int 4, .int 0, .int 8] [] (1) [] := by
  refine fun sz => k_of (lv := [(0, .int 4), (1, .int 0), (2, .int 8)]) (by decide) sz (by exact Nat.le_of_ble_eq_true rfl) rfl ?_
  intro p e s m args below meth c hsz C
  refine k_iload_n C dX3_isIn_0 0 rfl ?_
  refine k_iload_n C dX3_isIn_1 1 rfl ?_
  refine k_icmp_lt C 14 (by decide) dX3_isIn_2 (fun h => absurd h (by decide)) (fun _ => ?_)
  refine k_iload_n C dX3_isIn_5 0 rfl ?_
  refine k_iload_n C dX3_isIn_6 2 rfl ?_
  refine k_icmp_gt C 14 (by decide) dX3_isIn_7 (fun h => absurd h (by decide)) (fun _ => ?_)
  refine k_iconst C 1 (by decide) dX3_isIn_10 ?_
  refine k_goto C 15 (by decide) dX3_isIn_11 ?_
  exact k_zret C rfl rfl rfl rfl dX3_isIn_15

noncomputable def fX3_count_4 (X : Mo) : Int32 × Mo :=
  ((fX3_counted_4 (X.1, X.2.1, X.2.2.1, X.2.2.2.1, X.2.2.2.2.1, X.2.2.2.2.2.1, 0, X.2.2.2.2.2.2.2)), (X.1, X.2.1, X.2.2.1, X.2.2.2.1, X.2.2.2.2.1, X.2.2.2.2.2.1, 0, X.2.2.2.2.2.2.2))
set_option maxHeartbeats 4000000 in
set_option maxRecDepth 100000 in
theorem mX3_count_4 (l : Launch) (D : va_G) (cI cJ : ClassId) (b0 b1 b2 b3 b4 b5 b6 : Nat) (X : Mo)  : kCi l D cI cJ yX3_count (.code yX3_count cX3_count 2 (some .int)) { frames := 3, cells := 0, slots := 0, locals := 63 } [.ref b0, .int 4] (wM cI b0 b1 b2 b3 b4 b5 b6 X) (fX3_count_4 X).1 (wM cI b0 b1 b2 b3 b4 b5 b6 (fX3_count_4 X).2) := by
  refine fun sz => k_of (lv := [(0, .ref b0), (1, .int 4)]) (by decide) sz (by exact Nat.le_of_ble_eq_true rfl) rfl ?_
  intro p e s m args below meth c hsz C
  refine k_aload_n C dX3_count_0 0 rfl ?_
  refine k_iconst C 0 (by decide) dX3_count_1 ?_
  refine k_putX3 C [(b0, cM b1 b2 b3 b4 b5 b6 (0, X.2.2.2.2.2.2.2)), (b1, cA9 cI X.1), (b2, cA2 cI X.2.1), (b3, cA2 cI X.2.2.1), (b4, cA2 cI X.2.2.2.1), (b5, cA2 cI X.2.2.2.2.1), (b6, cA9 cI X.2.2.2.2.2.1)] 0 0 rfl rfl (by decide) q570 rfl rfl fdI rfl rfl (Nat.le_of_ble_eq_true rfl) dX3_count_2 ?_
  refine k_iload_n C dX3_count_5 1 rfl ?_
  refine k_iconst C 0 (by decide) dX3_count_6 ?_
  refine k_bipush C 8 (by decide) dX3_count_7 ?_
  refine k_callS_i C (mX3_isIn_k4_0_8 l D cI cJ) (va_cwS 3 C.2.2.2.2.1 (kGS q637 q638 q61 q639) rfl rfl rfl hdX3_isIn ⟨Nat.le_of_ble_eq_true rfl, Nat.le_of_ble_eq_true rfl⟩) [] [0, 1, 2, 3, 4, 5, 6] [0, 1, 2, 3, 4, 5, 6] [(b0, cM b1 b2 b3 b4 b5 b6 (0, X.2.2.2.2.2.2.2)), (b1, cA9 cI X.1), (b2, cA2 cI X.2.1), (b3, cA2 cI X.2.2.1), (b4, cA2 cI X.2.2.2.1), (b5, cA2 cI X.2.2.2.2.1), (b6, cA9 cI X.2.2.2.2.2.1)] ([(b0, cM b1 b2 b3 b4 b5 b6 (0, X.2.2.2.2.2.2.2)), (b1, cA9 cI X.1), (b2, cA2 cI X.2.1), (b3, cA2 cI X.2.2.1), (b4, cA2 cI X.2.2.2.1), (b5, cA2 cI X.2.2.2.2.1), (b6, cA9 cI X.2.2.2.2.2.1)]) rfl rfl rfl rfl (by decide) [] rfl rfl rfl rfl (Nat.le_of_ble_eq_true rfl) ⟨Nat.zero_le _, Nat.zero_le _⟩ rfl dX3_count_9 ?_
  refine k_if_eq C 23 (by decide) dX3_count_12 (fun h => absurd h (by decide)) (fun _ => ?_)
  refine k_aload_n C dX3_count_15 0 rfl ?_
  refine k_iload_n C dX3_count_16 1 rfl ?_
  refine k_callV_i C (mX3_counted_4 l D cI cJ b0 b1 b2 b3 b4 b5 b6 (X.1, X.2.1, X.2.2.1, X.2.2.2.1, X.2.2.2.2.1, X.2.2.2.2.2.1, 0, X.2.2.2.2.2.2.2)) (cwV 1 C.2.2.2.2.1 (kGV q759 q761 q52 q61 q762) rfl rfl rfl ⟨rfl, hdX3_counted⟩ ⟨Nat.le_of_ble_eq_true rfl, Nat.le_of_ble_eq_true rfl⟩) [0, 1, 2, 3, 4, 5, 6] [] [0, 1, 2, 3, 4, 5, 6] [] ([(b0, cM b1 b2 b3 b4 b5 b6 (0, X.2.2.2.2.2.2.2)), (b1, cA9 cI X.1), (b2, cA2 cI X.2.1), (b3, cA2 cI X.2.2.1), (b4, cA2 cI X.2.2.2.1), (b5, cA2 cI X.2.2.2.2.1), (b6, cA9 cI X.2.2.2.2.2.1)]) rfl rfl rfl rfl (by decide) [b0, b1, b2, b3, b4, b5, b6] rfl rfl rfl rfl 0 3 rfl rfl rfl (Nat.le_of_ble_eq_true rfl) ⟨Nat.zero_le _, Nat.zero_le _⟩ rfl dX3_count_17 ?_
  generalize er1 : fX3_counted_4 (X.1, X.2.1, X.2.2.1, X.2.2.2.1, X.2.2.2.2.1, X.2.2.2.2.2.1, 0, X.2.2.2.2.2.2.2) = r1
  refine k_goto C 28 (by decide) dX3_count_20 ?_
  have hL : fX3_count_4 X = (r1, (X.1, X.2.1, X.2.2.1, X.2.2.2.1, X.2.2.2.2.1, X.2.2.2.2.2.1, 0, X.2.2.2.2.2.2.2)) := by subst er1; exact rfl
  exact k_iret C rfl (by rw [hL]) (by rw [hL]) dX3_count_28

set_option maxHeartbeats 4000000 in
set_option maxRecDepth 100000 in
theorem mX3_isIn_k5_0_8 (l : Launch) (D : va_G) (cI cJ : ClassId)   : kCi l D cI cJ yX3_isIn (.code yX3_isIn cX3_isIn 3 (some .boolean)) { frames := 0, cells := 0, slots := 0, locals := 0 } [.int 5, .int 0, .int 8] [] (1) [] := by
  refine fun sz => k_of (lv := [(0, .int 5), (1, .int 0), (2, .int 8)]) (by decide) sz (by exact Nat.le_of_ble_eq_true rfl) rfl ?_
  intro p e s m args below meth c hsz C
  refine k_iload_n C dX3_isIn_0 0 rfl ?_
  refine k_iload_n C dX3_isIn_1 1 rfl ?_
  refine k_icmp_lt C 14 (by decide) dX3_isIn_2 (fun h => absurd h (by decide)) (fun _ => ?_)
  refine k_iload_n C dX3_isIn_5 0 rfl ?_
  refine k_iload_n C dX3_isIn_6 2 rfl ?_
  refine k_icmp_gt C 14 (by decide) dX3_isIn_7 (fun h => absurd h (by decide)) (fun _ => ?_)
  refine k_iconst C 1 (by decide) dX3_isIn_10 ?_
  refine k_goto C 15 (by decide) dX3_isIn_11 ?_
  exact k_zret C rfl rfl rfl rfl dX3_isIn_15

noncomputable def fX3_count_5 (X : Mo) : Int32 × Mo :=
  ((fX3_counted_5 (X.1, X.2.1, X.2.2.1, X.2.2.2.1, X.2.2.2.2.1, X.2.2.2.2.2.1, 0, X.2.2.2.2.2.2.2)), (X.1, X.2.1, X.2.2.1, X.2.2.2.1, X.2.2.2.2.1, X.2.2.2.2.2.1, 0, X.2.2.2.2.2.2.2))
set_option maxHeartbeats 4000000 in
set_option maxRecDepth 100000 in
theorem mX3_count_5 (l : Launch) (D : va_G) (cI cJ : ClassId) (b0 b1 b2 b3 b4 b5 b6 : Nat) (X : Mo)  : kCi l D cI cJ yX3_count (.code yX3_count cX3_count 2 (some .int)) { frames := 3, cells := 0, slots := 0, locals := 63 } [.ref b0, .int 5] (wM cI b0 b1 b2 b3 b4 b5 b6 X) (fX3_count_5 X).1 (wM cI b0 b1 b2 b3 b4 b5 b6 (fX3_count_5 X).2) := by
  refine fun sz => k_of (lv := [(0, .ref b0), (1, .int 5)]) (by decide) sz (by exact Nat.le_of_ble_eq_true rfl) rfl ?_
  intro p e s m args below meth c hsz C
  refine k_aload_n C dX3_count_0 0 rfl ?_
  refine k_iconst C 0 (by decide) dX3_count_1 ?_
  refine k_putX3 C [(b0, cM b1 b2 b3 b4 b5 b6 (0, X.2.2.2.2.2.2.2)), (b1, cA9 cI X.1), (b2, cA2 cI X.2.1), (b3, cA2 cI X.2.2.1), (b4, cA2 cI X.2.2.2.1), (b5, cA2 cI X.2.2.2.2.1), (b6, cA9 cI X.2.2.2.2.2.1)] 0 0 rfl rfl (by decide) q570 rfl rfl fdI rfl rfl (Nat.le_of_ble_eq_true rfl) dX3_count_2 ?_
  refine k_iload_n C dX3_count_5 1 rfl ?_
  refine k_iconst C 0 (by decide) dX3_count_6 ?_
  refine k_bipush C 8 (by decide) dX3_count_7 ?_
  refine k_callS_i C (mX3_isIn_k5_0_8 l D cI cJ) (va_cwS 3 C.2.2.2.2.1 (kGS q637 q638 q61 q639) rfl rfl rfl hdX3_isIn ⟨Nat.le_of_ble_eq_true rfl, Nat.le_of_ble_eq_true rfl⟩) [] [0, 1, 2, 3, 4, 5, 6] [0, 1, 2, 3, 4, 5, 6] [(b0, cM b1 b2 b3 b4 b5 b6 (0, X.2.2.2.2.2.2.2)), (b1, cA9 cI X.1), (b2, cA2 cI X.2.1), (b3, cA2 cI X.2.2.1), (b4, cA2 cI X.2.2.2.1), (b5, cA2 cI X.2.2.2.2.1), (b6, cA9 cI X.2.2.2.2.2.1)] ([(b0, cM b1 b2 b3 b4 b5 b6 (0, X.2.2.2.2.2.2.2)), (b1, cA9 cI X.1), (b2, cA2 cI X.2.1), (b3, cA2 cI X.2.2.1), (b4, cA2 cI X.2.2.2.1), (b5, cA2 cI X.2.2.2.2.1), (b6, cA9 cI X.2.2.2.2.2.1)]) rfl rfl rfl rfl (by decide) [] rfl rfl rfl rfl (Nat.le_of_ble_eq_true rfl) ⟨Nat.zero_le _, Nat.zero_le _⟩ rfl dX3_count_9 ?_
  refine k_if_eq C 23 (by decide) dX3_count_12 (fun h => absurd h (by decide)) (fun _ => ?_)
  refine k_aload_n C dX3_count_15 0 rfl ?_
  refine k_iload_n C dX3_count_16 1 rfl ?_
  refine k_callV_i C (mX3_counted_5 l D cI cJ b0 b1 b2 b3 b4 b5 b6 (X.1, X.2.1, X.2.2.1, X.2.2.2.1, X.2.2.2.2.1, X.2.2.2.2.2.1, 0, X.2.2.2.2.2.2.2)) (cwV 1 C.2.2.2.2.1 (kGV q759 q761 q52 q61 q762) rfl rfl rfl ⟨rfl, hdX3_counted⟩ ⟨Nat.le_of_ble_eq_true rfl, Nat.le_of_ble_eq_true rfl⟩) [0, 1, 2, 3, 4, 5, 6] [] [0, 1, 2, 3, 4, 5, 6] [] ([(b0, cM b1 b2 b3 b4 b5 b6 (0, X.2.2.2.2.2.2.2)), (b1, cA9 cI X.1), (b2, cA2 cI X.2.1), (b3, cA2 cI X.2.2.1), (b4, cA2 cI X.2.2.2.1), (b5, cA2 cI X.2.2.2.2.1), (b6, cA9 cI X.2.2.2.2.2.1)]) rfl rfl rfl rfl (by decide) [b0, b1, b2, b3, b4, b5, b6] rfl rfl rfl rfl 0 3 rfl rfl rfl (Nat.le_of_ble_eq_true rfl) ⟨Nat.zero_le _, Nat.zero_le _⟩ rfl dX3_count_17 ?_
  generalize er1 : fX3_counted_5 (X.1, X.2.1, X.2.2.1, X.2.2.2.1, X.2.2.2.2.1, X.2.2.2.2.2.1, 0, X.2.2.2.2.2.2.2) = r1
  refine k_goto C 28 (by decide) dX3_count_20 ?_
  have hL : fX3_count_5 X = (r1, (X.1, X.2.1, X.2.2.1, X.2.2.2.1, X.2.2.2.2.1, X.2.2.2.2.2.1, 0, X.2.2.2.2.2.2.2)) := by subst er1; exact rfl
  exact k_iret C rfl (by rw [hL]) (by rw [hL]) dX3_count_28

set_option maxHeartbeats 4000000 in
set_option maxRecDepth 100000 in
theorem mX3_isIn_k6_0_8 (l : Launch) (D : va_G) (cI cJ : ClassId)   : kCi l D cI cJ yX3_isIn (.code yX3_isIn cX3_isIn 3 (some .boolean)) { frames := 0, cells := 0, slots := 0, locals := 0 } [.int 6, .int 0, .int 8] [] (1) [] := by
  refine fun sz => k_of (lv := [(0, .int 6), (1, .int 0), (2, .int 8)]) (by decide) sz (by exact Nat.le_of_ble_eq_true rfl) rfl ?_
  intro p e s m args below meth c hsz C
  refine k_iload_n C dX3_isIn_0 0 rfl ?_
  refine k_iload_n C dX3_isIn_1 1 rfl ?_
  refine k_icmp_lt C 14 (by decide) dX3_isIn_2 (fun h => absurd h (by decide)) (fun _ => ?_)
  refine k_iload_n C dX3_isIn_5 0 rfl ?_
  refine k_iload_n C dX3_isIn_6 2 rfl ?_
  refine k_icmp_gt C 14 (by decide) dX3_isIn_7 (fun h => absurd h (by decide)) (fun _ => ?_)
  refine k_iconst C 1 (by decide) dX3_isIn_10 ?_
  refine k_goto C 15 (by decide) dX3_isIn_11 ?_
  exact k_zret C rfl rfl rfl rfl dX3_isIn_15

noncomputable def fX3_count_6 (X : Mo) : Int32 × Mo :=
  ((fX3_counted_6 (X.1, X.2.1, X.2.2.1, X.2.2.2.1, X.2.2.2.2.1, X.2.2.2.2.2.1, 0, X.2.2.2.2.2.2.2)), (X.1, X.2.1, X.2.2.1, X.2.2.2.1, X.2.2.2.2.1, X.2.2.2.2.2.1, 0, X.2.2.2.2.2.2.2))
set_option maxHeartbeats 4000000 in
set_option maxRecDepth 100000 in
theorem mX3_count_6 (l : Launch) (D : va_G) (cI cJ : ClassId) (b0 b1 b2 b3 b4 b5 b6 : Nat) (X : Mo)  : kCi l D cI cJ yX3_count (.code yX3_count cX3_count 2 (some .int)) { frames := 3, cells := 0, slots := 0, locals := 63 } [.ref b0, .int 6] (wM cI b0 b1 b2 b3 b4 b5 b6 X) (fX3_count_6 X).1 (wM cI b0 b1 b2 b3 b4 b5 b6 (fX3_count_6 X).2) := by
  refine fun sz => k_of (lv := [(0, .ref b0), (1, .int 6)]) (by decide) sz (by exact Nat.le_of_ble_eq_true rfl) rfl ?_
  intro p e s m args below meth c hsz C
  refine k_aload_n C dX3_count_0 0 rfl ?_
  refine k_iconst C 0 (by decide) dX3_count_1 ?_
  refine k_putX3 C [(b0, cM b1 b2 b3 b4 b5 b6 (0, X.2.2.2.2.2.2.2)), (b1, cA9 cI X.1), (b2, cA2 cI X.2.1), (b3, cA2 cI X.2.2.1), (b4, cA2 cI X.2.2.2.1), (b5, cA2 cI X.2.2.2.2.1), (b6, cA9 cI X.2.2.2.2.2.1)] 0 0 rfl rfl (by decide) q570 rfl rfl fdI rfl rfl (Nat.le_of_ble_eq_true rfl) dX3_count_2 ?_
  refine k_iload_n C dX3_count_5 1 rfl ?_
  refine k_iconst C 0 (by decide) dX3_count_6 ?_
  refine k_bipush C 8 (by decide) dX3_count_7 ?_
  refine k_callS_i C (mX3_isIn_k6_0_8 l D cI cJ) (va_cwS 3 C.2.2.2.2.1 (kGS q637 q638 q61 q639) rfl rfl rfl hdX3_isIn ⟨Nat.le_of_ble_eq_true rfl, Nat.le_of_ble_eq_true rfl⟩) [] [0, 1, 2, 3, 4, 5, 6] [0, 1, 2, 3, 4, 5, 6] [(b0, cM b1 b2 b3 b4 b5 b6 (0, X.2.2.2.2.2.2.2)), (b1, cA9 cI X.1), (b2, cA2 cI X.2.1), (b3, cA2 cI X.2.2.1), (b4, cA2 cI X.2.2.2.1), (b5, cA2 cI X.2.2.2.2.1), (b6, cA9 cI X.2.2.2.2.2.1)] ([(b0, cM b1 b2 b3 b4 b5 b6 (0, X.2.2.2.2.2.2.2)), (b1, cA9 cI X.1), (b2, cA2 cI X.2.1), (b3, cA2 cI X.2.2.1), (b4, cA2 cI X.2.2.2.1), (b5, cA2 cI X.2.2.2.2.1), (b6, cA9 cI X.2.2.2.2.2.1)]) rfl rfl rfl rfl (by decide) [] rfl rfl rfl rfl (Nat.le_of_ble_eq_true rfl) ⟨Nat.zero_le _, Nat.zero_le _⟩ rfl dX3_count_9 ?_
  refine k_if_eq C 23 (by decide) dX3_count_12 (fun h => absurd h (by decide)) (fun _ => ?_)
  refine k_aload_n C dX3_count_15 0 rfl ?_
  refine k_iload_n C dX3_count_16 1 rfl ?_
  refine k_callV_i C (mX3_counted_6 l D cI cJ b0 b1 b2 b3 b4 b5 b6 (X.1, X.2.1, X.2.2.1, X.2.2.2.1, X.2.2.2.2.1, X.2.2.2.2.2.1, 0, X.2.2.2.2.2.2.2)) (cwV 1 C.2.2.2.2.1 (kGV q759 q761 q52 q61 q762) rfl rfl rfl ⟨rfl, hdX3_counted⟩ ⟨Nat.le_of_ble_eq_true rfl, Nat.le_of_ble_eq_true rfl⟩) [0, 1, 2, 3, 4, 5, 6] [] [0, 1, 2, 3, 4, 5, 6] [] ([(b0, cM b1 b2 b3 b4 b5 b6 (0, X.2.2.2.2.2.2.2)), (b1, cA9 cI X.1), (b2, cA2 cI X.2.1), (b3, cA2 cI X.2.2.1), (b4, cA2 cI X.2.2.2.1), (b5, cA2 cI X.2.2.2.2.1), (b6, cA9 cI X.2.2.2.2.2.1)]) rfl rfl rfl rfl (by decide) [b0, b1, b2, b3, b4, b5, b6] rfl rfl rfl rfl 0 3 rfl rfl rfl (Nat.le_of_ble_eq_true rfl) ⟨Nat.zero_le _, Nat.zero_le _⟩ rfl dX3_count_17 ?_
  generalize er1 : fX3_counted_6 (X.1, X.2.1, X.2.2.1, X.2.2.2.1, X.2.2.2.2.1, X.2.2.2.2.2.1, 0, X.2.2.2.2.2.2.2) = r1
  refine k_goto C 28 (by decide) dX3_count_20 ?_
  have hL : fX3_count_6 X = (r1, (X.1, X.2.1, X.2.2.1, X.2.2.2.1, X.2.2.2.2.1, X.2.2.2.2.2.1, 0, X.2.2.2.2.2.2.2)) := by subst er1; exact rfl
  exact k_iret C rfl (by rw [hL]) (by rw [hL]) dX3_count_28

set_option maxHeartbeats 4000000 in
set_option maxRecDepth 100000 in
theorem mX3_isIn_k7_0_8 (l : Launch) (D : va_G) (cI cJ : ClassId)   : kCi l D cI cJ yX3_isIn (.code yX3_isIn cX3_isIn 3 (some .boolean)) { frames := 0, cells := 0, slots := 0, locals := 0 } [.int 7, .int 0, .int 8] [] (1) [] := by
  refine fun sz => k_of (lv := [(0, .int 7), (1, .int 0), (2, .int 8)]) (by decide) sz (by exact Nat.le_of_ble_eq_true rfl) rfl ?_
  intro p e s m args below meth c hsz C
  refine k_iload_n C dX3_isIn_0 0 rfl ?_
  refine k_iload_n C dX3_isIn_1 1 rfl ?_
  refine k_icmp_lt C 14 (by decide) dX3_isIn_2 (fun h => absurd h (by decide)) (fun _ => ?_)
  refine k_iload_n C dX3_isIn_5 0 rfl ?_
  refine k_iload_n C dX3_isIn_6 2 rfl ?_
  refine k_icmp_gt C 14 (by decide) dX3_isIn_7 (fun h => absurd h (by decide)) (fun _ => ?_)
  refine k_iconst C 1 (by decide) dX3_isIn_10 ?_
  refine k_goto C 15 (by decide) dX3_isIn_11 ?_
  exact k_zret C rfl rfl rfl rfl dX3_isIn_15

noncomputable def fX3_count_7 (X : Mo) : Int32 × Mo :=
  ((fX3_counted_7 (X.1, X.2.1, X.2.2.1, X.2.2.2.1, X.2.2.2.2.1, X.2.2.2.2.2.1, 0, X.2.2.2.2.2.2.2)), (X.1, X.2.1, X.2.2.1, X.2.2.2.1, X.2.2.2.2.1, X.2.2.2.2.2.1, 0, X.2.2.2.2.2.2.2))
set_option maxHeartbeats 4000000 in
set_option maxRecDepth 100000 in
theorem mX3_count_7 (l : Launch) (D : va_G) (cI cJ : ClassId) (b0 b1 b2 b3 b4 b5 b6 : Nat) (X : Mo)  : kCi l D cI cJ yX3_count (.code yX3_count cX3_count 2 (some .int)) { frames := 3, cells := 0, slots := 0, locals := 63 } [.ref b0, .int 7] (wM cI b0 b1 b2 b3 b4 b5 b6 X) (fX3_count_7 X).1 (wM cI b0 b1 b2 b3 b4 b5 b6 (fX3_count_7 X).2) := by
  refine fun sz => k_of (lv := [(0, .ref b0), (1, .int 7)]) (by decide) sz (by exact Nat.le_of_ble_eq_true rfl) rfl ?_
  intro p e s m args below meth c hsz C
  refine k_aload_n C dX3_count_0 0 rfl ?_
  refine k_iconst C 0 (by decide) dX3_count_1 ?_
  refine k_putX3 C [(b0, cM b1 b2 b3 b4 b5 b6 (0, X.2.2.2.2.2.2.2)), (b1, cA9 cI X.1), (b2, cA2 cI X.2.1), (b3, cA2 cI X.2.2.1), (b4, cA2 cI X.2.2.2.1), (b5, cA2 cI X.2.2.2.2.1), (b6, cA9 cI X.2.2.2.2.2.1)] 0 0 rfl rfl (by decide) q570 rfl rfl fdI rfl rfl (Nat.le_of_ble_eq_true rfl) dX3_count_2 ?_
  refine k_iload_n C dX3_count_5 1 rfl ?_
  refine k_iconst C 0 (by decide) dX3_count_6 ?_
  refine k_bipush C 8 (by decide) dX3_count_7 ?_
  refine k_callS_i C (mX3_isIn_k7_0_8 l D cI cJ) (va_cwS 3 C.2.2.2.2.1 (kGS q637 q638 q61 q639) rfl rfl rfl hdX3_isIn ⟨Nat.le_of_ble_eq_true rfl, Nat.le_of_ble_eq_true rfl⟩) [] [0, 1, 2, 3, 4, 5, 6] [0, 1, 2, 3, 4, 5, 6] [(b0, cM b1 b2 b3 b4 b5 b6 (0, X.2.2.2.2.2.2.2)), (b1, cA9 cI X.1), (b2, cA2 cI X.2.1), (b3, cA2 cI X.2.2.1), (b4, cA2 cI X.2.2.2.1), (b5, cA2 cI X.2.2.2.2.1), (b6, cA9 cI X.2.2.2.2.2.1)] ([(b0, cM b1 b2 b3 b4 b5 b6 (0, X.2.2.2.2.2.2.2)), (b1, cA9 cI X.1), (b2, cA2 cI X.2.1), (b3, cA2 cI X.2.2.1), (b4, cA2 cI X.2.2.2.1), (b5, cA2 cI X.2.2.2.2.1), (b6, cA9 cI X.2.2.2.2.2.1)]) rfl rfl rfl rfl (by decide) [] rfl rfl rfl rfl (Nat.le_of_ble_eq_true rfl) ⟨Nat.zero_le _, Nat.zero_le _⟩ rfl dX3_count_9 ?_
  refine k_if_eq C 23 (by decide) dX3_count_12 (fun h => absurd h (by decide)) (fun _ => ?_)
  refine k_aload_n C dX3_count_15 0 rfl ?_
  refine k_iload_n C dX3_count_16 1 rfl ?_
  refine k_callV_i C (mX3_counted_7 l D cI cJ b0 b1 b2 b3 b4 b5 b6 (X.1, X.2.1, X.2.2.1, X.2.2.2.1, X.2.2.2.2.1, X.2.2.2.2.2.1, 0, X.2.2.2.2.2.2.2)) (cwV 1 C.2.2.2.2.1 (kGV q759 q761 q52 q61 q762) rfl rfl rfl ⟨rfl, hdX3_counted⟩ ⟨Nat.le_of_ble_eq_true rfl, Nat.le_of_ble_eq_true rfl⟩) [0, 1, 2, 3, 4, 5, 6] [] [0, 1, 2, 3, 4, 5, 6] [] ([(b0, cM b1 b2 b3 b4 b5 b6 (0, X.2.2.2.2.2.2.2)), (b1, cA9 cI X.1), (b2, cA2 cI X.2.1), (b3, cA2 cI X.2.2.1), (b4, cA2 cI X.2.2.2.1), (b5, cA2 cI X.2.2.2.2.1), (b6, cA9 cI X.2.2.2.2.2.1)]) rfl rfl rfl rfl (by decide) [b0, b1, b2, b3, b4, b5, b6] rfl rfl rfl rfl 0 3 rfl rfl rfl (Nat.le_of_ble_eq_true rfl) ⟨Nat.zero_le _, Nat.zero_le _⟩ rfl dX3_count_17 ?_
  generalize er1 : fX3_counted_7 (X.1, X.2.1, X.2.2.1, X.2.2.2.1, X.2.2.2.2.1, X.2.2.2.2.2.1, 0, X.2.2.2.2.2.2.2) = r1
  refine k_goto C 28 (by decide) dX3_count_20 ?_
  have hL : fX3_count_7 X = (r1, (X.1, X.2.1, X.2.2.1, X.2.2.2.1, X.2.2.2.2.1, X.2.2.2.2.2.1, 0, X.2.2.2.2.2.2.2)) := by subst er1; exact rfl
  exact k_iret C rfl (by rw [hL]) (by rw [hL]) dX3_count_28

set_option maxHeartbeats 4000000 in
set_option maxRecDepth 100000 in
theorem mX3_isIn_k8_0_8 (l : Launch) (D : va_G) (cI cJ : ClassId)   : kCi l D cI cJ yX3_isIn (.code yX3_isIn cX3_isIn 3 (some .boolean)) { frames := 0, cells := 0, slots := 0, locals := 0 } [.int 8, .int 0, .int 8] [] (1) [] := by
  refine fun sz => k_of (lv := [(0, .int 8), (1, .int 0), (2, .int 8)]) (by decide) sz (by exact Nat.le_of_ble_eq_true rfl) rfl ?_
  intro p e s m args below meth c hsz C
  refine k_iload_n C dX3_isIn_0 0 rfl ?_
  refine k_iload_n C dX3_isIn_1 1 rfl ?_
  refine k_icmp_lt C 14 (by decide) dX3_isIn_2 (fun h => absurd h (by decide)) (fun _ => ?_)
  refine k_iload_n C dX3_isIn_5 0 rfl ?_
  refine k_iload_n C dX3_isIn_6 2 rfl ?_
  refine k_icmp_gt C 14 (by decide) dX3_isIn_7 (fun h => absurd h (by decide)) (fun _ => ?_)
  refine k_iconst C 1 (by decide) dX3_isIn_10 ?_
  refine k_goto C 15 (by decide) dX3_isIn_11 ?_
  exact k_zret C rfl rfl rfl rfl dX3_isIn_15

noncomputable def fX3_count_8 (X : Mo) : Int32 × Mo :=
  ((fX3_counted_8 (X.1, X.2.1, X.2.2.1, X.2.2.2.1, X.2.2.2.2.1, X.2.2.2.2.2.1, 0, X.2.2.2.2.2.2.2)), (X.1, X.2.1, X.2.2.1, X.2.2.2.1, X.2.2.2.2.1, X.2.2.2.2.2.1, 0, X.2.2.2.2.2.2.2))
set_option maxHeartbeats 4000000 in
set_option maxRecDepth 100000 in
theorem mX3_count_8 (l : Launch) (D : va_G) (cI cJ : ClassId) (b0 b1 b2 b3 b4 b5 b6 : Nat) (X : Mo)  : kCi l D cI cJ yX3_count (.code yX3_count cX3_count 2 (some .int)) { frames := 3, cells := 0, slots := 0, locals := 63 } [.ref b0, .int 8] (wM cI b0 b1 b2 b3 b4 b5 b6 X) (fX3_count_8 X).1 (wM cI b0 b1 b2 b3 b4 b5 b6 (fX3_count_8 X).2) := by
  refine fun sz => k_of (lv := [(0, .ref b0), (1, .int 8)]) (by decide) sz (by exact Nat.le_of_ble_eq_true rfl) rfl ?_
  intro p e s m args below meth c hsz C
  refine k_aload_n C dX3_count_0 0 rfl ?_
  refine k_iconst C 0 (by decide) dX3_count_1 ?_
  refine k_putX3 C [(b0, cM b1 b2 b3 b4 b5 b6 (0, X.2.2.2.2.2.2.2)), (b1, cA9 cI X.1), (b2, cA2 cI X.2.1), (b3, cA2 cI X.2.2.1), (b4, cA2 cI X.2.2.2.1), (b5, cA2 cI X.2.2.2.2.1), (b6, cA9 cI X.2.2.2.2.2.1)] 0 0 rfl rfl (by decide) q570 rfl rfl fdI rfl rfl (Nat.le_of_ble_eq_true rfl) dX3_count_2 ?_
  refine k_iload_n C dX3_count_5 1 rfl ?_
  refine k_iconst C 0 (by decide) dX3_count_6 ?_
  refine k_bipush C 8 (by decide) dX3_count_7 ?_
  refine k_callS_i C (mX3_isIn_k8_0_8 l D cI cJ) (va_cwS 3 C.2.2.2.2.1 (kGS q637 q638 q61 q639) rfl rfl rfl hdX3_isIn ⟨Nat.le_of_ble_eq_true rfl, Nat.le_of_ble_eq_true rfl⟩) [] [0, 1, 2, 3, 4, 5, 6] [0, 1, 2, 3, 4, 5, 6] [(b0, cM b1 b2 b3 b4 b5 b6 (0, X.2.2.2.2.2.2.2)), (b1, cA9 cI X.1), (b2, cA2 cI X.2.1), (b3, cA2 cI X.2.2.1), (b4, cA2 cI X.2.2.2.1), (b5, cA2 cI X.2.2.2.2.1), (b6, cA9 cI X.2.2.2.2.2.1)] ([(b0, cM b1 b2 b3 b4 b5 b6 (0, X.2.2.2.2.2.2.2)), (b1, cA9 cI X.1), (b2, cA2 cI X.2.1), (b3, cA2 cI X.2.2.1), (b4, cA2 cI X.2.2.2.1), (b5, cA2 cI X.2.2.2.2.1), (b6, cA9 cI X.2.2.2.2.2.1)]) rfl rfl rfl rfl (by decide) [] rfl rfl rfl rfl (Nat.le_of_ble_eq_true rfl) ⟨Nat.zero_le _, Nat.zero_le _⟩ rfl dX3_count_9 ?_
  refine k_if_eq C 23 (by decide) dX3_count_12 (fun h => absurd h (by decide)) (fun _ => ?_)
  refine k_aload_n C dX3_count_15 0 rfl ?_
  refine k_iload_n C dX3_count_16 1 rfl ?_
  refine k_callV_i C (mX3_counted_8 l D cI cJ b0 b1 b2 b3 b4 b5 b6 (X.1, X.2.1, X.2.2.1, X.2.2.2.1, X.2.2.2.2.1, X.2.2.2.2.2.1, 0, X.2.2.2.2.2.2.2)) (cwV 1 C.2.2.2.2.1 (kGV q759 q761 q52 q61 q762) rfl rfl rfl ⟨rfl, hdX3_counted⟩ ⟨Nat.le_of_ble_eq_true rfl, Nat.le_of_ble_eq_true rfl⟩) [0, 1, 2, 3, 4, 5, 6] [] [0, 1, 2, 3, 4, 5, 6] [] ([(b0, cM b1 b2 b3 b4 b5 b6 (0, X.2.2.2.2.2.2.2)), (b1, cA9 cI X.1), (b2, cA2 cI X.2.1), (b3, cA2 cI X.2.2.1), (b4, cA2 cI X.2.2.2.1), (b5, cA2 cI X.2.2.2.2.1), (b6, cA9 cI X.2.2.2.2.2.1)]) rfl rfl rfl rfl (by decide) [b0, b1, b2, b3, b4, b5, b6] rfl rfl rfl rfl 0 3 rfl rfl rfl (Nat.le_of_ble_eq_true rfl) ⟨Nat.zero_le _, Nat.zero_le _⟩ rfl dX3_count_17 ?_
  generalize er1 : fX3_counted_8 (X.1, X.2.1, X.2.2.1, X.2.2.2.1, X.2.2.2.2.1, X.2.2.2.2.2.1, 0, X.2.2.2.2.2.2.2) = r1
  refine k_goto C 28 (by decide) dX3_count_20 ?_
  have hL : fX3_count_8 X = (r1, (X.1, X.2.1, X.2.2.1, X.2.2.2.1, X.2.2.2.2.1, X.2.2.2.2.2.1, 0, X.2.2.2.2.2.2.2)) := by subst er1; exact rfl
  exact k_iret C rfl (by rw [hL]) (by rw [hL]) dX3_count_28

noncomputable def fX3_count_bad (p0 : Int32) (X : Mo) : Int32 × Mo :=
  ((fX3_no 1 (X.1, X.2.1, X.2.2.1, X.2.2.2.1, X.2.2.2.2.1, X.2.2.2.2.2.1, 0, X.2.2.2.2.2.2.2)).1, (fX3_no 1 (X.1, X.2.1, X.2.2.1, X.2.2.2.1, X.2.2.2.2.1, X.2.2.2.2.2.1, 0, X.2.2.2.2.2.2.2)).2)
set_option maxHeartbeats 4000000 in
set_option maxRecDepth 100000 in
theorem mX3_count_bad (l : Launch) (D : va_G) (cI cJ : ClassId) (b0 b1 b2 b3 b4 b5 b6 : Nat) (p0 : Int32) (X : Mo) (hb0 : (fX3_isIn p0 0 8) = 0)  : kCi l D cI cJ yX3_count (.code yX3_count cX3_count 2 (some .int)) { frames := 3, cells := 0, slots := 0, locals := 63 } [.ref b0, .int p0] (wM cI b0 b1 b2 b3 b4 b5 b6 X) (fX3_count_bad p0 X).1 (wM cI b0 b1 b2 b3 b4 b5 b6 (fX3_count_bad p0 X).2) := by
  refine fun sz => k_of (lv := [(0, .ref b0), (1, .int p0)]) (by decide) sz (by exact Nat.le_of_ble_eq_true rfl) rfl ?_
  intro p e s m args below meth c hsz C
  refine k_aload_n C dX3_count_0 0 rfl ?_
  refine k_iconst C 0 (by decide) dX3_count_1 ?_
  refine k_putX3 C [(b0, cM b1 b2 b3 b4 b5 b6 (0, X.2.2.2.2.2.2.2)), (b1, cA9 cI X.1), (b2, cA2 cI X.2.1), (b3, cA2 cI X.2.2.1), (b4, cA2 cI X.2.2.2.1), (b5, cA2 cI X.2.2.2.2.1), (b6, cA9 cI X.2.2.2.2.2.1)] 0 0 rfl rfl (by decide) q570 rfl rfl fdI rfl rfl (Nat.le_of_ble_eq_true rfl) dX3_count_2 ?_
  refine k_iload_n C dX3_count_5 1 rfl ?_
  refine k_iconst C 0 (by decide) dX3_count_6 ?_
  refine k_bipush C 8 (by decide) dX3_count_7 ?_
  refine k_callS_i C (mX3_isIn l D cI cJ p0 0 8) (va_cwS 3 C.2.2.2.2.1 (kGS q637 q638 q61 q639) rfl rfl rfl hdX3_isIn ⟨Nat.le_of_ble_eq_true rfl, Nat.le_of_ble_eq_true rfl⟩) [] [0, 1, 2, 3, 4, 5, 6] [0, 1, 2, 3, 4, 5, 6] [(b0, cM b1 b2 b3 b4 b5 b6 (0, X.2.2.2.2.2.2.2)), (b1, cA9 cI X.1), (b2, cA2 cI X.2.1), (b3, cA2 cI X.2.2.1), (b4, cA2 cI X.2.2.2.1), (b5, cA2 cI X.2.2.2.2.1), (b6, cA9 cI X.2.2.2.2.2.1)] ([(b0, cM b1 b2 b3 b4 b5 b6 (0, X.2.2.2.2.2.2.2)), (b1, cA9 cI X.1), (b2, cA2 cI X.2.1), (b3, cA2 cI X.2.2.1), (b4, cA2 cI X.2.2.2.1), (b5, cA2 cI X.2.2.2.2.1), (b6, cA9 cI X.2.2.2.2.2.1)]) rfl rfl rfl rfl (by decide) [] rfl rfl rfl rfl (Nat.le_of_ble_eq_true rfl) ⟨Nat.zero_le _, Nat.zero_le _⟩ rfl dX3_count_9 ?_
  generalize er1 : fX3_isIn p0 0 8 = r1
  refine k_if_eq C 23 (by decide) dX3_count_12 (fun _ => ?_) (fun h => absurd (by subst er1; exact hb0) h)
  refine k_aload_n C dX3_count_23 0 rfl ?_
  refine k_iconst C 1 (by decide) dX3_count_24 ?_
  refine k_callV_i C (mX3_no l D cI cJ b0 b1 b2 b3 b4 b5 b6 1 (X.1, X.2.1, X.2.2.1, X.2.2.2.1, X.2.2.2.2.1, X.2.2.2.2.2.1, 0, X.2.2.2.2.2.2.2)) (cwV 1 C.2.2.2.2.1 (kGV q640 q642 q33 q61 q643) rfl rfl rfl ⟨rfl, hdX3_no⟩ ⟨Nat.le_of_ble_eq_true rfl, Nat.le_of_ble_eq_true rfl⟩) [0, 1, 2, 3, 4, 5, 6] [] [0, 1, 2, 3, 4, 5, 6] [] (wM cI b0 b1 b2 b3 b4 b5 b6 (fX3_no 1 (X.1, X.2.1, X.2.2.1, X.2.2.2.1, X.2.2.2.2.1, X.2.2.2.2.2.1, 0, X.2.2.2.2.2.2.2)).2) rfl rfl rfl rfl (by decide) [b0, b1, b2, b3, b4, b5, b6] rfl rfl rfl rfl 0 3 rfl rfl rfl (Nat.le_of_ble_eq_true rfl) ⟨Nat.zero_le _, Nat.zero_le _⟩ rfl dX3_count_25 ?_
  generalize ez2 : fX3_no 1 (X.1, X.2.1, X.2.2.1, X.2.2.2.1, X.2.2.2.2.1, X.2.2.2.2.2.1, 0, X.2.2.2.2.2.2.2) = z2
  have hL : fX3_count_bad p0 X = (z2.1, z2.2) := by subst ez2; subst er1; exact rfl
  exact k_iret C rfl (by rw [hL]) (by rw [hL]) dX3_count_28

noncomputable def fX3_told_bad1 (p0 : Int32) (p1 : Int32) (X : Mo) : Int32 × Mo :=
  ((fX3_no 1 (X.1, X.2.1, X.2.2.1, X.2.2.2.1, X.2.2.2.2.1, X.2.2.2.2.2.1, 0, X.2.2.2.2.2.2.2)).1, (fX3_no 1 (X.1, X.2.1, X.2.2.1, X.2.2.2.1, X.2.2.2.2.1, X.2.2.2.2.2.1, 0, X.2.2.2.2.2.2.2)).2)
set_option maxHeartbeats 4000000 in
set_option maxRecDepth 100000 in
theorem mX3_told_bad1 (l : Launch) (D : va_G) (cI cJ : ClassId) (b0 b1 b2 b3 b4 b5 b6 : Nat) (p0 : Int32) (p1 : Int32) (X : Mo) (hb0 : (fX3_isIn p0 0 1) = 0)  : kCi l D cI cJ yX3_told (.code yX3_told cX3_told 3 (some .int)) { frames := 1, cells := 0, slots := 0, locals := 22 } [.ref b0, .int p0, .int p1] (wM cI b0 b1 b2 b3 b4 b5 b6 X) (fX3_told_bad1 p0 p1 X).1 (wM cI b0 b1 b2 b3 b4 b5 b6 (fX3_told_bad1 p0 p1 X).2) := by
  refine fun sz => k_of (lv := [(0, .ref b0), (1, .int p0), (2, .int p1)]) (by decide) sz (by exact Nat.le_of_ble_eq_true rfl) rfl ?_
  intro p e s m args below meth c hsz C
  refine k_aload_n C dX3_told_0 0 rfl ?_
  refine k_iconst C 0 (by decide) dX3_told_1 ?_
  refine k_putX3 C [(b0, cM b1 b2 b3 b4 b5 b6 (0, X.2.2.2.2.2.2.2)), (b1, cA9 cI X.1), (b2, cA2 cI X.2.1), (b3, cA2 cI X.2.2.1), (b4, cA2 cI X.2.2.2.1), (b5, cA2 cI X.2.2.2.2.1), (b6, cA9 cI X.2.2.2.2.2.1)] 0 0 rfl rfl (by decide) q570 rfl rfl fdI rfl rfl (Nat.le_of_ble_eq_true rfl) dX3_told_2 ?_
  refine k_iload_n C dX3_told_5 1 rfl ?_
  refine k_iconst C 0 (by decide) dX3_told_6 ?_
  refine k_iconst C 1 (by decide) dX3_told_7 ?_
  refine k_callS_i C (mX3_isIn l D cI cJ p0 0 1) (va_cwS 3 C.2.2.2.2.1 (kGS q637 q638 q61 q639) rfl rfl rfl hdX3_isIn ⟨Nat.le_of_ble_eq_true rfl, Nat.le_of_ble_eq_true rfl⟩) [] [0, 1, 2, 3, 4, 5, 6] [0, 1, 2, 3, 4, 5, 6] [(b0, cM b1 b2 b3 b4 b5 b6 (0, X.2.2.2.2.2.2.2)), (b1, cA9 cI X.1), (b2, cA2 cI X.2.1), (b3, cA2 cI X.2.2.1), (b4, cA2 cI X.2.2.2.1), (b5, cA2 cI X.2.2.2.2.1), (b6, cA9 cI X.2.2.2.2.2.1)] ([(b0, cM b1 b2 b3 b4 b5 b6 (0, X.2.2.2.2.2.2.2)), (b1, cA9 cI X.1), (b2, cA2 cI X.2.1), (b3, cA2 cI X.2.2.1), (b4, cA2 cI X.2.2.2.1), (b5, cA2 cI X.2.2.2.2.1), (b6, cA9 cI X.2.2.2.2.2.1)]) rfl rfl rfl rfl (by decide) [] rfl rfl rfl rfl (Nat.le_of_ble_eq_true rfl) ⟨Nat.zero_le _, Nat.zero_le _⟩ rfl dX3_told_8 ?_
  generalize er1 : fX3_isIn p0 0 1 = r1
  refine k_if_eq C 32 (by decide) dX3_told_11 (fun _ => ?_) (fun h => absurd (by subst er1; exact hb0) h)
  refine k_aload_n C dX3_told_32 0 rfl ?_
  refine k_iconst C 1 (by decide) dX3_told_33 ?_
  refine k_callV_i C (mX3_no l D cI cJ b0 b1 b2 b3 b4 b5 b6 1 (X.1, X.2.1, X.2.2.1, X.2.2.2.1, X.2.2.2.2.1, X.2.2.2.2.2.1, 0, X.2.2.2.2.2.2.2)) (cwV 1 C.2.2.2.2.1 (kGV q640 q642 q33 q61 q643) rfl rfl rfl ⟨rfl, hdX3_no⟩ ⟨Nat.le_of_ble_eq_true rfl, Nat.le_of_ble_eq_true rfl⟩) [0, 1, 2, 3, 4, 5, 6] [] [0, 1, 2, 3, 4, 5, 6] [] (wM cI b0 b1 b2 b3 b4 b5 b6 (fX3_no 1 (X.1, X.2.1, X.2.2.1, X.2.2.2.1, X.2.2.2.2.1, X.2.2.2.2.2.1, 0, X.2.2.2.2.2.2.2)).2) rfl rfl rfl rfl (by decide) [b0, b1, b2, b3, b4, b5, b6] rfl rfl rfl rfl 0 3 rfl rfl rfl (Nat.le_of_ble_eq_true rfl) ⟨Nat.zero_le _, Nat.zero_le _⟩ rfl dX3_told_34 ?_
  generalize ez2 : fX3_no 1 (X.1, X.2.1, X.2.2.1, X.2.2.2.1, X.2.2.2.2.1, X.2.2.2.2.2.1, 0, X.2.2.2.2.2.2.2) = z2
  have hL : fX3_told_bad1 p0 p1 X = (z2.1, z2.2) := by subst ez2; subst er1; exact rfl
  exact k_iret C rfl (by rw [hL]) (by rw [hL]) dX3_told_37

noncomputable def fX3_told_bad2 (p0 : Int32) (p1 : Int32) (X : Mo) : Int32 × Mo :=
  ((fX3_no 1 (X.1, X.2.1, X.2.2.1, X.2.2.2.1, X.2.2.2.2.1, X.2.2.2.2.2.1, 0, X.2.2.2.2.2.2.2)).1, (fX3_no 1 (X.1, X.2.1, X.2.2.1, X.2.2.2.1, X.2.2.2.2.1, X.2.2.2.2.2.1, 0, X.2.2.2.2.2.2.2)).2)
set_option maxHeartbeats 4000000 in
set_option maxRecDepth 100000 in
theorem mX3_told_bad2 (l : Launch) (D : va_G) (cI cJ : ClassId) (b0 b1 b2 b3 b4 b5 b6 : Nat) (p0 : Int32) (p1 : Int32) (X : Mo) (hb0 : ¬ (fX3_isIn p0 0 1) = 0) (hb1 : (fX3_isIn p1 0 3) = 0)  : kCi l D cI cJ yX3_told (.code yX3_told cX3_told 3 (some .int)) { frames := 1, cells := 0, slots := 0, locals := 22 } [.ref b0, .int p0, .int p1] (wM cI b0 b1 b2 b3 b4 b5 b6 X) (fX3_told_bad2 p0 p1 X).1 (wM cI b0 b1 b2 b3 b4 b5 b6 (fX3_told_bad2 p0 p1 X).2) := by
  refine fun sz => k_of (lv := [(0, .ref b0), (1, .int p0), (2, .int p1)]) (by decide) sz (by exact Nat.le_of_ble_eq_true rfl) rfl ?_
  intro p e s m args below meth c hsz C
  refine k_aload_n C dX3_told_0 0 rfl ?_
  refine k_iconst C 0 (by decide) dX3_told_1 ?_
  refine k_putX3 C [(b0, cM b1 b2 b3 b4 b5 b6 (0, X.2.2.2.2.2.2.2)), (b1, cA9 cI X.1), (b2, cA2 cI X.2.1), (b3, cA2 cI X.2.2.1), (b4, cA2 cI X.2.2.2.1), (b5, cA2 cI X.2.2.2.2.1), (b6, cA9 cI X.2.2.2.2.2.1)] 0 0 rfl rfl (by decide) q570 rfl rfl fdI rfl rfl (Nat.le_of_ble_eq_true rfl) dX3_told_2 ?_
  refine k_iload_n C dX3_told_5 1 rfl ?_
  refine k_iconst C 0 (by decide) dX3_told_6 ?_
  refine k_iconst C 1 (by decide) dX3_told_7 ?_
  refine k_callS_i C (mX3_isIn l D cI cJ p0 0 1) (va_cwS 3 C.2.2.2.2.1 (kGS q637 q638 q61 q639) rfl rfl rfl hdX3_isIn ⟨Nat.le_of_ble_eq_true rfl, Nat.le_of_ble_eq_true rfl⟩) [] [0, 1, 2, 3, 4, 5, 6] [0, 1, 2, 3, 4, 5, 6] [(b0, cM b1 b2 b3 b4 b5 b6 (0, X.2.2.2.2.2.2.2)), (b1, cA9 cI X.1), (b2, cA2 cI X.2.1), (b3, cA2 cI X.2.2.1), (b4, cA2 cI X.2.2.2.1), (b5, cA2 cI X.2.2.2.2.1), (b6, cA9 cI X.2.2.2.2.2.1)] ([(b0, cM b1 b2 b3 b4 b5 b6 (0, X.2.2.2.2.2.2.2)), (b1, cA9 cI X.1), (b2, cA2 cI X.2.1), (b3, cA2 cI X.2.2.1), (b4, cA2 cI X.2.2.2.1), (b5, cA2 cI X.2.2.2.2.1), (b6, cA9 cI X.2.2.2.2.2.1)]) rfl rfl rfl rfl (by decide) [] rfl rfl rfl rfl (Nat.le_of_ble_eq_true rfl) ⟨Nat.zero_le _, Nat.zero_le _⟩ rfl dX3_told_8 ?_
  generalize er1 : fX3_isIn p0 0 1 = r1
  refine k_if_eq C 32 (by decide) dX3_told_11 (fun h => absurd h (by subst er1; exact hb0)) (fun _ => ?_)
  refine k_iload_n C dX3_told_14 2 rfl ?_
  refine k_iconst C 0 (by decide) dX3_told_15 ?_
  refine k_iconst C 3 (by decide) dX3_told_16 ?_
  refine k_callS_i C (mX3_isIn l D cI cJ p1 0 3) (va_cwS 3 C.2.2.2.2.1 (kGS q637 q638 q61 q639) rfl rfl rfl hdX3_isIn ⟨Nat.le_of_ble_eq_true rfl, Nat.le_of_ble_eq_true rfl⟩) [] [0, 1, 2, 3, 4, 5, 6] [0, 1, 2, 3, 4, 5, 6] [(b0, cM b1 b2 b3 b4 b5 b6 (0, X.2.2.2.2.2.2.2)), (b1, cA9 cI X.1), (b2, cA2 cI X.2.1), (b3, cA2 cI X.2.2.1), (b4, cA2 cI X.2.2.2.1), (b5, cA2 cI X.2.2.2.2.1), (b6, cA9 cI X.2.2.2.2.2.1)] ([(b0, cM b1 b2 b3 b4 b5 b6 (0, X.2.2.2.2.2.2.2)), (b1, cA9 cI X.1), (b2, cA2 cI X.2.1), (b3, cA2 cI X.2.2.1), (b4, cA2 cI X.2.2.2.1), (b5, cA2 cI X.2.2.2.2.1), (b6, cA9 cI X.2.2.2.2.2.1)]) rfl rfl rfl rfl (by decide) [] rfl rfl rfl rfl (Nat.le_of_ble_eq_true rfl) ⟨Nat.zero_le _, Nat.zero_le _⟩ rfl dX3_told_17 ?_
  generalize er2 : fX3_isIn p1 0 3 = r2
  refine k_if_eq C 32 (by decide) dX3_told_20 (fun _ => ?_) (fun h => absurd (by subst er2; subst er1; exact hb1) h)
  refine k_aload_n C dX3_told_32 0 rfl ?_
  refine k_iconst C 1 (by decide) dX3_told_33 ?_
  refine k_callV_i C (mX3_no l D cI cJ b0 b1 b2 b3 b4 b5 b6 1 (X.1, X.2.1, X.2.2.1, X.2.2.2.1, X.2.2.2.2.1, X.2.2.2.2.2.1, 0, X.2.2.2.2.2.2.2)) (cwV 1 C.2.2.2.2.1 (kGV q640 q642 q33 q61 q643) rfl rfl rfl ⟨rfl, hdX3_no⟩ ⟨Nat.le_of_ble_eq_true rfl, Nat.le_of_ble_eq_true rfl⟩) [0, 1, 2, 3, 4, 5, 6] [] [0, 1, 2, 3, 4, 5, 6] [] (wM cI b0 b1 b2 b3 b4 b5 b6 (fX3_no 1 (X.1, X.2.1, X.2.2.1, X.2.2.2.1, X.2.2.2.2.1, X.2.2.2.2.2.1, 0, X.2.2.2.2.2.2.2)).2) rfl rfl rfl rfl (by decide) [b0, b1, b2, b3, b4, b5, b6] rfl rfl rfl rfl 0 3 rfl rfl rfl (Nat.le_of_ble_eq_true rfl) ⟨Nat.zero_le _, Nat.zero_le _⟩ rfl dX3_told_34 ?_
  generalize ez3 : fX3_no 1 (X.1, X.2.1, X.2.2.1, X.2.2.2.1, X.2.2.2.2.1, X.2.2.2.2.2.1, 0, X.2.2.2.2.2.2.2) = z3
  have hL : fX3_told_bad2 p0 p1 X = (z3.1, z3.2) := by subst ez3; subst er2; subst er1; exact rfl
  exact k_iret C rfl (by rw [hL]) (by rw [hL]) dX3_told_37

theorem hdX3_flight : yX3_flight.cls ≠ "java/lang/invoke/MethodHandle" ∧ yX3_flight.cls ≠ "java/lang/invoke/VarHandle" ∧ (parseMethodDescriptor yX3_flight.desc).map (fun d => d.parameters.length) = some 2 := by decide +kernel
noncomputable def fX3_flight_0 (p0 : Int32) (X : Mo) : Int32 × Mo :=
  if (fX3_isIn p0 0 60) = 0 then ((fX3_no 1 (X.1, X.2.1, X.2.2.1, X.2.2.2.1, X.2.2.2.2.1, X.2.2.2.2.2.1, 0, X.2.2.2.2.2.2.2)).1, (fX3_no 1 (X.1, X.2.1, X.2.2.1, X.2.2.2.1, X.2.2.2.2.1, X.2.2.2.2.2.1, 0, X.2.2.2.2.2.2.2)).2)
  else (if X.2.2.2.2.2.2.2.2.1 = 0 then ((-99), (X.1, X.2.1, X.2.2.1, X.2.2.2.1, X.2.2.2.2.1, X.2.2.2.2.2.1, 0, X.2.2.2.2.2.2.2))
    else (if (fX3_flyOn p0 (X.1, X.2.1, X.2.2.1, X.2.2.2.1, X.2.2.2.2.1, X.2.2.2.2.2.1, 0, X.2.2.2.2.2.2.2)).1 = 0 then ((fX3_flyOn p0 (X.1, X.2.1, X.2.2.1, X.2.2.2.1, X.2.2.2.2.1, X.2.2.2.2.2.1, 0, X.2.2.2.2.2.2.2)).2.2.2.2.2.2.1.1, (fX3_flyOn p0 (X.1, X.2.1, X.2.2.1, X.2.2.2.1, X.2.2.2.2.1, X.2.2.2.2.2.1, 0, X.2.2.2.2.2.2.2)).2)
      else ((-99), (fX3_flyOn p0 (X.1, X.2.1, X.2.2.1, X.2.2.2.1, X.2.2.2.2.1, X.2.2.2.2.2.1, 0, X.2.2.2.2.2.2.2)).2)))
set_option maxHeartbeats 4000000 in
set_option maxRecDepth 100000 in
theorem mX3_flight_0 (l : Launch) (D : va_G) (cI cJ : ClassId) (b0 b1 b2 b3 b4 b5 b6 : Nat) (p0 : Int32) (X : Mo)  : kCi l D cI cJ yX3_flight (.code yX3_flight cX3_flight 3 (some .int)) { frames := 5, cells := 0, slots := 0, locals := 110 } [.ref b0, .int p0, .int 0] (wM cI b0 b1 b2 b3 b4 b5 b6 X) (fX3_flight_0 p0 X).1 (wM cI b0 b1 b2 b3 b4 b5 b6 (fX3_flight_0 p0 X).2) := by
  refine fun sz => k_of (lv := [(0, .ref b0), (1, .int p0), (2, .int 0)]) (by decide) sz (by exact Nat.le_of_ble_eq_true rfl) rfl ?_
  intro p e s m args below meth c hsz C
  refine k_aload_n C dX3_flight_0 0 rfl ?_
  refine k_iconst C 0 (by decide) dX3_flight_1 ?_
  refine k_putX3 C [(b0, cM b1 b2 b3 b4 b5 b6 (0, X.2.2.2.2.2.2.2)), (b1, cA9 cI X.1), (b2, cA2 cI X.2.1), (b3, cA2 cI X.2.2.1), (b4, cA2 cI X.2.2.2.1), (b5, cA2 cI X.2.2.2.2.1), (b6, cA9 cI X.2.2.2.2.2.1)] 0 0 rfl rfl (by decide) q570 rfl rfl fdI rfl rfl (Nat.le_of_ble_eq_true rfl) dX3_flight_2 ?_
  refine k_iload_n C dX3_flight_5 1 rfl ?_
  refine k_iconst C 0 (by decide) dX3_flight_6 ?_
  refine k_bipush C 60 (by decide) dX3_flight_7 ?_
  refine k_callS_i C (mX3_isIn l D cI cJ p0 0 60) (va_cwS 3 C.2.2.2.2.1 (kGS q637 q638 q61 q639) rfl rfl rfl hdX3_isIn ⟨Nat.le_of_ble_eq_true rfl, Nat.le_of_ble_eq_true rfl⟩) [] [0, 1, 2, 3, 4, 5, 6] [0, 1, 2, 3, 4, 5, 6] [(b0, cM b1 b2 b3 b4 b5 b6 (0, X.2.2.2.2.2.2.2)), (b1, cA9 cI X.1), (b2, cA2 cI X.2.1), (b3, cA2 cI X.2.2.1), (b4, cA2 cI X.2.2.2.1), (b5, cA2 cI X.2.2.2.2.1), (b6, cA9 cI X.2.2.2.2.2.1)] ([(b0, cM b1 b2 b3 b4 b5 b6 (0, X.2.2.2.2.2.2.2)), (b1, cA9 cI X.1), (b2, cA2 cI X.2.1), (b3, cA2 cI X.2.2.1), (b4, cA2 cI X.2.2.2.1), (b5, cA2 cI X.2.2.2.2.1), (b6, cA9 cI X.2.2.2.2.2.1)]) rfl rfl rfl rfl (by decide) [] rfl rfl rfl rfl (Nat.le_of_ble_eq_true rfl) ⟨Nat.zero_le _, Nat.zero_le _⟩ rfl dX3_flight_9 ?_
  generalize er1 : fX3_isIn p0 0 60 = r1
  refine k_if_ne C 21 (by decide) dX3_flight_12 (fun c2 => ?_) (fun c2 => ?_)
  ·
    refine k_iload_n C dX3_flight_21 2 rfl ?_
    refine k_iconst C 0 (by decide) dX3_flight_22 ?_
    refine k_bipush C 8 (by decide) dX3_flight_23 ?_
    refine k_callS_i C (mX3_isIn_k0_0_8 l D cI cJ) (va_cwS 3 C.2.2.2.2.1 (kGS q637 q638 q61 q639) rfl rfl rfl hdX3_isIn ⟨Nat.le_of_ble_eq_true rfl, Nat.le_of_ble_eq_true rfl⟩) [] [0, 1, 2, 3, 4, 5, 6] [0, 1, 2, 3, 4, 5, 6] [(b0, cM b1 b2 b3 b4 b5 b6 (0, X.2.2.2.2.2.2.2)), (b1, cA9 cI X.1), (b2, cA2 cI X.2.1), (b3, cA2 cI X.2.2.1), (b4, cA2 cI X.2.2.2.1), (b5, cA2 cI X.2.2.2.2.1), (b6, cA9 cI X.2.2.2.2.2.1)] ([(b0, cM b1 b2 b3 b4 b5 b6 (0, X.2.2.2.2.2.2.2)), (b1, cA9 cI X.1), (b2, cA2 cI X.2.1), (b3, cA2 cI X.2.2.1), (b4, cA2 cI X.2.2.2.1), (b5, cA2 cI X.2.2.2.2.1), (b6, cA9 cI X.2.2.2.2.2.1)]) rfl rfl rfl rfl (by decide) [] rfl rfl rfl rfl (Nat.le_of_ble_eq_true rfl) ⟨Nat.zero_le _, Nat.zero_le _⟩ rfl dX3_flight_25 ?_
    refine k_if_ne C 37 (by decide) dX3_flight_28 (fun _ => ?_) (fun h => absurd h (by decide))
    refine k_aload_n C dX3_flight_37 0 rfl ?_
    refine k_getX3 C 0 2 rfl (by decide) rfl q572 rfl dX3_flight_38 ?_
    refine k_if_eq C 61 (by decide) dX3_flight_41 (fun c3 => ?_) (fun c3 => ?_)
    ·
      refine k_bipush C (-99) (by decide) dX3_flight_61 ?_
      have hL : fX3_flight_0 p0 X = ((-99), (X.1, X.2.1, X.2.2.1, X.2.2.2.1, X.2.2.2.2.1, X.2.2.2.2.2.1, 0, X.2.2.2.2.2.2.2)) := by subst er1; exact (if_neg c2).trans ((if_pos c3).trans rfl)
      exact k_iret C rfl (by rw [hL]) (by rw [hL]) dX3_flight_63
    ·
      refine k_aload_n C dX3_flight_44 0 rfl ?_
      refine k_iload_n C dX3_flight_45 1 rfl ?_
      refine k_callV_i C (mX3_flyOn l D cI cJ b0 b1 b2 b3 b4 b5 b6 p0 (X.1, X.2.1, X.2.2.1, X.2.2.2.1, X.2.2.2.2.1, X.2.2.2.2.2.1, 0, X.2.2.2.2.2.2.2)) (cwV 1 C.2.2.2.2.1 (kGV q668 q670 q38 q61 q671) rfl rfl rfl ⟨rfl, hdX3_flyOn⟩ ⟨Nat.le_of_ble_eq_true rfl, Nat.le_of_ble_eq_true rfl⟩) [0, 1, 2, 3, 4, 5, 6] [] [0, 1, 2, 3, 4, 5, 6] [] (wM cI b0 b1 b2 b3 b4 b5 b6 (fX3_flyOn p0 (X.1, X.2.1, X.2.2.1, X.2.2.2.1, X.2.2.2.2.1, X.2.2.2.2.2.1, 0, X.2.2.2.2.2.2.2)).2) rfl rfl rfl rfl (by decide) [b0, b1, b2, b3, b4, b5, b6] rfl rfl rfl rfl 0 3 rfl rfl rfl (Nat.le_of_ble_eq_true rfl) ⟨Nat.zero_le _, Nat.zero_le _⟩ rfl dX3_flight_46 ?_
      generalize ez4 : fX3_flyOn p0 (X.1, X.2.1, X.2.2.1, X.2.2.2.1, X.2.2.2.2.1, X.2.2.2.2.2.1, 0, X.2.2.2.2.2.2.2) = z4
      refine k_if_ne C 61 (by decide) dX3_flight_49 (fun c5 => ?_) (fun c5 => ?_)
      ·
        refine k_bipush C (-99) (by decide) dX3_flight_61 ?_
        have hL : fX3_flight_0 p0 X = ((-99), z4.2) := by subst ez4; subst er1; exact (if_neg c2).trans ((if_neg c3).trans ((if_neg c5).trans rfl))
        exact k_iret C rfl (by rw [hL]) (by rw [hL]) dX3_flight_63
      ·
        refine k_aload_n C dX3_flight_52 0 rfl ?_
        refine k_getX3 C 0 16 rfl (by decide) rfl q586 rfl dX3_flight_53 ?_
        refine k_iload_n C dX3_flight_56 2 rfl ?_
        refine k_iald C 6 rfl vi9_0 (ar9_l0 _) dX3_flight_57 ?_
        refine k_goto C 63 (by decide) dX3_flight_58 ?_
        have hL : fX3_flight_0 p0 X = (z4.2.2.2.2.2.2.1.1, z4.2) := by subst ez4; subst er1; exact (if_neg c2).trans ((if_neg c3).trans ((if_pos c5).trans rfl))
        exact k_iret C rfl (by rw [hL]) (by rw [hL]) dX3_flight_63
  ·
    refine k_aload_n C dX3_flight_15 0 rfl ?_
    refine k_iconst C 1 (by decide) dX3_flight_16 ?_
    refine k_callV_i C (mX3_no l D cI cJ b0 b1 b2 b3 b4 b5 b6 1 (X.1, X.2.1, X.2.2.1, X.2.2.2.1, X.2.2.2.2.1, X.2.2.2.2.2.1, 0, X.2.2.2.2.2.2.2)) (cwV 1 C.2.2.2.2.1 (kGV q640 q642 q33 q61 q643) rfl rfl rfl ⟨rfl, hdX3_no⟩ ⟨Nat.le_of_ble_eq_true rfl, Nat.le_of_ble_eq_true rfl⟩) [0, 1, 2, 3, 4, 5, 6] [] [0, 1, 2, 3, 4, 5, 6] [] (wM cI b0 b1 b2 b3 b4 b5 b6 (fX3_no 1 (X.1, X.2.1, X.2.2.1, X.2.2.2.1, X.2.2.2.2.1, X.2.2.2.2.2.1, 0, X.2.2.2.2.2.2.2)).2) rfl rfl rfl rfl (by decide) [b0, b1, b2, b3, b4, b5, b6] rfl rfl rfl rfl 0 3 rfl rfl rfl (Nat.le_of_ble_eq_true rfl) ⟨Nat.zero_le _, Nat.zero_le _⟩ rfl dX3_flight_17 ?_
    generalize ez6 : fX3_no 1 (X.1, X.2.1, X.2.2.1, X.2.2.2.1, X.2.2.2.2.1, X.2.2.2.2.2.1, 0, X.2.2.2.2.2.2.2) = z6
    have hL : fX3_flight_0 p0 X = (z6.1, z6.2) := by subst ez6; subst er1; exact (if_pos c2).trans rfl
    exact k_iret C rfl (by rw [hL]) (by rw [hL]) dX3_flight_20

noncomputable def fX3_flight_1 (p0 : Int32) (X : Mo) : Int32 × Mo :=
  if (fX3_isIn p0 0 60) = 0 then ((fX3_no 1 (X.1, X.2.1, X.2.2.1, X.2.2.2.1, X.2.2.2.2.1, X.2.2.2.2.2.1, 0, X.2.2.2.2.2.2.2)).1, (fX3_no 1 (X.1, X.2.1, X.2.2.1, X.2.2.2.1, X.2.2.2.2.1, X.2.2.2.2.2.1, 0, X.2.2.2.2.2.2.2)).2)
  else (if X.2.2.2.2.2.2.2.2.1 = 0 then ((-99), (X.1, X.2.1, X.2.2.1, X.2.2.2.1, X.2.2.2.2.1, X.2.2.2.2.2.1, 0, X.2.2.2.2.2.2.2))
    else (if (fX3_flyOn p0 (X.1, X.2.1, X.2.2.1, X.2.2.2.1, X.2.2.2.2.1, X.2.2.2.2.2.1, 0, X.2.2.2.2.2.2.2)).1 = 0 then ((fX3_flyOn p0 (X.1, X.2.1, X.2.2.1, X.2.2.2.1, X.2.2.2.2.1, X.2.2.2.2.2.1, 0, X.2.2.2.2.2.2.2)).2.2.2.2.2.2.1.2.1, (fX3_flyOn p0 (X.1, X.2.1, X.2.2.1, X.2.2.2.1, X.2.2.2.2.1, X.2.2.2.2.2.1, 0, X.2.2.2.2.2.2.2)).2)
      else ((-99), (fX3_flyOn p0 (X.1, X.2.1, X.2.2.1, X.2.2.2.1, X.2.2.2.2.1, X.2.2.2.2.2.1, 0, X.2.2.2.2.2.2.2)).2)))
set_option maxHeartbeats 4000000 in
set_option maxRecDepth 100000 in
theorem mX3_flight_1 (l : Launch) (D : va_G) (cI cJ : ClassId) (b0 b1 b2 b3 b4 b5 b6 : Nat) (p0 : Int32) (X : Mo)  : kCi l D cI cJ yX3_flight (.code yX3_flight cX3_flight 3 (some .int)) { frames := 5, cells := 0, slots := 0, locals := 110 } [.ref b0, .int p0, .int 1] (wM cI b0 b1 b2 b3 b4 b5 b6 X) (fX3_flight_1 p0 X).1 (wM cI b0 b1 b2 b3 b4 b5 b6 (fX3_flight_1 p0 X).2) := by
  refine fun sz => k_of (lv := [(0, .ref b0), (1, .int p0), (2, .int 1)]) (by decide) sz (by exact Nat.le_of_ble_eq_true rfl) rfl ?_
  intro p e s m args below meth c hsz C
  refine k_aload_n C dX3_flight_0 0 rfl ?_
  refine k_iconst C 0 (by decide) dX3_flight_1 ?_
  refine k_putX3 C [(b0, cM b1 b2 b3 b4 b5 b6 (0, X.2.2.2.2.2.2.2)), (b1, cA9 cI X.1), (b2, cA2 cI X.2.1), (b3, cA2 cI X.2.2.1), (b4, cA2 cI X.2.2.2.1), (b5, cA2 cI X.2.2.2.2.1), (b6, cA9 cI X.2.2.2.2.2.1)] 0 0 rfl rfl (by decide) q570 rfl rfl fdI rfl rfl (Nat.le_of_ble_eq_true rfl) dX3_flight_2 ?_
  refine k_iload_n C dX3_flight_5 1 rfl ?_
  refine k_iconst C 0 (by decide) dX3_flight_6 ?_
  refine k_bipush C 60 (by decide) dX3_flight_7 ?_
  refine k_callS_i C (mX3_isIn l D cI cJ p0 0 60) (va_cwS 3 C.2.2.2.2.1 (kGS q637 q638 q61 q639) rfl rfl rfl hdX3_isIn ⟨Nat.le_of_ble_eq_true rfl, Nat.le_of_ble_eq_true rfl⟩) [] [0, 1, 2, 3, 4, 5, 6] [0, 1, 2, 3, 4, 5, 6] [(b0, cM b1 b2 b3 b4 b5 b6 (0, X.2.2.2.2.2.2.2)), (b1, cA9 cI X.1), (b2, cA2 cI X.2.1), (b3, cA2 cI X.2.2.1), (b4, cA2 cI X.2.2.2.1), (b5, cA2 cI X.2.2.2.2.1), (b6, cA9 cI X.2.2.2.2.2.1)] ([(b0, cM b1 b2 b3 b4 b5 b6 (0, X.2.2.2.2.2.2.2)), (b1, cA9 cI X.1), (b2, cA2 cI X.2.1), (b3, cA2 cI X.2.2.1), (b4, cA2 cI X.2.2.2.1), (b5, cA2 cI X.2.2.2.2.1), (b6, cA9 cI X.2.2.2.2.2.1)]) rfl rfl rfl rfl (by decide) [] rfl rfl rfl rfl (Nat.le_of_ble_eq_true rfl) ⟨Nat.zero_le _, Nat.zero_le _⟩ rfl dX3_flight_9 ?_
  generalize er1 : fX3_isIn p0 0 60 = r1
  refine k_if_ne C 21 (by decide) dX3_flight_12 (fun c2 => ?_) (fun c2 => ?_)
  ·
    refine k_iload_n C dX3_flight_21 2 rfl ?_
    refine k_iconst C 0 (by decide) dX3_flight_22 ?_
    refine k_bipush C 8 (by decide) dX3_flight_23 ?_
    refine k_callS_i C (mX3_isIn_k1_0_8 l D cI cJ) (va_cwS 3 C.2.2.2.2.1 (kGS q637 q638 q61 q639) rfl rfl rfl hdX3_isIn ⟨Nat.le_of_ble_eq_true rfl, Nat.le_of_ble_eq_true rfl⟩) [] [0, 1, 2, 3, 4, 5, 6] [0, 1, 2, 3, 4, 5, 6] [(b0, cM b1 b2 b3 b4 b5 b6 (0, X.2.2.2.2.2.2.2)), (b1, cA9 cI X.1), (b2, cA2 cI X.2.1), (b3, cA2 cI X.2.2.1), (b4, cA2 cI X.2.2.2.1), (b5, cA2 cI X.2.2.2.2.1), (b6, cA9 cI X.2.2.2.2.2.1)] ([(b0, cM b1 b2 b3 b4 b5 b6 (0, X.2.2.2.2.2.2.2)), (b1, cA9 cI X.1), (b2, cA2 cI X.2.1), (b3, cA2 cI X.2.2.1), (b4, cA2 cI X.2.2.2.1), (b5, cA2 cI X.2.2.2.2.1), (b6, cA9 cI X.2.2.2.2.2.1)]) rfl rfl rfl rfl (by decide) [] rfl rfl rfl rfl (Nat.le_of_ble_eq_true rfl) ⟨Nat.zero_le _, Nat.zero_le _⟩ rfl dX3_flight_25 ?_
    refine k_if_ne C 37 (by decide) dX3_flight_28 (fun _ => ?_) (fun h => absurd h (by decide))
    refine k_aload_n C dX3_flight_37 0 rfl ?_
    refine k_getX3 C 0 2 rfl (by decide) rfl q572 rfl dX3_flight_38 ?_
    refine k_if_eq C 61 (by decide) dX3_flight_41 (fun c3 => ?_) (fun c3 => ?_)
    ·
      refine k_bipush C (-99) (by decide) dX3_flight_61 ?_
      have hL : fX3_flight_1 p0 X = ((-99), (X.1, X.2.1, X.2.2.1, X.2.2.2.1, X.2.2.2.2.1, X.2.2.2.2.2.1, 0, X.2.2.2.2.2.2.2)) := by subst er1; exact (if_neg c2).trans ((if_pos c3).trans rfl)
      exact k_iret C rfl (by rw [hL]) (by rw [hL]) dX3_flight_63
    ·
      refine k_aload_n C dX3_flight_44 0 rfl ?_
      refine k_iload_n C dX3_flight_45 1 rfl ?_
      refine k_callV_i C (mX3_flyOn l D cI cJ b0 b1 b2 b3 b4 b5 b6 p0 (X.1, X.2.1, X.2.2.1, X.2.2.2.1, X.2.2.2.2.1, X.2.2.2.2.2.1, 0, X.2.2.2.2.2.2.2)) (cwV 1 C.2.2.2.2.1 (kGV q668 q670 q38 q61 q671) rfl rfl rfl ⟨rfl, hdX3_flyOn⟩ ⟨Nat.le_of_ble_eq_true rfl, Nat.le_of_ble_eq_true rfl⟩) [0, 1, 2, 3, 4, 5, 6] [] [0, 1, 2, 3, 4, 5, 6] [] (wM cI b0 b1 b2 b3 b4 b5 b6 (fX3_flyOn p0 (X.1, X.2.1, X.2.2.1, X.2.2.2.1, X.2.2.2.2.1, X.2.2.2.2.2.1, 0, X.2.2.2.2.2.2.2)).2) rfl rfl rfl rfl (by decide) [b0, b1, b2, b3, b4, b5, b6] rfl rfl rfl rfl 0 3 rfl rfl rfl (Nat.le_of_ble_eq_true rfl) ⟨Nat.zero_le _, Nat.zero_le _⟩ rfl dX3_flight_46 ?_
      generalize ez4 : fX3_flyOn p0 (X.1, X.2.1, X.2.2.1, X.2.2.2.1, X.2.2.2.2.1, X.2.2.2.2.2.1, 0, X.2.2.2.2.2.2.2) = z4
      refine k_if_ne C 61 (by decide) dX3_flight_49 (fun c5 => ?_) (fun c5 => ?_)
      ·
        refine k_bipush C (-99) (by decide) dX3_flight_61 ?_
        have hL : fX3_flight_1 p0 X = ((-99), z4.2) := by subst ez4; subst er1; exact (if_neg c2).trans ((if_neg c3).trans ((if_neg c5).trans rfl))
        exact k_iret C rfl (by rw [hL]) (by rw [hL]) dX3_flight_63
      ·
        refine k_aload_n C dX3_flight_52 0 rfl ?_
        refine k_getX3 C 0 16 rfl (by decide) rfl q586 rfl dX3_flight_53 ?_
        refine k_iload_n C dX3_flight_56 2 rfl ?_
        refine k_iald C 6 rfl vi9_1 (ar9_l1 _) dX3_flight_57 ?_
        refine k_goto C 63 (by decide) dX3_flight_58 ?_
        have hL : fX3_flight_1 p0 X = (z4.2.2.2.2.2.2.1.2.1, z4.2) := by subst ez4; subst er1; exact (if_neg c2).trans ((if_neg c3).trans ((if_pos c5).trans rfl))
        exact k_iret C rfl (by rw [hL]) (by rw [hL]) dX3_flight_63
  ·
    refine k_aload_n C dX3_flight_15 0 rfl ?_
    refine k_iconst C 1 (by decide) dX3_flight_16 ?_
    refine k_callV_i C (mX3_no l D cI cJ b0 b1 b2 b3 b4 b5 b6 1 (X.1, X.2.1, X.2.2.1, X.2.2.2.1, X.2.2.2.2.1, X.2.2.2.2.2.1, 0, X.2.2.2.2.2.2.2)) (cwV 1 C.2.2.2.2.1 (kGV q640 q642 q33 q61 q643) rfl rfl rfl ⟨rfl, hdX3_no⟩ ⟨Nat.le_of_ble_eq_true rfl, Nat.le_of_ble_eq_true rfl⟩) [0, 1, 2, 3, 4, 5, 6] [] [0, 1, 2, 3, 4, 5, 6] [] (wM cI b0 b1 b2 b3 b4 b5 b6 (fX3_no 1 (X.1, X.2.1, X.2.2.1, X.2.2.2.1, X.2.2.2.2.1, X.2.2.2.2.2.1, 0, X.2.2.2.2.2.2.2)).2) rfl rfl rfl rfl (by decide) [b0, b1, b2, b3, b4, b5, b6] rfl rfl rfl rfl 0 3 rfl rfl rfl (Nat.le_of_ble_eq_true rfl) ⟨Nat.zero_le _, Nat.zero_le _⟩ rfl dX3_flight_17 ?_
    generalize ez6 : fX3_no 1 (X.1, X.2.1, X.2.2.1, X.2.2.2.1, X.2.2.2.2.1, X.2.2.2.2.2.1, 0, X.2.2.2.2.2.2.2) = z6
    have hL : fX3_flight_1 p0 X = (z6.1, z6.2) := by subst ez6; subst er1; exact (if_pos c2).trans rfl
    exact k_iret C rfl (by rw [hL]) (by rw [hL]) dX3_flight_20

noncomputable def fX3_flight_2 (p0 : Int32) (X : Mo) : Int32 × Mo :=
  if (fX3_isIn p0 0 60) = 0 then ((fX3_no 1 (X.1, X.2.1, X.2.2.1, X.2.2.2.1, X.2.2.2.2.1, X.2.2.2.2.2.1, 0, X.2.2.2.2.2.2.2)).1, (fX3_no 1 (X.1, X.2.1, X.2.2.1, X.2.2.2.1, X.2.2.2.2.1, X.2.2.2.2.2.1, 0, X.2.2.2.2.2.2.2)).2)
  else (if X.2.2.2.2.2.2.2.2.1 = 0 then ((-99), (X.1, X.2.1, X.2.2.1, X.2.2.2.1, X.2.2.2.2.1, X.2.2.2.2.2.1, 0, X.2.2.2.2.2.2.2))
    else (if (fX3_flyOn p0 (X.1, X.2.1, X.2.2.1, X.2.2.2.1, X.2.2.2.2.1, X.2.2.2.2.2.1, 0, X.2.2.2.2.2.2.2)).1 = 0 then ((fX3_flyOn p0 (X.1, X.2.1, X.2.2.1, X.2.2.2.1, X.2.2.2.2.1, X.2.2.2.2.2.1, 0, X.2.2.2.2.2.2.2)).2.2.2.2.2.2.1.2.2.1, (fX3_flyOn p0 (X.1, X.2.1, X.2.2.1, X.2.2.2.1, X.2.2.2.2.1, X.2.2.2.2.2.1, 0, X.2.2.2.2.2.2.2)).2)
      else ((-99), (fX3_flyOn p0 (X.1, X.2.1, X.2.2.1, X.2.2.2.1, X.2.2.2.2.1, X.2.2.2.2.2.1, 0, X.2.2.2.2.2.2.2)).2)))
set_option maxHeartbeats 4000000 in
set_option maxRecDepth 100000 in
theorem mX3_flight_2 (l : Launch) (D : va_G) (cI cJ : ClassId) (b0 b1 b2 b3 b4 b5 b6 : Nat) (p0 : Int32) (X : Mo)  : kCi l D cI cJ yX3_flight (.code yX3_flight cX3_flight 3 (some .int)) { frames := 5, cells := 0, slots := 0, locals := 110 } [.ref b0, .int p0, .int 2] (wM cI b0 b1 b2 b3 b4 b5 b6 X) (fX3_flight_2 p0 X).1 (wM cI b0 b1 b2 b3 b4 b5 b6 (fX3_flight_2 p0 X).2) := by
  refine fun sz => k_of (lv := [(0, .ref b0), (1, .int p0), (2, .int 2)]) (by decide) sz (by exact Nat.le_of_ble_eq_true rfl) rfl ?_
  intro p e s m args below meth c hsz C
  refine k_aload_n C dX3_flight_0 0 rfl ?_
  refine k_iconst C 0 (by decide) dX3_flight_1 ?_
  refine k_putX3 C [(b0, cM b1 b2 b3 b4 b5 b6 (0, X.2.2.2.2.2.2.2)), (b1, cA9 cI X.1), (b2, cA2 cI X.2.1), (b3, cA2 cI X.2.2.1), (b4, cA2 cI X.2.2.2.1), (b5, cA2 cI X.2.2.2.2.1), (b6, cA9 cI X.2.2.2.2.2.1)] 0 0 rfl rfl (by decide) q570 rfl rfl fdI rfl rfl (Nat.le_of_ble_eq_true rfl) dX3_flight_2 ?_
  refine k_iload_n C dX3_flight_5 1 rfl ?_
  refine k_iconst C 0 (by decide) dX3_flight_6 ?_
  refine k_bipush C 60 (by decide) dX3_flight_7 ?_
  refine k_callS_i C (mX3_isIn l D cI cJ p0 0 60) (va_cwS 3 C.2.2.2.2.1 (kGS q637 q638 q61 q639) rfl rfl rfl hdX3_isIn ⟨Nat.le_of_ble_eq_true rfl, Nat.le_of_ble_eq_true rfl⟩) [] [0, 1, 2, 3, 4, 5, 6] [0, 1, 2, 3, 4, 5, 6] [(b0, cM b1 b2 b3 b4 b5 b6 (0, X.2.2.2.2.2.2.2)), (b1, cA9 cI X.1), (b2, cA2 cI X.2.1), (b3, cA2 cI X.2.2.1), (b4, cA2 cI X.2.2.2.1), (b5, cA2 cI X.2.2.2.2.1), (b6, cA9 cI X.2.2.2.2.2.1)] ([(b0, cM b1 b2 b3 b4 b5 b6 (0, X.2.2.2.2.2.2.2)), (b1, cA9 cI X.1), (b2, cA2 cI X.2.1), (b3, cA2 cI X.2.2.1), (b4, cA2 cI X.2.2.2.1), (b5, cA2 cI X.2.2.2.2.1), (b6, cA9 cI X.2.2.2.2.2.1)]) rfl rfl rfl rfl (by decide) [] rfl rfl rfl rfl (Nat.le_of_ble_eq_true rfl) ⟨Nat.zero_le _, Nat.zero_le _⟩ rfl dX3_flight_9 ?_
  generalize er1 : fX3_isIn p0 0 60 = r1
  refine k_if_ne C 21 (by decide) dX3_flight_12 (fun c2 => ?_) (fun c2 => ?_)
  ·
    refine k_iload_n C dX3_flight_21 2 rfl ?_
    refine k_iconst C 0 (by decide) dX3_flight_22 ?_
    refine k_bipush C 8 (by decide) dX3_flight_23 ?_
    refine k_callS_i C (mX3_isIn_k2_0_8 l D cI cJ) (va_cwS 3 C.2.2.2.2.1 (kGS q637 q638 q61 q639) rfl rfl rfl hdX3_isIn ⟨Nat.le_of_ble_eq_true rfl, Nat.le_of_ble_eq_true rfl⟩) [] [0, 1, 2, 3, 4, 5, 6] [0, 1, 2, 3, 4, 5, 6] [(b0, cM b1 b2 b3 b4 b5 b6 (0, X.2.2.2.2.2.2.2)), (b1, cA9 cI X.1), (b2, cA2 cI X.2.1), (b3, cA2 cI X.2.2.1), (b4, cA2 cI X.2.2.2.1), (b5, cA2 cI X.2.2.2.2.1), (b6, cA9 cI X.2.2.2.2.2.1)] ([(b0, cM b1 b2 b3 b4 b5 b6 (0, X.2.2.2.2.2.2.2)), (b1, cA9 cI X.1), (b2, cA2 cI X.2.1), (b3, cA2 cI X.2.2.1), (b4, cA2 cI X.2.2.2.1), (b5, cA2 cI X.2.2.2.2.1), (b6, cA9 cI X.2.2.2.2.2.1)]) rfl rfl rfl rfl (by decide) [] rfl rfl rfl rfl (Nat.le_of_ble_eq_true rfl) ⟨Nat.zero_le _, Nat.zero_le _⟩ rfl dX3_flight_25 ?_
    refine k_if_ne C 37 (by decide) dX3_flight_28 (fun _ => ?_) (fun h => absurd h (by decide))
    refine k_aload_n C dX3_flight_37 0 rfl ?_
    refine k_getX3 C 0 2 rfl (by decide) rfl q572 rfl dX3_flight_38 ?_
    refine k_if_eq C 61 (by decide) dX3_flight_41 (fun c3 => ?_) (fun c3 => ?_)
    ·
      refine k_bipush C (-99) (by decide) dX3_flight_61 ?_
      have hL : fX3_flight_2 p0 X = ((-99), (X.1, X.2.1, X.2.2.1, X.2.2.2.1, X.2.2.2.2.1, X.2.2.2.2.2.1, 0, X.2.2.2.2.2.2.2)) := by subst er1; exact (if_neg c2).trans ((if_pos c3).trans rfl)
      exact k_iret C rfl (by rw [hL]) (by rw [hL]) dX3_flight_63
    ·
      refine k_aload_n C dX3_flight_44 0 rfl ?_
      refine k_iload_n C dX3_flight_45 1 rfl ?_
      refine k_callV_i C (mX3_flyOn l D cI cJ b0 b1 b2 b3 b4 b5 b6 p0 (X.1, X.2.1, X.2.2.1, X.2.2.2.1, X.2.2.2.2.1, X.2.2.2.2.2.1, 0, X.2.2.2.2.2.2.2)) (cwV 1 C.2.2.2.2.1 (kGV q668 q670 q38 q61 q671) rfl rfl rfl ⟨rfl, hdX3_flyOn⟩ ⟨Nat.le_of_ble_eq_true rfl, Nat.le_of_ble_eq_true rfl⟩) [0, 1, 2, 3, 4, 5, 6] [] [0, 1, 2, 3, 4, 5, 6] [] (wM cI b0 b1 b2 b3 b4 b5 b6 (fX3_flyOn p0 (X.1, X.2.1, X.2.2.1, X.2.2.2.1, X.2.2.2.2.1, X.2.2.2.2.2.1, 0, X.2.2.2.2.2.2.2)).2) rfl rfl rfl rfl (by decide) [b0, b1, b2, b3, b4, b5, b6] rfl rfl rfl rfl 0 3 rfl rfl rfl (Nat.le_of_ble_eq_true rfl) ⟨Nat.zero_le _, Nat.zero_le _⟩ rfl dX3_flight_46 ?_
      generalize ez4 : fX3_flyOn p0 (X.1, X.2.1, X.2.2.1, X.2.2.2.1, X.2.2.2.2.1, X.2.2.2.2.2.1, 0, X.2.2.2.2.2.2.2) = z4
      refine k_if_ne C 61 (by decide) dX3_flight_49 (fun c5 => ?_) (fun c5 => ?_)
      ·
        refine k_bipush C (-99) (by decide) dX3_flight_61 ?_
        have hL : fX3_flight_2 p0 X = ((-99), z4.2) := by subst ez4; subst er1; exact (if_neg c2).trans ((if_neg c3).trans ((if_neg c5).trans rfl))
        exact k_iret C rfl (by rw [hL]) (by rw [hL]) dX3_flight_63
      ·
        refine k_aload_n C dX3_flight_52 0 rfl ?_
        refine k_getX3 C 0 16 rfl (by decide) rfl q586 rfl dX3_flight_53 ?_
        refine k_iload_n C dX3_flight_56 2 rfl ?_
        refine k_iald C 6 rfl vi9_2 (ar9_l2 _) dX3_flight_57 ?_
        refine k_goto C 63 (by decide) dX3_flight_58 ?_
        have hL : fX3_flight_2 p0 X = (z4.2.2.2.2.2.2.1.2.2.1, z4.2) := by subst ez4; subst er1; exact (if_neg c2).trans ((if_neg c3).trans ((if_pos c5).trans rfl))
        exact k_iret C rfl (by rw [hL]) (by rw [hL]) dX3_flight_63
  ·
    refine k_aload_n C dX3_flight_15 0 rfl ?_
    refine k_iconst C 1 (by decide) dX3_flight_16 ?_
    refine k_callV_i C (mX3_no l D cI cJ b0 b1 b2 b3 b4 b5 b6 1 (X.1, X.2.1, X.2.2.1, X.2.2.2.1, X.2.2.2.2.1, X.2.2.2.2.2.1, 0, X.2.2.2.2.2.2.2)) (cwV 1 C.2.2.2.2.1 (kGV q640 q642 q33 q61 q643) rfl rfl rfl ⟨rfl, hdX3_no⟩ ⟨Nat.le_of_ble_eq_true rfl, Nat.le_of_ble_eq_true rfl⟩) [0, 1, 2, 3, 4, 5, 6] [] [0, 1, 2, 3, 4, 5, 6] [] (wM cI b0 b1 b2 b3 b4 b5 b6 (fX3_no 1 (X.1, X.2.1, X.2.2.1, X.2.2.2.1, X.2.2.2.2.1, X.2.2.2.2.2.1, 0, X.2.2.2.2.2.2.2)).2) rfl rfl rfl rfl (by decide) [b0, b1, b2, b3, b4, b5, b6] rfl rfl rfl rfl 0 3 rfl rfl rfl (Nat.le_of_ble_eq_true rfl) ⟨Nat.zero_le _, Nat.zero_le _⟩ rfl dX3_flight_17 ?_
    generalize ez6 : fX3_no 1 (X.1, X.2.1, X.2.2.1, X.2.2.2.1, X.2.2.2.2.1, X.2.2.2.2.2.1, 0, X.2.2.2.2.2.2.2) = z6
    have hL : fX3_flight_2 p0 X = (z6.1, z6.2) := by subst ez6; subst er1; exact (if_pos c2).trans rfl
    exact k_iret C rfl (by rw [hL]) (by rw [hL]) dX3_flight_20

noncomputable def fX3_flight_3 (p0 : Int32) (X : Mo) : Int32 × Mo :=
  if (fX3_isIn p0 0 60) = 0 then ((fX3_no 1 (X.1, X.2.1, X.2.2.1, X.2.2.2.1, X.2.2.2.2.1, X.2.2.2.2.2.1, 0, X.2.2.2.2.2.2.2)).1, (fX3_no 1 (X.1, X.2.1, X.2.2.1, X.2.2.2.1, X.2.2.2.2.1, X.2.2.2.2.2.1, 0, X.2.2.2.2.2.2.2)).2)
  else (if X.2.2.2.2.2.2.2.2.1 = 0 then ((-99), (X.1, X.2.1, X.2.2.1, X.2.2.2.1, X.2.2.2.2.1, X.2.2.2.2.2.1, 0, X.2.2.2.2.2.2.2))
    else (if (fX3_flyOn p0 (X.1, X.2.1, X.2.2.1, X.2.2.2.1, X.2.2.2.2.1, X.2.2.2.2.2.1, 0, X.2.2.2.2.2.2.2)).1 = 0 then ((fX3_flyOn p0 (X.1, X.2.1, X.2.2.1, X.2.2.2.1, X.2.2.2.2.1, X.2.2.2.2.2.1, 0, X.2.2.2.2.2.2.2)).2.2.2.2.2.2.1.2.2.2.1, (fX3_flyOn p0 (X.1, X.2.1, X.2.2.1, X.2.2.2.1, X.2.2.2.2.1, X.2.2.2.2.2.1, 0, X.2.2.2.2.2.2.2)).2)
      else ((-99), (fX3_flyOn p0 (X.1, X.2.1, X.2.2.1, X.2.2.2.1, X.2.2.2.2.1, X.2.2.2.2.2.1, 0, X.2.2.2.2.2.2.2)).2)))
set_option maxHeartbeats 4000000 in
set_option maxRecDepth 100000 in
theorem mX3_flight_3 (l : Launch) (D : va_G) (cI cJ : ClassId) (b0 b1 b2 b3 b4 b5 b6 : Nat) (p0 : Int32) (X : Mo)  : kCi l D cI cJ yX3_flight (.code yX3_flight cX3_flight 3 (some .int)) { frames := 5, cells := 0, slots := 0, locals := 110 } [.ref b0, .int p0, .int 3] (wM cI b0 b1 b2 b3 b4 b5 b6 X) (fX3_flight_3 p0 X).1 (wM cI b0 b1 b2 b3 b4 b5 b6 (fX3_flight_3 p0 X).2) := by
  refine fun sz => k_of (lv := [(0, .ref b0), (1, .int p0), (2, .int 3)]) (by decide) sz (by exact Nat.le_of_ble_eq_true rfl) rfl ?_
  intro p e s m args below meth c hsz C
  refine k_aload_n C dX3_flight_0 0 rfl ?_
  refine k_iconst C 0 (by decide) dX3_flight_1 ?_
  refine k_putX3 C [(b0, cM b1 b2 b3 b4 b5 b6 (0, X.2.2.2.2.2.2.2)), (b1, cA9 cI X.1), (b2, cA2 cI X.2.1), (b3, cA2 cI X.2.2.1), (b4, cA2 cI X.2.2.2.1), (b5, cA2 cI X.2.2.2.2.1), (b6, cA9 cI X.2.2.2.2.2.1)] 0 0 rfl rfl (by decide) q570 rfl rfl fdI rfl rfl (Nat.le_of_ble_eq_true rfl) dX3_flight_2 ?_
  refine k_iload_n C dX3_flight_5 1 rfl ?_
  refine k_iconst C 0 (by decide) dX3_flight_6 ?_
  refine k_bipush C 60 (by decide) dX3_flight_7 ?_
  refine k_callS_i C (mX3_isIn l D cI cJ p0 0 60) (va_cwS 3 C.2.2.2.2.1 (kGS q637 q638 q61 q639) rfl rfl rfl hdX3_isIn ⟨Nat.le_of_ble_eq_true rfl, Nat.le_of_ble_eq_true rfl⟩) [] [0, 1, 2, 3, 4, 5, 6] [0, 1, 2, 3, 4, 5, 6] [(b0, cM b1 b2 b3 b4 b5 b6 (0, X.2.2.2.2.2.2.2)), (b1, cA9 cI X.1), (b2, cA2 cI X.2.1), (b3, cA2 cI X.2.2.1), (b4, cA2 cI X.2.2.2.1), (b5, cA2 cI X.2.2.2.2.1), (b6, cA9 cI X.2.2.2.2.2.1)] ([(b0, cM b1 b2 b3 b4 b5 b6 (0, X.2.2.2.2.2.2.2)), (b1, cA9 cI X.1), (b2, cA2 cI X.2.1), (b3, cA2 cI X.2.2.1), (b4, cA2 cI X.2.2.2.1), (b5, cA2 cI X.2.2.2.2.1), (b6, cA9 cI X.2.2.2.2.2.1)]) rfl rfl rfl rfl (by decide) [] rfl rfl rfl rfl (Nat.le_of_ble_eq_true rfl) ⟨Nat.zero_le _, Nat.zero_le _⟩ rfl dX3_flight_9 ?_
  generalize er1 : fX3_isIn p0 0 60 = r1
  refine k_if_ne C 21 (by decide) dX3_flight_12 (fun c2 => ?_) (fun c2 => ?_)
  ·
    refine k_iload_n C dX3_flight_21 2 rfl ?_
    refine k_iconst C 0 (by decide) dX3_flight_22 ?_
    refine k_bipush C 8 (by decide) dX3_flight_23 ?_
    refine k_callS_i C (mX3_isIn_k3_0_8 l D cI cJ) (va_cwS 3 C.2.2.2.2.1 (kGS q637 q638 q61 q639) rfl rfl rfl hdX3_isIn ⟨Nat.le_of_ble_eq_true rfl, Nat.le_of_ble_eq_true rfl⟩) [] [0, 1, 2, 3, 4, 5, 6] [0, 1, 2, 3, 4, 5, 6] [(b0, cM b1 b2 b3 b4 b5 b6 (0, X.2.2.2.2.2.2.2)), (b1, cA9 cI X.1), (b2, cA2 cI X.2.1), (b3, cA2 cI X.2.2.1), (b4, cA2 cI X.2.2.2.1), (b5, cA2 cI X.2.2.2.2.1), (b6, cA9 cI X.2.2.2.2.2.1)] ([(b0, cM b1 b2 b3 b4 b5 b6 (0, X.2.2.2.2.2.2.2)), (b1, cA9 cI X.1), (b2, cA2 cI X.2.1), (b3, cA2 cI X.2.2.1), (b4, cA2 cI X.2.2.2.1), (b5, cA2 cI X.2.2.2.2.1), (b6, cA9 cI X.2.2.2.2.2.1)]) rfl rfl rfl rfl (by decide) [] rfl rfl rfl rfl (Nat.le_of_ble_eq_true rfl) ⟨Nat.zero_le _, Nat.zero_le _⟩ rfl dX3_flight_25 ?_
    refine k_if_ne C 37 (by decide) dX3_flight_28 (fun _ => ?_) (fun h => absurd h (by decide))
    refine k_aload_n C dX3_flight_37 0 rfl ?_
    refine k_getX3 C 0 2 rfl (by decide) rfl q572 rfl dX3_flight_38 ?_
    refine k_if_eq C 61 (by decide) dX3_flight_41 (fun c3 => ?_) (fun c3 => ?_)
    ·
      refine k_bipush C (-99) (by decide) dX3_flight_61 ?_
      have hL : fX3_flight_3 p0 X = ((-99), (X.1, X.2.1, X.2.2.1, X.2.2.2.1, X.2.2.2.2.1, X.2.2.2.2.2.1, 0, X.2.2.2.2.2.2.2)) := by subst er1; exact (if_neg c2).trans ((if_pos c3).trans rfl)
      exact k_iret C rfl (by rw [hL]) (by rw [hL]) dX3_flight_63
    ·
      refine k_aload_n C dX3_flight_44 0 rfl ?_
      refine k_iload_n C dX3_flight_45 1 rfl ?_
      refine k_callV_i C (mX3_flyOn l D cI cJ b0 b1 b2 b3 b4 b5 b6 p0 (X.1, X.2.1, X.2.2.1, X.2.2.2.1, X.2.2.2.2.1, X.2.2.2.2.2.1, 0, X.2.2.2.2.2.2.2)) (cwV 1 C.2.2.2.2.1 (kGV q668 q670 q38 q61 q671) rfl rfl rfl ⟨rfl, hdX3_flyOn⟩ ⟨Nat.le_of_ble_eq_true rfl, Nat.le_of_ble_eq_true rfl⟩) [0, 1, 2, 3, 4, 5, 6] [] [0, 1, 2, 3, 4, 5, 6] [] (wM cI b0 b1 b2 b3 b4 b5 b6 (fX3_flyOn p0 (X.1, X.2.1, X.2.2.1, X.2.2.2.1, X.2.2.2.2.1, X.2.2.2.2.2.1, 0, X.2.2.2.2.2.2.2)).2) rfl rfl rfl rfl (by decide) [b0, b1, b2, b3, b4, b5, b6] rfl rfl rfl rfl 0 3 rfl rfl rfl (Nat.le_of_ble_eq_true rfl) ⟨Nat.zero_le _, Nat.zero_le _⟩ rfl dX3_flight_46 ?_
      generalize ez4 : fX3_flyOn p0 (X.1, X.2.1, X.2.2.1, X.2.2.2.1, X.2.2.2.2.1, X.2.2.2.2.2.1, 0, X.2.2.2.2.2.2.2) = z4
      refine k_if_ne C 61 (by decide) dX3_flight_49 (fun c5 => ?_) (fun c5 => ?_)
      ·
        refine k_bipush C (-99) (by decide) dX3_flight_61 ?_
        have hL : fX3_flight_3 p0 X = ((-99), z4.2) := by subst ez4; subst er1; exact (if_neg c2).trans ((if_neg c3).trans ((if_neg c5).trans rfl))
        exact k_iret C rfl (by rw [hL]) (by rw [hL]) dX3_flight_63
      ·
        refine k_aload_n C dX3_flight_52 0 rfl ?_
        refine k_getX3 C 0 16 rfl (by decide) rfl q586 rfl dX3_flight_53 ?_
        refine k_iload_n C dX3_flight_56 2 rfl ?_
        refine k_iald C 6 rfl vi9_3 (ar9_l3 _) dX3_flight_57 ?_
        refine k_goto C 63 (by decide) dX3_flight_58 ?_
        have hL : fX3_flight_3 p0 X = (z4.2.2.2.2.2.2.1.2.2.2.1, z4.2) := by subst ez4; subst er1; exact (if_neg c2).trans ((if_neg c3).trans ((if_pos c5).trans rfl))
        exact k_iret C rfl (by rw [hL]) (by rw [hL]) dX3_flight_63
  ·
    refine k_aload_n C dX3_flight_15 0 rfl ?_
    refine k_iconst C 1 (by decide) dX3_flight_16 ?_
    refine k_callV_i C (mX3_no l D cI cJ b0 b1 b2 b3 b4 b5 b6 1 (X.1, X.2.1, X.2.2.1, X.2.2.2.1, X.2.2.2.2.1, X.2.2.2.2.2.1, 0, X.2.2.2.2.2.2.2)) (cwV 1 C.2.2.2.2.1 (kGV q640 q642 q33 q61 q643) rfl rfl rfl ⟨rfl, hdX3_no⟩ ⟨Nat.le_of_ble_eq_true rfl, Nat.le_of_ble_eq_true rfl⟩) [0, 1, 2, 3, 4, 5, 6] [] [0, 1, 2, 3, 4, 5, 6] [] (wM cI b0 b1 b2 b3 b4 b5 b6 (fX3_no 1 (X.1, X.2.1, X.2.2.1, X.2.2.2.1, X.2.2.2.2.1, X.2.2.2.2.2.1, 0, X.2.2.2.2.2.2.2)).2) rfl rfl rfl rfl (by decide) [b0, b1, b2, b3, b4, b5, b6] rfl rfl rfl rfl 0 3 rfl rfl rfl (Nat.le_of_ble_eq_true rfl) ⟨Nat.zero_le _, Nat.zero_le _⟩ rfl dX3_flight_17 ?_
    generalize ez6 : fX3_no 1 (X.1, X.2.1, X.2.2.1, X.2.2.2.1, X.2.2.2.2.1, X.2.2.2.2.2.1, 0, X.2.2.2.2.2.2.2) = z6
    have hL : fX3_flight_3 p0 X = (z6.1, z6.2) := by subst ez6; subst er1; exact (if_pos c2).trans rfl
    exact k_iret C rfl (by rw [hL]) (by rw [hL]) dX3_flight_20

noncomputable def fX3_flight_4 (p0 : Int32) (X : Mo) : Int32 × Mo :=
  if (fX3_isIn p0 0 60) = 0 then ((fX3_no 1 (X.1, X.2.1, X.2.2.1, X.2.2.2.1, X.2.2.2.2.1, X.2.2.2.2.2.1, 0, X.2.2.2.2.2.2.2)).1, (fX3_no 1 (X.1, X.2.1, X.2.2.1, X.2.2.2.1, X.2.2.2.2.1, X.2.2.2.2.2.1, 0, X.2.2.2.2.2.2.2)).2)
  else (if X.2.2.2.2.2.2.2.2.1 = 0 then ((-99), (X.1, X.2.1, X.2.2.1, X.2.2.2.1, X.2.2.2.2.1, X.2.2.2.2.2.1, 0, X.2.2.2.2.2.2.2))
    else (if (fX3_flyOn p0 (X.1, X.2.1, X.2.2.1, X.2.2.2.1, X.2.2.2.2.1, X.2.2.2.2.2.1, 0, X.2.2.2.2.2.2.2)).1 = 0 then ((fX3_flyOn p0 (X.1, X.2.1, X.2.2.1, X.2.2.2.1, X.2.2.2.2.1, X.2.2.2.2.2.1, 0, X.2.2.2.2.2.2.2)).2.2.2.2.2.2.1.2.2.2.2.1, (fX3_flyOn p0 (X.1, X.2.1, X.2.2.1, X.2.2.2.1, X.2.2.2.2.1, X.2.2.2.2.2.1, 0, X.2.2.2.2.2.2.2)).2)
      else ((-99), (fX3_flyOn p0 (X.1, X.2.1, X.2.2.1, X.2.2.2.1, X.2.2.2.2.1, X.2.2.2.2.2.1, 0, X.2.2.2.2.2.2.2)).2)))
set_option maxHeartbeats 4000000 in
set_option maxRecDepth 100000 in
theorem mX3_flight_4 (l : Launch) (D : va_G) (cI cJ : ClassId) (b0 b1 b2 b3 b4 b5 b6 : Nat) (p0 : Int32) (X : Mo)  : kCi l D cI cJ yX3_flight (.code yX3_flight cX3_flight 3 (some .int)) { frames := 5, cells := 0, slots := 0, locals := 110 } [.ref b0, .int p0, .int 4] (wM cI b0 b1 b2 b3 b4 b5 b6 X) (fX3_flight_4 p0 X).1 (wM cI b0 b1 b2 b3 b4 b5 b6 (fX3_flight_4 p0 X).2) := by
  refine fun sz => k_of (lv := [(0, .ref b0), (1, .int p0), (2, .int 4)]) (by decide) sz (by exact Nat.le_of_ble_eq_true rfl) rfl ?_
  intro p e s m args below meth c hsz C
  refine k_aload_n C dX3_flight_0 0 rfl ?_
  refine k_iconst C 0 (by decide) dX3_flight_1 ?_
  refine k_putX3 C [(b0, cM b1 b2 b3 b4 b5 b6 (0, X.2.2.2.2.2.2.2)), (b1, cA9 cI X.1), (b2, cA2 cI X.2.1), (b3, cA2 cI X.2.2.1), (b4, cA2 cI X.2.2.2.1), (b5, cA2 cI X.2.2.2.2.1), (b6, cA9 cI X.2.2.2.2.2.1)] 0 0 rfl rfl (by decide) q570 rfl rfl fdI rfl rfl (Nat.le_of_ble_eq_true rfl) dX3_flight_2 ?_
  refine k_iload_n C dX3_flight_5 1 rfl ?_
  refine k_iconst C 0 (by decide) dX3_flight_6 ?_
  refine k_bipush C 60 (by decide) dX3_flight_7 ?_
  refine k_callS_i C (mX3_isIn l D cI cJ p0 0 60) (va_cwS 3 C.2.2.2.2.1 (kGS q637 q638 q61 q639) rfl rfl rfl hdX3_isIn ⟨Nat.le_of_ble_eq_true rfl, Nat.le_of_ble_eq_true rfl⟩) [] [0, 1, 2, 3, 4, 5, 6] [0, 1, 2, 3, 4, 5, 6] [(b0, cM b1 b2 b3 b4 b5 b6 (0, X.2.2.2.2.2.2.2)), (b1, cA9 cI X.1), (b2, cA2 cI X.2.1), (b3, cA2 cI X.2.2.1), (b4, cA2 cI X.2.2.2.1), (b5, cA2 cI X.2.2.2.2.1), (b6, cA9 cI X.2.2.2.2.2.1)] ([(b0, cM b1 b2 b3 b4 b5 b6 (0, X.2.2.2.2.2.2.2)), (b1, cA9 cI X.1), (b2, cA2 cI X.2.1), (b3, cA2 cI X.2.2.1), (b4, cA2 cI X.2.2.2.1), (b5, cA2 cI X.2.2.2.2.1), (b6, cA9 cI X.2.2.2.2.2.1)]) rfl rfl rfl rfl (by decide) [] rfl rfl rfl rfl (Nat.le_of_ble_eq_true rfl) ⟨Nat.zero_le _, Nat.zero_le _⟩ rfl dX3_flight_9 ?_
  generalize er1 : fX3_isIn p0 0 60 = r1
  refine k_if_ne C 21 (by decide) dX3_flight_12 (fun c2 => ?_) (fun c2 => ?_)
  ·
    refine k_iload_n C dX3_flight_21 2 rfl ?_
    refine k_iconst C 0 (by decide) dX3_flight_22 ?_
    refine k_bipush C 8 (by decide) dX3_flight_23 ?_
    refine k_callS_i C (mX3_isIn_k4_0_8 l D cI cJ) (va_cwS 3 C.2.2.2.2.1 (kGS q637 q638 q61 q639) rfl rfl rfl hdX3_isIn ⟨Nat.le_of_ble_eq_true rfl, Nat.le_of_ble_eq_true rfl⟩) [] [0, 1, 2, 3, 4, 5, 6] [0, 1, 2, 3, 4, 5, 6] [(b0, cM b1 b2 b3 b4 b5 b6 (0, X.2.2.2.2.2.2.2)), (b1, cA9 cI X.1), (b2, cA2 cI X.2.1), (b3, cA2 cI X.2.2.1), (b4, cA2 cI X.2.2.2.1), (b5, cA2 cI X.2.2.2.2.1), (b6, cA9 cI X.2.2.2.2.2.1)] ([(b0, cM b1 b2 b3 b4 b5 b6 (0, X.2.2.2.2.2.2.2)), (b1, cA9 cI X.1), (b2, cA2 cI X.2.1), (b3, cA2 cI X.2.2.1), (b4, cA2 cI X.2.2.2.1), (b5, cA2 cI X.2.2.2.2.1), (b6, cA9 cI X.2.2.2.2.2.1)]) rfl rfl rfl rfl (by decide) [] rfl rfl rfl rfl (Nat.le_of_ble_eq_true rfl) ⟨Nat.zero_le _, Nat.zero_le _⟩ rfl dX3_flight_25 ?_
    refine k_if_ne C 37 (by decide) dX3_flight_28 (fun _ => ?_) (fun h => absurd h (by decide))
    refine k_aload_n C dX3_flight_37 0 rfl ?_
    refine k_getX3 C 0 2 rfl (by decide) rfl q572 rfl dX3_flight_38 ?_
    refine k_if_eq C 61 (by decide) dX3_flight_41 (fun c3 => ?_) (fun c3 => ?_)
    ·
      refine k_bipush C (-99) (by decide) dX3_flight_61 ?_
      have hL : fX3_flight_4 p0 X = ((-99), (X.1, X.2.1, X.2.2.1, X.2.2.2.1, X.2.2.2.2.1, X.2.2.2.2.2.1, 0, X.2.2.2.2.2.2.2)) := by subst er1; exact (if_neg c2).trans ((if_pos c3).trans rfl)
      exact k_iret C rfl (by rw [hL]) (by rw [hL]) dX3_flight_63
    ·
      refine k_aload_n C dX3_flight_44 0 rfl ?_
      refine k_iload_n C dX3_flight_45 1 rfl ?_
      refine k_callV_i C (mX3_flyOn l D cI cJ b0 b1 b2 b3 b4 b5 b6 p0 (X.1, X.2.1, X.2.2.1, X.2.2.2.1, X.2.2.2.2.1, X.2.2.2.2.2.1, 0, X.2.2.2.2.2.2.2)) (cwV 1 C.2.2.2.2.1 (kGV q668 q670 q38 q61 q671) rfl rfl rfl ⟨rfl, hdX3_flyOn⟩ ⟨Nat.le_of_ble_eq_true rfl, Nat.le_of_ble_eq_true rfl⟩) [0, 1, 2, 3, 4, 5, 6] [] [0, 1, 2, 3, 4, 5, 6] [] (wM cI b0 b1 b2 b3 b4 b5 b6 (fX3_flyOn p0 (X.1, X.2.1, X.2.2.1, X.2.2.2.1, X.2.2.2.2.1, X.2.2.2.2.2.1, 0, X.2.2.2.2.2.2.2)).2) rfl rfl rfl rfl (by decide) [b0, b1, b2, b3, b4, b5, b6] rfl rfl rfl rfl 0 3 rfl rfl rfl (Nat.le_of_ble_eq_true rfl) ⟨Nat.zero_le _, Nat.zero_le _⟩ rfl dX3_flight_46 ?_
      generalize ez4 : fX3_flyOn p0 (X.1, X.2.1, X.2.2.1, X.2.2.2.1, X.2.2.2.2.1, X.2.2.2.2.2.1, 0, X.2.2.2.2.2.2.2) = z4
      refine k_if_ne C 61 (by decide) dX3_flight_49 (fun c5 => ?_) (fun c5 => ?_)
      ·
        refine k_bipush C (-99) (by decide) dX3_flight_61 ?_
        have hL : fX3_flight_4 p0 X = ((-99), z4.2) := by subst ez4; subst er1; exact (if_neg c2).trans ((if_neg c3).trans ((if_neg c5).trans rfl))
        exact k_iret C rfl (by rw [hL]) (by rw [hL]) dX3_flight_63
      ·
        refine k_aload_n C dX3_flight_52 0 rfl ?_
        refine k_getX3 C 0 16 rfl (by decide) rfl q586 rfl dX3_flight_53 ?_
        refine k_iload_n C dX3_flight_56 2 rfl ?_
        refine k_iald C 6 rfl vi9_4 (ar9_l4 _) dX3_flight_57 ?_
        refine k_goto C 63 (by decide) dX3_flight_58 ?_
        have hL : fX3_flight_4 p0 X = (z4.2.2.2.2.2.2.1.2.2.2.2.1, z4.2) := by subst ez4; subst er1; exact (if_neg c2).trans ((if_neg c3).trans ((if_pos c5).trans rfl))
        exact k_iret C rfl (by rw [hL]) (by rw [hL]) dX3_flight_63
  ·
    refine k_aload_n C dX3_flight_15 0 rfl ?_
    refine k_iconst C 1 (by decide) dX3_flight_16 ?_
    refine k_callV_i C (mX3_no l D cI cJ b0 b1 b2 b3 b4 b5 b6 1 (X.1, X.2.1, X.2.2.1, X.2.2.2.1, X.2.2.2.2.1, X.2.2.2.2.2.1, 0, X.2.2.2.2.2.2.2)) (cwV 1 C.2.2.2.2.1 (kGV q640 q642 q33 q61 q643) rfl rfl rfl ⟨rfl, hdX3_no⟩ ⟨Nat.le_of_ble_eq_true rfl, Nat.le_of_ble_eq_true rfl⟩) [0, 1, 2, 3, 4, 5, 6] [] [0, 1, 2, 3, 4, 5, 6] [] (wM cI b0 b1 b2 b3 b4 b5 b6 (fX3_no 1 (X.1, X.2.1, X.2.2.1, X.2.2.2.1, X.2.2.2.2.1, X.2.2.2.2.2.1, 0, X.2.2.2.2.2.2.2)).2) rfl rfl rfl rfl (by decide) [b0, b1, b2, b3, b4, b5, b6] rfl rfl rfl rfl 0 3 rfl rfl rfl (Nat.le_of_ble_eq_true rfl) ⟨Nat.zero_le _, Nat.zero_le _⟩ rfl dX3_flight_17 ?_
    generalize ez6 : fX3_no 1 (X.1, X.2.1, X.2.2.1, X.2.2.2.1, X.2.2.2.2.1, X.2.2.2.2.2.1, 0, X.2.2.2.2.2.2.2) = z6
    have hL : fX3_flight_4 p0 X = (z6.1, z6.2) := by subst ez6; subst er1; exact (if_pos c2).trans rfl
    exact k_iret C rfl (by rw [hL]) (by rw [hL]) dX3_flight_20

noncomputable def fX3_flight_5 (p0 : Int32) (X : Mo) : Int32 × Mo :=
  if (fX3_isIn p0 0 60) = 0 then ((fX3_no 1 (X.1, X.2.1, X.2.2.1, X.2.2.2.1, X.2.2.2.2.1, X.2.2.2.2.2.1, 0, X.2.2.2.2.2.2.2)).1, (fX3_no 1 (X.1, X.2.1, X.2.2.1, X.2.2.2.1, X.2.2.2.2.1, X.2.2.2.2.2.1, 0, X.2.2.2.2.2.2.2)).2)
  else (if X.2.2.2.2.2.2.2.2.1 = 0 then ((-99), (X.1, X.2.1, X.2.2.1, X.2.2.2.1, X.2.2.2.2.1, X.2.2.2.2.2.1, 0, X.2.2.2.2.2.2.2))
    else (if (fX3_flyOn p0 (X.1, X.2.1, X.2.2.1, X.2.2.2.1, X.2.2.2.2.1, X.2.2.2.2.2.1, 0, X.2.2.2.2.2.2.2)).1 = 0 then ((fX3_flyOn p0 (X.1, X.2.1, X.2.2.1, X.2.2.2.1, X.2.2.2.2.1, X.2.2.2.2.2.1, 0, X.2.2.2.2.2.2.2)).2.2.2.2.2.2.1.2.2.2.2.2.1, (fX3_flyOn p0 (X.1, X.2.1, X.2.2.1, X.2.2.2.1, X.2.2.2.2.1, X.2.2.2.2.2.1, 0, X.2.2.2.2.2.2.2)).2)
      else ((-99), (fX3_flyOn p0 (X.1, X.2.1, X.2.2.1, X.2.2.2.1, X.2.2.2.2.1, X.2.2.2.2.2.1, 0, X.2.2.2.2.2.2.2)).2)))
set_option maxHeartbeats 4000000 in
set_option maxRecDepth 100000 in
theorem mX3_flight_5 (l : Launch) (D : va_G) (cI cJ : ClassId) (b0 b1 b2 b3 b4 b5 b6 : Nat) (p0 : Int32) (X : Mo)  : kCi l D cI cJ yX3_flight (.code yX3_flight cX3_flight 3 (some .int)) { frames := 5, cells := 0, slots := 0, locals := 110 } [.ref b0, .int p0, .int 5] (wM cI b0 b1 b2 b3 b4 b5 b6 X) (fX3_flight_5 p0 X).1 (wM cI b0 b1 b2 b3 b4 b5 b6 (fX3_flight_5 p0 X).2) := by
  refine fun sz => k_of (lv := [(0, .ref b0), (1, .int p0), (2, .int 5)]) (by decide) sz (by exact Nat.le_of_ble_eq_true rfl) rfl ?_
  intro p e s m args below meth c hsz C
  refine k_aload_n C dX3_flight_0 0 rfl ?_
  refine k_iconst C 0 (by decide) dX3_flight_1 ?_
  refine k_putX3 C [(b0, cM b1 b2 b3 b4 b5 b6 (0, X.2.2.2.2.2.2.2)), (b1, cA9 cI X.1), (b2, cA2 cI X.2.1), (b3, cA2 cI X.2.2.1), (b4, cA2 cI X.2.2.2.1), (b5, cA2 cI X.2.2.2.2.1), (b6, cA9 cI X.2.2.2.2.2.1)] 0 0 rfl rfl (by decide) q570 rfl rfl fdI rfl rfl (Nat.le_of_ble_eq_true rfl) dX3_flight_2 ?_
  refine k_iload_n C dX3_flight_5 1 rfl ?_
  refine k_iconst C 0 (by decide) dX3_flight_6 ?_
  refine k_bipush C 60 (by decide) dX3_flight_7 ?_
  refine k_callS_i C (mX3_isIn l D cI cJ p0 0 60) (va_cwS 3 C.2.2.2.2.1 (kGS q637 q638 q61 q639) rfl rfl rfl hdX3_isIn ⟨Nat.le_of_ble_eq_true rfl, Nat.le_of_ble_eq_true rfl⟩) [] [0, 1, 2, 3, 4, 5, 6] [0, 1, 2, 3, 4, 5, 6] [(b0, cM b1 b2 b3 b4 b5 b6 (0, X.2.2.2.2.2.2.2)), (b1, cA9 cI X.1), (b2, cA2 cI X.2.1), (b3, cA2 cI X.2.2.1), (b4, cA2 cI X.2.2.2.1), (b5, cA2 cI X.2.2.2.2.1), (b6, cA9 cI X.2.2.2.2.2.1)] ([(b0, cM b1 b2 b3 b4 b5 b6 (0, X.2.2.2.2.2.2.2)), (b1, cA9 cI X.1), (b2, cA2 cI X.2.1), (b3, cA2 cI X.2.2.1), (b4, cA2 cI X.2.2.2.1), (b5, cA2 cI X.2.2.2.2.1), (b6, cA9 cI X.2.2.2.2.2.1)]) rfl rfl rfl rfl (by decide) [] rfl rfl rfl rfl (Nat.le_of_ble_eq_true rfl) ⟨Nat.zero_le _, Nat.zero_le _⟩ rfl dX3_flight_9 ?_
  generalize er1 : fX3_isIn p0 0 60 = r1
  refine k_if_ne C 21 (by decide) dX3_flight_12 (fun c2 => ?_) (fun c2 => ?_)
  ·
    refine k_iload_n C dX3_flight_21 2 rfl ?_
    refine k_iconst C 0 (by decide) dX3_flight_22 ?_
    refine k_bipush C 8 (by decide) dX3_flight_23 ?_
    refine k_callS_i C (mX3_isIn_k5_0_8 l D cI cJ) (va_cwS 3 C.2.2.2.2.1 (kGS q637 q638 q61 q639) rfl rfl rfl hdX3_isIn ⟨Nat.le_of_ble_eq_true rfl, Nat.le_of_ble_eq_true rfl⟩) [] [0, 1, 2, 3, 4, 5, 6] [0, 1, 2, 3, 4, 5, 6] [(b0, cM b1 b2 b3 b4 b5 b6 (0, X.2.2.2.2.2.2.2)), (b1, cA9 cI X.1), (b2, cA2 cI X.2.1), (b3, cA2 cI X.2.2.1), (b4, cA2 cI X.2.2.2.1), (b5, cA2 cI X.2.2.2.2.1), (b6, cA9 cI X.2.2.2.2.2.1)] ([(b0, cM b1 b2 b3 b4 b5 b6 (0, X.2.2.2.2.2.2.2)), (b1, cA9 cI X.1), (b2, cA2 cI X.2.1), (b3, cA2 cI X.2.2.1), (b4, cA2 cI X.2.2.2.1), (b5, cA2 cI X.2.2.2.2.1), (b6, cA9 cI X.2.2.2.2.2.1)]) rfl rfl rfl rfl (by decide) [] rfl rfl rfl rfl (Nat.le_of_ble_eq_true rfl) ⟨Nat.zero_le _, Nat.zero_le _⟩ rfl dX3_flight_25 ?_
    refine k_if_ne C 37 (by decide) dX3_flight_28 (fun _ => ?_) (fun h => absurd h (by decide))
    refine k_aload_n C dX3_flight_37 0 rfl ?_
    refine k_getX3 C 0 2 rfl (by decide) rfl q572 rfl dX3_flight_38 ?_
    refine k_if_eq C 61 (by decide) dX3_flight_41 (fun c3 => ?_) (fun c3 => ?_)
    ·
      refine k_bipush C (-99) (by decide) dX3_flight_61 ?_
      have hL : fX3_flight_5 p0 X = ((-99), (X.1, X.2.1, X.2.2.1, X.2.2.2.1, X.2.2.2.2.1, X.2.2.2.2.2.1, 0, X.2.2.2.2.2.2.2)) := by subst er1; exact (if_neg c2).trans ((if_pos c3).trans rfl)
      exact k_iret C rfl (by rw [hL]) (by rw [hL]) dX3_flight_63
    ·
      refine k_aload_n C dX3_flight_44 0 rfl ?_
      refine k_iload_n C dX3_flight_45 1 rfl ?_
      refine k_callV_i C (mX3_flyOn l D cI cJ b0 b1 b2 b3 b4 b5 b6 p0 (X.1, X.2.1, X.2.2.1, X.2.2.2.1, X.2.2.2.2.1, X.2.2.2.2.2.1, 0, X.2.2.2.2.2.2.2)) (cwV 1 C.2.2.2.2.1 (kGV q668 q670 q38 q61 q671) rfl rfl rfl ⟨rfl, hdX3_flyOn⟩ ⟨Nat.le_of_ble_eq_true rfl, Nat.le_of_ble_eq_true rfl⟩) [0, 1, 2, 3, 4, 5, 6] [] [0, 1, 2, 3, 4, 5, 6] [] (wM cI b0 b1 b2 b3 b4 b5 b6 (fX3_flyOn p0 (X.1, X.2.1, X.2.2.1, X.2.2.2.1, X.2.2.2.2.1, X.2.2.2.2.2.1, 0, X.2.2.2.2.2.2.2)).2) rfl rfl rfl rfl (by decide) [b0, b1, b2, b3, b4, b5, b6] rfl rfl rfl rfl 0 3 rfl rfl rfl (Nat.le_of_ble_eq_true rfl) ⟨Nat.zero_le _, Nat.zero_le _⟩ rfl dX3_flight_46 ?_
      generalize ez4 : fX3_flyOn p0 (X.1, X.2.1, X.2.2.1, X.2.2.2.1, X.2.2.2.2.1, X.2.2.2.2.2.1, 0, X.2.2.2.2.2.2.2) = z4
      refine k_if_ne C 61 (by decide) dX3_flight_49 (fun c5 => ?_) (fun c5 => ?_)
      ·
        refine k_bipush C (-99) (by decide) dX3_flight_61 ?_
        have hL : fX3_flight_5 p0 X = ((-99), z4.2) := by subst ez4; subst er1; exact (if_neg c2).trans ((if_neg c3).trans ((if_neg c5).trans rfl))
        exact k_iret C rfl (by rw [hL]) (by rw [hL]) dX3_flight_63
      ·
        refine k_aload_n C dX3_flight_52 0 rfl ?_
        refine k_getX3 C 0 16 rfl (by decide) rfl q586 rfl dX3_flight_53 ?_
        refine k_iload_n C dX3_flight_56 2 rfl ?_
        refine k_iald C 6 rfl vi9_5 (ar9_l5 _) dX3_flight_57 ?_
        refine k_goto C 63 (by decide) dX3_flight_58 ?_
        have hL : fX3_flight_5 p0 X = (z4.2.2.2.2.2.2.1.2.2.2.2.2.1, z4.2) := by subst ez4; subst er1; exact (if_neg c2).trans ((if_neg c3).trans ((if_pos c5).trans rfl))
        exact k_iret C rfl (by rw [hL]) (by rw [hL]) dX3_flight_63
  ·
    refine k_aload_n C dX3_flight_15 0 rfl ?_
    refine k_iconst C 1 (by decide) dX3_flight_16 ?_
    refine k_callV_i C (mX3_no l D cI cJ b0 b1 b2 b3 b4 b5 b6 1 (X.1, X.2.1, X.2.2.1, X.2.2.2.1, X.2.2.2.2.1, X.2.2.2.2.2.1, 0, X.2.2.2.2.2.2.2)) (cwV 1 C.2.2.2.2.1 (kGV q640 q642 q33 q61 q643) rfl rfl rfl ⟨rfl, hdX3_no⟩ ⟨Nat.le_of_ble_eq_true rfl, Nat.le_of_ble_eq_true rfl⟩) [0, 1, 2, 3, 4, 5, 6] [] [0, 1, 2, 3, 4, 5, 6] [] (wM cI b0 b1 b2 b3 b4 b5 b6 (fX3_no 1 (X.1, X.2.1, X.2.2.1, X.2.2.2.1, X.2.2.2.2.1, X.2.2.2.2.2.1, 0, X.2.2.2.2.2.2.2)).2) rfl rfl rfl rfl (by decide) [b0, b1, b2, b3, b4, b5, b6] rfl rfl rfl rfl 0 3 rfl rfl rfl (Nat.le_of_ble_eq_true rfl) ⟨Nat.zero_le _, Nat.zero_le _⟩ rfl dX3_flight_17 ?_
    generalize ez6 : fX3_no 1 (X.1, X.2.1, X.2.2.1, X.2.2.2.1, X.2.2.2.2.1, X.2.2.2.2.2.1, 0, X.2.2.2.2.2.2.2) = z6
    have hL : fX3_flight_5 p0 X = (z6.1, z6.2) := by subst ez6; subst er1; exact (if_pos c2).trans rfl
    exact k_iret C rfl (by rw [hL]) (by rw [hL]) dX3_flight_20

noncomputable def fX3_flight_6 (p0 : Int32) (X : Mo) : Int32 × Mo :=
  if (fX3_isIn p0 0 60) = 0 then ((fX3_no 1 (X.1, X.2.1, X.2.2.1, X.2.2.2.1, X.2.2.2.2.1, X.2.2.2.2.2.1, 0, X.2.2.2.2.2.2.2)).1, (fX3_no 1 (X.1, X.2.1, X.2.2.1, X.2.2.2.1, X.2.2.2.2.1, X.2.2.2.2.2.1, 0, X.2.2.2.2.2.2.2)).2)
  else (if X.2.2.2.2.2.2.2.2.1 = 0 then ((-99), (X.1, X.2.1, X.2.2.1, X.2.2.2.1, X.2.2.2.2.1, X.2.2.2.2.2.1, 0, X.2.2.2.2.2.2.2))
    else (if (fX3_flyOn p0 (X.1, X.2.1, X.2.2.1, X.2.2.2.1, X.2.2.2.2.1, X.2.2.2.2.2.1, 0, X.2.2.2.2.2.2.2)).1 = 0 then ((fX3_flyOn p0 (X.1, X.2.1, X.2.2.1, X.2.2.2.1, X.2.2.2.2.1, X.2.2.2.2.2.1, 0, X.2.2.2.2.2.2.2)).2.2.2.2.2.2.1.2.2.2.2.2.2.1, (fX3_flyOn p0 (X.1, X.2.1, X.2.2.1, X.2.2.2.1, X.2.2.2.2.1, X.2.2.2.2.2.1, 0, X.2.2.2.2.2.2.2)).2)
      else ((-99), (fX3_flyOn p0 (X.1, X.2.1, X.2.2.1, X.2.2.2.1, X.2.2.2.2.1, X.2.2.2.2.2.1, 0, X.2.2.2.2.2.2.2)).2)))
set_option maxHeartbeats 4000000 in
set_option maxRecDepth 100000 in
theorem mX3_flight_6 (l : Launch) (D : va_G) (cI cJ : ClassId) (b0 b1 b2 b3 b4 b5 b6 : Nat) (p0 : Int32) (X : Mo)  : kCi l D cI cJ yX3_flight (.code yX3_flight cX3_flight 3 (some .int)) { frames := 5, cells := 0, slots := 0, locals := 110 } [.ref b0, .int p0, .int 6] (wM cI b0 b1 b2 b3 b4 b5 b6 X) (fX3_flight_6 p0 X).1 (wM cI b0 b1 b2 b3 b4 b5 b6 (fX3_flight_6 p0 X).2) := by
  refine fun sz => k_of (lv := [(0, .ref b0), (1, .int p0), (2, .int 6)]) (by decide) sz (by exact Nat.le_of_ble_eq_true rfl) rfl ?_
  intro p e s m args below meth c hsz C
  refine k_aload_n C dX3_flight_0 0 rfl ?_
  refine k_iconst C 0 (by decide) dX3_flight_1 ?_
  refine k_putX3 C [(b0, cM b1 b2 b3 b4 b5 b6 (0, X.2.2.2.2.2.2.2)), (b1, cA9 cI X.1), (b2, cA2 cI X.2.1), (b3, cA2 cI X.2.2.1), (b4, cA2 cI X.2.2.2.1), (b5, cA2 cI X.2.2.2.2.1), (b6, cA9 cI X.2.2.2.2.2.1)] 0 0 rfl rfl (by decide) q570 rfl rfl fdI rfl rfl (Nat.le_of_ble_eq_true rfl) dX3_flight_2 ?_
  refine k_iload_n C dX3_flight_5 1 rfl ?_
  refine k_iconst C 0 (by decide) dX3_flight_6 ?_
  refine k_bipush C 60 (by decide) dX3_flight_7 ?_
  refine k_callS_i C (mX3_isIn l D cI cJ p0 0 60) (va_cwS 3 C.2.2.2.2.1 (kGS q637 q638 q61 q639) rfl rfl rfl hdX3_isIn ⟨Nat.le_of_ble_eq_true rfl, Nat.le_of_ble_eq_true rfl⟩) [] [0, 1, 2, 3, 4, 5, 6] [0, 1, 2, 3, 4, 5, 6] [(b0, cM b1 b2 b3 b4 b5 b6 (0, X.2.2.2.2.2.2.2)), (b1, cA9 cI X.1), (b2, cA2 cI X.2.1), (b3, cA2 cI X.2.2.1), (b4, cA2 cI X.2.2.2.1), (b5, cA2 cI X.2.2.2.2.1), (b6, cA9 cI X.2.2.2.2.2.1)] ([(b0, cM b1 b2 b3 b4 b5 b6 (0, X.2.2.2.2.2.2.2)), (b1, cA9 cI X.1), (b2, cA2 cI X.2.1), (b3, cA2 cI X.2.2.1), (b4, cA2 cI X.2.2.2.1), (b5, cA2 cI X.2.2.2.2.1), (b6, cA9 cI X.2.2.2.2.2.1)]) rfl rfl rfl rfl (by decide) [] rfl rfl rfl rfl (Nat.le_of_ble_eq_true rfl) ⟨Nat.zero_le _, Nat.zero_le _⟩ rfl dX3_flight_9 ?_
  generalize er1 : fX3_isIn p0 0 60 = r1
  refine k_if_ne C 21 (by decide) dX3_flight_12 (fun c2 => ?_) (fun c2 => ?_)
  ·
    refine k_iload_n C dX3_flight_21 2 rfl ?_
    refine k_iconst C 0 (by decide) dX3_flight_22 ?_
    refine k_bipush C 8 (by decide) dX3_flight_23 ?_
    refine k_callS_i C (mX3_isIn_k6_0_8 l D cI cJ) (va_cwS 3 C.2.2.2.2.1 (kGS q637 q638 q61 q639) rfl rfl rfl hdX3_isIn ⟨Nat.le_of_ble_eq_true rfl, Nat.le_of_ble_eq_true rfl⟩) [] [0, 1, 2, 3, 4, 5, 6] [0, 1, 2, 3, 4, 5, 6] [(b0, cM b1 b2 b3 b4 b5 b6 (0, X.2.2.2.2.2.2.2)), (b1, cA9 cI X.1), (b2, cA2 cI X.2.1), (b3, cA2 cI X.2.2.1), (b4, cA2 cI X.2.2.2.1), (b5, cA2 cI X.2.2.2.2.1), (b6, cA9 cI X.2.2.2.2.2.1)] ([(b0, cM b1 b2 b3 b4 b5 b6 (0, X.2.2.2.2.2.2.2)), (b1, cA9 cI X.1), (b2, cA2 cI X.2.1), (b3, cA2 cI X.2.2.1), (b4, cA2 cI X.2.2.2.1), (b5, cA2 cI X.2.2.2.2.1), (b6, cA9 cI X.2.2.2.2.2.1)]) rfl rfl rfl rfl (by decide) [] rfl rfl rfl rfl (Nat.le_of_ble_eq_true rfl) ⟨Nat.zero_le _, Nat.zero_le _⟩ rfl dX3_flight_25 ?_
    refine k_if_ne C 37 (by decide) dX3_flight_28 (fun _ => ?_) (fun h => absurd h (by decide))
    refine k_aload_n C dX3_flight_37 0 rfl ?_
    refine k_getX3 C 0 2 rfl (by decide) rfl q572 rfl dX3_flight_38 ?_
    refine k_if_eq C 61 (by decide) dX3_flight_41 (fun c3 => ?_) (fun c3 => ?_)
    ·
      refine k_bipush C (-99) (by decide) dX3_flight_61 ?_
      have hL : fX3_flight_6 p0 X = ((-99), (X.1, X.2.1, X.2.2.1, X.2.2.2.1, X.2.2.2.2.1, X.2.2.2.2.2.1, 0, X.2.2.2.2.2.2.2)) := by subst er1; exact (if_neg c2).trans ((if_pos c3).trans rfl)
      exact k_iret C rfl (by rw [hL]) (by rw [hL]) dX3_flight_63
    ·
      refine k_aload_n C dX3_flight_44 0 rfl ?_
      refine k_iload_n C dX3_flight_45 1 rfl ?_
      refine k_callV_i C (mX3_flyOn l D cI cJ b0 b1 b2 b3 b4 b5 b6 p0 (X.1, X.2.1, X.2.2.1, X.2.2.2.1, X.2.2.2.2.1, X.2.2.2.2.2.1, 0, X.2.2.2.2.2.2.2)) (cwV 1 C.2.2.2.2.1 (kGV q668 q670 q38 q61 q671) rfl rfl rfl ⟨rfl, hdX3_flyOn⟩ ⟨Nat.le_of_ble_eq_true rfl, Nat.le_of_ble_eq_true rfl⟩) [0, 1, 2, 3, 4, 5, 6] [] [0, 1, 2, 3, 4, 5, 6] [] (wM cI b0 b1 b2 b3 b4 b5 b6 (fX3_flyOn p0 (X.1, X.2.1, X.2.2.1, X.2.2.2.1, X.2.2.2.2.1, X.2.2.2.2.2.1, 0, X.2.2.2.2.2.2.2)).2) rfl rfl rfl rfl (by decide) [b0, b1, b2, b3, b4, b5, b6] rfl rfl rfl rfl 0 3 rfl rfl rfl (Nat.le_of_ble_eq_true rfl) ⟨Nat.zero_le _, Nat.zero_le _⟩ rfl dX3_flight_46 ?_
      generalize ez4 : fX3_flyOn p0 (X.1, X.2.1, X.2.2.1, X.2.2.2.1, X.2.2.2.2.1, X.2.2.2.2.2.1, 0, X.2.2.2.2.2.2.2) = z4
      refine k_if_ne C 61 (by decide) dX3_flight_49 (fun c5 => ?_) (fun c5 => ?_)
      ·
        refine k_bipush C (-99) (by decide) dX3_flight_61 ?_
        have hL : fX3_flight_6 p0 X = ((-99), z4.2) := by subst ez4; subst er1; exact (if_neg c2).trans ((if_neg c3).trans ((if_neg c5).trans rfl))
        exact k_iret C rfl (by rw [hL]) (by rw [hL]) dX3_flight_63
      ·
        refine k_aload_n C dX3_flight_52 0 rfl ?_
        refine k_getX3 C 0 16 rfl (by decide) rfl q586 rfl dX3_flight_53 ?_
        refine k_iload_n C dX3_flight_56 2 rfl ?_
        refine k_iald C 6 rfl vi9_6 (ar9_l6 _) dX3_flight_57 ?_
        refine k_goto C 63 (by decide) dX3_flight_58 ?_
        have hL : fX3_flight_6 p0 X = (z4.2.2.2.2.2.2.1.2.2.2.2.2.2.1, z4.2) := by subst ez4; subst er1; exact (if_neg c2).trans ((if_neg c3).trans ((if_pos c5).trans rfl))
        exact k_iret C rfl (by rw [hL]) (by rw [hL]) dX3_flight_63
  ·
    refine k_aload_n C dX3_flight_15 0 rfl ?_
    refine k_iconst C 1 (by decide) dX3_flight_16 ?_
    refine k_callV_i C (mX3_no l D cI cJ b0 b1 b2 b3 b4 b5 b6 1 (X.1, X.2.1, X.2.2.1, X.2.2.2.1, X.2.2.2.2.1, X.2.2.2.2.2.1, 0, X.2.2.2.2.2.2.2)) (cwV 1 C.2.2.2.2.1 (kGV q640 q642 q33 q61 q643) rfl rfl rfl ⟨rfl, hdX3_no⟩ ⟨Nat.le_of_ble_eq_true rfl, Nat.le_of_ble_eq_true rfl⟩) [0, 1, 2, 3, 4, 5, 6] [] [0, 1, 2, 3, 4, 5, 6] [] (wM cI b0 b1 b2 b3 b4 b5 b6 (fX3_no 1 (X.1, X.2.1, X.2.2.1, X.2.2.2.1, X.2.2.2.2.1, X.2.2.2.2.2.1, 0, X.2.2.2.2.2.2.2)).2) rfl rfl rfl rfl (by decide) [b0, b1, b2, b3, b4, b5, b6] rfl rfl rfl rfl 0 3 rfl rfl rfl (Nat.le_of_ble_eq_true rfl) ⟨Nat.zero_le _, Nat.zero_le _⟩ rfl dX3_flight_17 ?_
    generalize ez6 : fX3_no 1 (X.1, X.2.1, X.2.2.1, X.2.2.2.1, X.2.2.2.2.1, X.2.2.2.2.2.1, 0, X.2.2.2.2.2.2.2) = z6
    have hL : fX3_flight_6 p0 X = (z6.1, z6.2) := by subst ez6; subst er1; exact (if_pos c2).trans rfl
    exact k_iret C rfl (by rw [hL]) (by rw [hL]) dX3_flight_20

noncomputable def fX3_flight_7 (p0 : Int32) (X : Mo) : Int32 × Mo :=
  if (fX3_isIn p0 0 60) = 0 then ((fX3_no 1 (X.1, X.2.1, X.2.2.1, X.2.2.2.1, X.2.2.2.2.1, X.2.2.2.2.2.1, 0, X.2.2.2.2.2.2.2)).1, (fX3_no 1 (X.1, X.2.1, X.2.2.1, X.2.2.2.1, X.2.2.2.2.1, X.2.2.2.2.2.1, 0, X.2.2.2.2.2.2.2)).2)
  else (if X.2.2.2.2.2.2.2.2.1 = 0 then ((-99), (X.1, X.2.1, X.2.2.1, X.2.2.2.1, X.2.2.2.2.1, X.2.2.2.2.2.1, 0, X.2.2.2.2.2.2.2))
    else (if (fX3_flyOn p0 (X.1, X.2.1, X.2.2.1, X.2.2.2.1, X.2.2.2.2.1, X.2.2.2.2.2.1, 0, X.2.2.2.2.2.2.2)).1 = 0 then ((fX3_flyOn p0 (X.1, X.2.1, X.2.2.1, X.2.2.2.1, X.2.2.2.2.1, X.2.2.2.2.2.1, 0, X.2.2.2.2.2.2.2)).2.2.2.2.2.2.1.2.2.2.2.2.2.2.1, (fX3_flyOn p0 (X.1, X.2.1, X.2.2.1, X.2.2.2.1, X.2.2.2.2.1, X.2.2.2.2.2.1, 0, X.2.2.2.2.2.2.2)).2)
      else ((-99), (fX3_flyOn p0 (X.1, X.2.1, X.2.2.1, X.2.2.2.1, X.2.2.2.2.1, X.2.2.2.2.2.1, 0, X.2.2.2.2.2.2.2)).2)))
set_option maxHeartbeats 4000000 in
set_option maxRecDepth 100000 in
theorem mX3_flight_7 (l : Launch) (D : va_G) (cI cJ : ClassId) (b0 b1 b2 b3 b4 b5 b6 : Nat) (p0 : Int32) (X : Mo)  : kCi l D cI cJ yX3_flight (.code yX3_flight cX3_flight 3 (some .int)) { frames := 5, cells := 0, slots := 0, locals := 110 } [.ref b0, .int p0, .int 7] (wM cI b0 b1 b2 b3 b4 b5 b6 X) (fX3_flight_7 p0 X).1 (wM cI b0 b1 b2 b3 b4 b5 b6 (fX3_flight_7 p0 X).2) := by
  refine fun sz => k_of (lv := [(0, .ref b0), (1, .int p0), (2, .int 7)]) (by decide) sz (by exact Nat.le_of_ble_eq_true rfl) rfl ?_
  intro p e s m args below meth c hsz C
  refine k_aload_n C dX3_flight_0 0 rfl ?_
  refine k_iconst C 0 (by decide) dX3_flight_1 ?_
  refine k_putX3 C [(b0, cM b1 b2 b3 b4 b5 b6 (0, X.2.2.2.2.2.2.2)), (b1, cA9 cI X.1), (b2, cA2 cI X.2.1), (b3, cA2 cI X.2.2.1), (b4, cA2 cI X.2.2.2.1), (b5, cA2 cI X.2.2.2.2.1), (b6, cA9 cI X.2.2.2.2.2.1)] 0 0 rfl rfl (by decide) q570 rfl rfl fdI rfl rfl (Nat.le_of_ble_eq_true rfl) dX3_flight_2 ?_
  refine k_iload_n C dX3_flight_5 1 rfl ?_
  refine k_iconst C 0 (by decide) dX3_flight_6 ?_
  refine k_bipush C 60 (by decide) dX3_flight_7 ?_
  refine k_callS_i C (mX3_isIn l D cI cJ p0 0 60) (va_cwS 3 C.2.2.2.2.1 (kGS q637 q638 q61 q639) rfl rfl rfl hdX3_isIn ⟨Nat.le_of_ble_eq_true rfl, Nat.le_of_ble_eq_true rfl⟩) [] [0, 1, 2, 3, 4, 5, 6] [0, 1, 2, 3, 4, 5, 6] [(b0, cM b1 b2 b3 b4 b5 b6 (0, X.2.2.2.2.2.2.2)), (b1, cA9 cI X.1), (b2, cA2 cI X.2.1), (b3, cA2 cI X.2.2.1), (b4, cA2 cI X.2.2.2.1), (b5, cA2 cI X.2.2.2.2.1), (b6, cA9 cI X.2.2.2.2.2.1)] ([(b0, cM b1 b2 b3 b4 b5 b6 (0, X.2.2.2.2.2.2.2)), (b1, cA9 cI X.1), (b2, cA2 cI X.2.1), (b3, cA2 cI X.2.2.1), (b4, cA2 cI X.2.2.2.1), (b5, cA2 cI X.2.2.2.2.1), (b6, cA9 cI X.2.2.2.2.2.1)]) rfl rfl rfl rfl (by decide) [] rfl rfl rfl rfl (Nat.le_of_ble_eq_true rfl) ⟨Nat.zero_le _, Nat.zero_le _⟩ rfl dX3_flight_9 ?_
  generalize er1 : fX3_isIn p0 0 60 = r1
  refine k_if_ne C 21 (by decide) dX3_flight_12 (fun c2 => ?_) (fun c2 => ?_)
  ·
    refine k_iload_n C dX3_flight_21 2 rfl ?_
    refine k_iconst C 0 (by decide) dX3_flight_22 ?_
    refine k_bipush C 8 (by decide) dX3_flight_23 ?_
    refine k_callS_i C (mX3_isIn_k7_0_8 l D cI cJ) (va_cwS 3 C.2.2.2.2.1 (kGS q637 q638 q61 q639) rfl rfl rfl hdX3_isIn ⟨Nat.le_of_ble_eq_true rfl, Nat.le_of_ble_eq_true rfl⟩) [] [0, 1, 2, 3, 4, 5, 6] [0, 1, 2, 3, 4, 5, 6] [(b0, cM b1 b2 b3 b4 b5 b6 (0, X.2.2.2.2.2.2.2)), (b1, cA9 cI X.1), (b2, cA2 cI X.2.1), (b3, cA2 cI X.2.2.1), (b4, cA2 cI X.2.2.2.1), (b5, cA2 cI X.2.2.2.2.1), (b6, cA9 cI X.2.2.2.2.2.1)] ([(b0, cM b1 b2 b3 b4 b5 b6 (0, X.2.2.2.2.2.2.2)), (b1, cA9 cI X.1), (b2, cA2 cI X.2.1), (b3, cA2 cI X.2.2.1), (b4, cA2 cI X.2.2.2.1), (b5, cA2 cI X.2.2.2.2.1), (b6, cA9 cI X.2.2.2.2.2.1)]) rfl rfl rfl rfl (by decide) [] rfl rfl rfl rfl (Nat.le_of_ble_eq_true rfl) ⟨Nat.zero_le _, Nat.zero_le _⟩ rfl dX3_flight_25 ?_
    refine k_if_ne C 37 (by decide) dX3_flight_28 (fun _ => ?_) (fun h => absurd h (by decide))
    refine k_aload_n C dX3_flight_37 0 rfl ?_
    refine k_getX3 C 0 2 rfl (by decide) rfl q572 rfl dX3_flight_38 ?_
    refine k_if_eq C 61 (by decide) dX3_flight_41 (fun c3 => ?_) (fun c3 => ?_)
    ·
      refine k_bipush C (-99) (by decide) dX3_flight_61 ?_
      have hL : fX3_flight_7 p0 X = ((-99), (X.1, X.2.1, X.2.2.1, X.2.2.2.1, X.2.2.2.2.1, X.2.2.2.2.2.1, 0, X.2.2.2.2.2.2.2)) := by subst er1; exact (if_neg c2).trans ((if_pos c3).trans rfl)
      exact k_iret C rfl (by rw [hL]) (by rw [hL]) dX3_flight_63
    ·
      refine k_aload_n C dX3_flight_44 0 rfl ?_
      refine k_iload_n C dX3_flight_45 1 rfl ?_
      refine k_callV_i C (mX3_flyOn l D cI cJ b0 b1 b2 b3 b4 b5 b6 p0 (X.1, X.2.1, X.2.2.1, X.2.2.2.1, X.2.2.2.2.1, X.2.2.2.2.2.1, 0, X.2.2.2.2.2.2.2)) (cwV 1 C.2.2.2.2.1 (kGV q668 q670 q38 q61 q671) rfl rfl rfl ⟨rfl, hdX3_flyOn⟩ ⟨Nat.le_of_ble_eq_true rfl, Nat.le_of_ble_eq_true rfl⟩) [0, 1, 2, 3, 4, 5, 6] [] [0, 1, 2, 3, 4, 5, 6] [] (wM cI b0 b1 b2 b3 b4 b5 b6 (fX3_flyOn p0 (X.1, X.2.1, X.2.2.1, X.2.2.2.1, X.2.2.2.2.1, X.2.2.2.2.2.1, 0, X.2.2.2.2.2.2.2)).2) rfl rfl rfl rfl (by decide) [b0, b1, b2, b3, b4, b5, b6] rfl rfl rfl rfl 0 3 rfl rfl rfl (Nat.le_of_ble_eq_true rfl) ⟨Nat.zero_le _, Nat.zero_le _⟩ rfl dX3_flight_46 ?_
      generalize ez4 : fX3_flyOn p0 (X.1, X.2.1, X.2.2.1, X.2.2.2.1, X.2.2.2.2.1, X.2.2.2.2.2.1, 0, X.2.2.2.2.2.2.2) = z4
      refine k_if_ne C 61 (by decide) dX3_flight_49 (fun c5 => ?_) (fun c5 => ?_)
      ·
        refine k_bipush C (-99) (by decide) dX3_flight_61 ?_
        have hL : fX3_flight_7 p0 X = ((-99), z4.2) := by subst ez4; subst er1; exact (if_neg c2).trans ((if_neg c3).trans ((if_neg c5).trans rfl))
        exact k_iret C rfl (by rw [hL]) (by rw [hL]) dX3_flight_63
      ·
        refine k_aload_n C dX3_flight_52 0 rfl ?_
        refine k_getX3 C 0 16 rfl (by decide) rfl q586 rfl dX3_flight_53 ?_
        refine k_iload_n C dX3_flight_56 2 rfl ?_
        refine k_iald C 6 rfl vi9_7 (ar9_l7 _) dX3_flight_57 ?_
        refine k_goto C 63 (by decide) dX3_flight_58 ?_
        have hL : fX3_flight_7 p0 X = (z4.2.2.2.2.2.2.1.2.2.2.2.2.2.2.1, z4.2) := by subst ez4; subst er1; exact (if_neg c2).trans ((if_neg c3).trans ((if_pos c5).trans rfl))
        exact k_iret C rfl (by rw [hL]) (by rw [hL]) dX3_flight_63
  ·
    refine k_aload_n C dX3_flight_15 0 rfl ?_
    refine k_iconst C 1 (by decide) dX3_flight_16 ?_
    refine k_callV_i C (mX3_no l D cI cJ b0 b1 b2 b3 b4 b5 b6 1 (X.1, X.2.1, X.2.2.1, X.2.2.2.1, X.2.2.2.2.1, X.2.2.2.2.2.1, 0, X.2.2.2.2.2.2.2)) (cwV 1 C.2.2.2.2.1 (kGV q640 q642 q33 q61 q643) rfl rfl rfl ⟨rfl, hdX3_no⟩ ⟨Nat.le_of_ble_eq_true rfl, Nat.le_of_ble_eq_true rfl⟩) [0, 1, 2, 3, 4, 5, 6] [] [0, 1, 2, 3, 4, 5, 6] [] (wM cI b0 b1 b2 b3 b4 b5 b6 (fX3_no 1 (X.1, X.2.1, X.2.2.1, X.2.2.2.1, X.2.2.2.2.1, X.2.2.2.2.2.1, 0, X.2.2.2.2.2.2.2)).2) rfl rfl rfl rfl (by decide) [b0, b1, b2, b3, b4, b5, b6] rfl rfl rfl rfl 0 3 rfl rfl rfl (Nat.le_of_ble_eq_true rfl) ⟨Nat.zero_le _, Nat.zero_le _⟩ rfl dX3_flight_17 ?_
    generalize ez6 : fX3_no 1 (X.1, X.2.1, X.2.2.1, X.2.2.2.1, X.2.2.2.2.1, X.2.2.2.2.2.1, 0, X.2.2.2.2.2.2.2) = z6
    have hL : fX3_flight_7 p0 X = (z6.1, z6.2) := by subst ez6; subst er1; exact (if_pos c2).trans rfl
    exact k_iret C rfl (by rw [hL]) (by rw [hL]) dX3_flight_20

noncomputable def fX3_flight_8 (p0 : Int32) (X : Mo) : Int32 × Mo :=
  if (fX3_isIn p0 0 60) = 0 then ((fX3_no 1 (X.1, X.2.1, X.2.2.1, X.2.2.2.1, X.2.2.2.2.1, X.2.2.2.2.2.1, 0, X.2.2.2.2.2.2.2)).1, (fX3_no 1 (X.1, X.2.1, X.2.2.1, X.2.2.2.1, X.2.2.2.2.1, X.2.2.2.2.2.1, 0, X.2.2.2.2.2.2.2)).2)
  else (if X.2.2.2.2.2.2.2.2.1 = 0 then ((-99), (X.1, X.2.1, X.2.2.1, X.2.2.2.1, X.2.2.2.2.1, X.2.2.2.2.2.1, 0, X.2.2.2.2.2.2.2))
    else (if (fX3_flyOn p0 (X.1, X.2.1, X.2.2.1, X.2.2.2.1, X.2.2.2.2.1, X.2.2.2.2.2.1, 0, X.2.2.2.2.2.2.2)).1 = 0 then ((fX3_flyOn p0 (X.1, X.2.1, X.2.2.1, X.2.2.2.1, X.2.2.2.2.1, X.2.2.2.2.2.1, 0, X.2.2.2.2.2.2.2)).2.2.2.2.2.2.1.2.2.2.2.2.2.2.2, (fX3_flyOn p0 (X.1, X.2.1, X.2.2.1, X.2.2.2.1, X.2.2.2.2.1, X.2.2.2.2.2.1, 0, X.2.2.2.2.2.2.2)).2)
      else ((-99), (fX3_flyOn p0 (X.1, X.2.1, X.2.2.1, X.2.2.2.1, X.2.2.2.2.1, X.2.2.2.2.2.1, 0, X.2.2.2.2.2.2.2)).2)))
set_option maxHeartbeats 4000000 in
set_option maxRecDepth 100000 in
theorem mX3_flight_8 (l : Launch) (D : va_G) (cI cJ : ClassId) (b0 b1 b2 b3 b4 b5 b6 : Nat) (p0 : Int32) (X : Mo)  : kCi l D cI cJ yX3_flight (.code yX3_flight cX3_flight 3 (some .int)) { frames := 5, cells := 0, slots := 0, locals := 110 } [.ref b0, .int p0, .int 8] (wM cI b0 b1 b2 b3 b4 b5 b6 X) (fX3_flight_8 p0 X).1 (wM cI b0 b1 b2 b3 b4 b5 b6 (fX3_flight_8 p0 X).2) := by
  refine fun sz => k_of (lv := [(0, .ref b0), (1, .int p0), (2, .int 8)]) (by decide) sz (by exact Nat.le_of_ble_eq_true rfl) rfl ?_
  intro p e s m args below meth c hsz C
  refine k_aload_n C dX3_flight_0 0 rfl ?_
  refine k_iconst C 0 (by decide) dX3_flight_1 ?_
  refine k_putX3 C [(b0, cM b1 b2 b3 b4 b5 b6 (0, X.2.2.2.2.2.2.2)), (b1, cA9 cI X.1), (b2, cA2 cI X.2.1), (b3, cA2 cI X.2.2.1), (b4, cA2 cI X.2.2.2.1), (b5, cA2 cI X.2.2.2.2.1), (b6, cA9 cI X.2.2.2.2.2.1)] 0 0 rfl rfl (by decide) q570 rfl rfl fdI rfl rfl (Nat.le_of_ble_eq_true rfl) dX3_flight_2 ?_
  refine k_iload_n C dX3_flight_5 1 rfl ?_
  refine k_iconst C 0 (by decide) dX3_flight_6 ?_
  refine k_bipush C 60 (by decide) dX3_flight_7 ?_
  refine k_callS_i C (mX3_isIn l D cI cJ p0 0 60) (va_cwS 3 C.2.2.2.2.1 (kGS q637 q638 q61 q639) rfl rfl rfl hdX3_isIn ⟨Nat.le_of_ble_eq_true rfl, Nat.le_of_ble_eq_true rfl⟩) [] [0, 1, 2, 3, 4, 5, 6] [0, 1, 2, 3, 4, 5, 6] [(b0, cM b1 b2 b3 b4 b5 b6 (0, X.2.2.2.2.2.2.2)), (b1, cA9 cI X.1), (b2, cA2 cI X.2.1), (b3, cA2 cI X.2.2.1), (b4, cA2 cI X.2.2.2.1), (b5, cA2 cI X.2.2.2.2.1), (b6, cA9 cI X.2.2.2.2.2.1)] ([(b0, cM b1 b2 b3 b4 b5 b6 (0, X.2.2.2.2.2.2.2)), (b1, cA9 cI X.1), (b2, cA2 cI X.2.1), (b3, cA2 cI X.2.2.1), (b4, cA2 cI X.2.2.2.1), (b5, cA2 cI X.2.2.2.2.1), (b6, cA9 cI X.2.2.2.2.2.1)]) rfl rfl rfl rfl (by decide) [] rfl rfl rfl rfl (Nat.le_of_ble_eq_true rfl) ⟨Nat.zero_le _, Nat.zero_le _⟩ rfl dX3_flight_9 ?_
  generalize er1 : fX3_isIn p0 0 60 = r1
  refine k_if_ne C 21 (by decide) dX3_flight_12 (fun c2 => ?_) (fun c2 => ?_)
  ·
    refine k_iload_n C dX3_flight_21 2 rfl ?_
    refine k_iconst C 0 (by decide) dX3_flight_22 ?_
    refine k_bipush C 8 (by decide) dX3_flight_23 ?_
    refine k_callS_i C (mX3_isIn_k8_0_8 l D cI cJ) (va_cwS 3 C.2.2.2.2.1 (kGS q637 q638 q61 q639) rfl rfl rfl hdX3_isIn ⟨Nat.le_of_ble_eq_true rfl, Nat.le_of_ble_eq_true rfl⟩) [] [0, 1, 2, 3, 4, 5, 6] [0, 1, 2, 3, 4, 5, 6] [(b0, cM b1 b2 b3 b4 b5 b6 (0, X.2.2.2.2.2.2.2)), (b1, cA9 cI X.1), (b2, cA2 cI X.2.1), (b3, cA2 cI X.2.2.1), (b4, cA2 cI X.2.2.2.1), (b5, cA2 cI X.2.2.2.2.1), (b6, cA9 cI X.2.2.2.2.2.1)] ([(b0, cM b1 b2 b3 b4 b5 b6 (0, X.2.2.2.2.2.2.2)), (b1, cA9 cI X.1), (b2, cA2 cI X.2.1), (b3, cA2 cI X.2.2.1), (b4, cA2 cI X.2.2.2.1), (b5, cA2 cI X.2.2.2.2.1), (b6, cA9 cI X.2.2.2.2.2.1)]) rfl rfl rfl rfl (by decide) [] rfl rfl rfl rfl (Nat.le_of_ble_eq_true rfl) ⟨Nat.zero_le _, Nat.zero_le _⟩ rfl dX3_flight_25 ?_
    refine k_if_ne C 37 (by decide) dX3_flight_28 (fun _ => ?_) (fun h => absurd h (by decide))
    refine k_aload_n C dX3_flight_37 0 rfl ?_
    refine k_getX3 C 0 2 rfl (by decide) rfl q572 rfl dX3_flight_38 ?_
    refine k_if_eq C 61 (by decide) dX3_flight_41 (fun c3 => ?_) (fun c3 => ?_)
    ·
      refine k_bipush C (-99) (by decide) dX3_flight_61 ?_
      have hL : fX3_flight_8 p0 X = ((-99), (X.1, X.2.1, X.2.2.1, X.2.2.2.1, X.2.2.2.2.1, X.2.2.2.2.2.1, 0, X.2.2.2.2.2.2.2)) := by subst er1; exact (if_neg c2).trans ((if_pos c3).trans rfl)
      exact k_iret C rfl (by rw [hL]) (by rw [hL]) dX3_flight_63
    ·
      refine k_aload_n C dX3_flight_44 0 rfl ?_
      refine k_iload_n C dX3_flight_45 1 rfl ?_
      refine k_callV_i C (mX3_flyOn l D cI cJ b0 b1 b2 b3 b4 b5 b6 p0 (X.1, X.2.1, X.2.2.1, X.2.2.2.1, X.2.2.2.2.1, X.2.2.2.2.2.1, 0, X.2.2.2.2.2.2.2)) (cwV 1 C.2.2.2.2.1 (kGV q668 q670 q38 q61 q671) rfl rfl rfl ⟨rfl, hdX3_flyOn⟩ ⟨Nat.le_of_ble_eq_true rfl, Nat.le_of_ble_eq_true rfl⟩) [0, 1, 2, 3, 4, 5, 6] [] [0, 1, 2, 3, 4, 5, 6] [] (wM cI b0 b1 b2 b3 b4 b5 b6 (fX3_flyOn p0 (X.1, X.2.1, X.2.2.1, X.2.2.2.1, X.2.2.2.2.1, X.2.2.2.2.2.1, 0, X.2.2.2.2.2.2.2)).2) rfl rfl rfl rfl (by decide) [b0, b1, b2, b3, b4, b5, b6] rfl rfl rfl rfl 0 3 rfl rfl rfl (Nat.le_of_ble_eq_true rfl) ⟨Nat.zero_le _, Nat.zero_le _⟩ rfl dX3_flight_46 ?_
      generalize ez4 : fX3_flyOn p0 (X.1, X.2.1, X.2.2.1, X.2.2.2.1, X.2.2.2.2.1, X.2.2.2.2.2.1, 0, X.2.2.2.2.2.2.2) = z4
      refine k_if_ne C 61 (by decide) dX3_flight_49 (fun c5 => ?_) (fun c5 => ?_)
      ·
        refine k_bipush C (-99) (by decide) dX3_flight_61 ?_
        have hL : fX3_flight_8 p0 X = ((-99), z4.2) := by subst ez4; subst er1; exact (if_neg c2).trans ((if_neg c3).trans ((if_neg c5).trans rfl))
        exact k_iret C rfl (by rw [hL]) (by rw [hL]) dX3_flight_63
      ·
        refine k_aload_n C dX3_flight_52 0 rfl ?_
        refine k_getX3 C 0 16 rfl (by decide) rfl q586 rfl dX3_flight_53 ?_
        refine k_iload_n C dX3_flight_56 2 rfl ?_
        refine k_iald C 6 rfl vi9_8 (ar9_l8 _) dX3_flight_57 ?_
        refine k_goto C 63 (by decide) dX3_flight_58 ?_
        have hL : fX3_flight_8 p0 X = (z4.2.2.2.2.2.2.1.2.2.2.2.2.2.2.2, z4.2) := by subst ez4; subst er1; exact (if_neg c2).trans ((if_neg c3).trans ((if_pos c5).trans rfl))
        exact k_iret C rfl (by rw [hL]) (by rw [hL]) dX3_flight_63
  ·
    refine k_aload_n C dX3_flight_15 0 rfl ?_
    refine k_iconst C 1 (by decide) dX3_flight_16 ?_
    refine k_callV_i C (mX3_no l D cI cJ b0 b1 b2 b3 b4 b5 b6 1 (X.1, X.2.1, X.2.2.1, X.2.2.2.1, X.2.2.2.2.1, X.2.2.2.2.2.1, 0, X.2.2.2.2.2.2.2)) (cwV 1 C.2.2.2.2.1 (kGV q640 q642 q33 q61 q643) rfl rfl rfl ⟨rfl, hdX3_no⟩ ⟨Nat.le_of_ble_eq_true rfl, Nat.le_of_ble_eq_true rfl⟩) [0, 1, 2, 3, 4, 5, 6] [] [0, 1, 2, 3, 4, 5, 6] [] (wM cI b0 b1 b2 b3 b4 b5 b6 (fX3_no 1 (X.1, X.2.1, X.2.2.1, X.2.2.2.1, X.2.2.2.2.1, X.2.2.2.2.2.1, 0, X.2.2.2.2.2.2.2)).2) rfl rfl rfl rfl (by decide) [b0, b1, b2, b3, b4, b5, b6] rfl rfl rfl rfl 0 3 rfl rfl rfl (Nat.le_of_ble_eq_true rfl) ⟨Nat.zero_le _, Nat.zero_le _⟩ rfl dX3_flight_17 ?_
    generalize ez6 : fX3_no 1 (X.1, X.2.1, X.2.2.1, X.2.2.2.1, X.2.2.2.2.1, X.2.2.2.2.2.1, 0, X.2.2.2.2.2.2.2) = z6
    have hL : fX3_flight_8 p0 X = (z6.1, z6.2) := by subst ez6; subst er1; exact (if_pos c2).trans rfl
    exact k_iret C rfl (by rw [hL]) (by rw [hL]) dX3_flight_20

noncomputable def fX3_flight_bad (p0 : Int32) (p1 : Int32) (X : Mo) : Int32 × Mo :=
  if (fX3_isIn p0 0 60) = 0 then ((fX3_no 1 (X.1, X.2.1, X.2.2.1, X.2.2.2.1, X.2.2.2.2.1, X.2.2.2.2.2.1, 0, X.2.2.2.2.2.2.2)).1, (fX3_no 1 (X.1, X.2.1, X.2.2.1, X.2.2.2.1, X.2.2.2.2.1, X.2.2.2.2.2.1, 0, X.2.2.2.2.2.2.2)).2)
  else ((fX3_no 2 (X.1, X.2.1, X.2.2.1, X.2.2.2.1, X.2.2.2.2.1, X.2.2.2.2.2.1, 0, X.2.2.2.2.2.2.2)).1, (fX3_no 2 (X.1, X.2.1, X.2.2.1, X.2.2.2.1, X.2.2.2.2.1, X.2.2.2.2.2.1, 0, X.2.2.2.2.2.2.2)).2)
set_option maxHeartbeats 4000000 in
set_option maxRecDepth 100000 in
theorem mX3_flight_bad (l : Launch) (D : va_G) (cI cJ : ClassId) (b0 b1 b2 b3 b4 b5 b6 : Nat) (p0 : Int32) (p1 : Int32) (X : Mo) (hb : ¬ (fX3_isIn p0 0 60) = 0 → (fX3_isIn p1 0 8) = 0)  : kCi l D cI cJ yX3_flight (.code yX3_flight cX3_flight 3 (some .int)) { frames := 5, cells := 0, slots := 0, locals := 110 } [.ref b0, .int p0, .int p1] (wM cI b0 b1 b2 b3 b4 b5 b6 X) (fX3_flight_bad p0 p1 X).1 (wM cI b0 b1 b2 b3 b4 b5 b6 (fX3_flight_bad p0 p1 X).2) := by
  refine fun sz => k_of (lv := [(0, .ref b0), (1, .int p0), (2, .int p1)]) (by decide) sz (by exact Nat.le_of_ble_eq_true rfl) rfl ?_
  intro p e s m args below meth c hsz C
  refine k_aload_n C dX3_flight_0 0 rfl ?_
  refine k_iconst C 0 (by decide) dX3_flight_1 ?_
  refine k_putX3 C [(b0, cM b1 b2 b3 b4 b5 b6 (0, X.2.2.2.2.2.2.2)), (b1, cA9 cI X.1), (b2, cA2 cI X.2.1), (b3, cA2 cI X.2.2.1), (b4, cA2 cI X.2.2.2.1), (b5, cA2 cI X.2.2.2.2.1), (b6, cA9 cI X.2.2.2.2.2.1)] 0 0 rfl rfl (by decide) q570 rfl rfl fdI rfl rfl (Nat.le_of_ble_eq_true rfl) dX3_flight_2 ?_
  refine k_iload_n C dX3_flight_5 1 rfl ?_
  refine k_iconst C 0 (by decide) dX3_flight_6 ?_
  refine k_bipush C 60 (by decide) dX3_flight_7 ?_
  refine k_callS_i C (mX3_isIn l D cI cJ p0 0 60) (va_cwS 3 C.2.2.2.2.1 (kGS q637 q638 q61 q639) rfl rfl rfl hdX3_isIn ⟨Nat.le_of_ble_eq_true rfl, Nat.le_of_ble_eq_true rfl⟩) [] [0, 1, 2, 3, 4, 5, 6] [0, 1, 2, 3, 4, 5, 6] [(b0, cM b1 b2 b3 b4 b5 b6 (0, X.2.2.2.2.2.2.2)), (b1, cA9 cI X.1), (b2, cA2 cI X.2.1), (b3, cA2 cI X.2.2.1), (b4, cA2 cI X.2.2.2.1), (b5, cA2 cI X.2.2.2.2.1), (b6, cA9 cI X.2.2.2.2.2.1)] ([(b0, cM b1 b2 b3 b4 b5 b6 (0, X.2.2.2.2.2.2.2)), (b1, cA9 cI X.1), (b2, cA2 cI X.2.1), (b3, cA2 cI X.2.2.1), (b4, cA2 cI X.2.2.2.1), (b5, cA2 cI X.2.2.2.2.1), (b6, cA9 cI X.2.2.2.2.2.1)]) rfl rfl rfl rfl (by decide) [] rfl rfl rfl rfl (Nat.le_of_ble_eq_true rfl) ⟨Nat.zero_le _, Nat.zero_le _⟩ rfl dX3_flight_9 ?_
  generalize er1 : fX3_isIn p0 0 60 = r1
  refine k_if_ne C 21 (by decide) dX3_flight_12 (fun c2 => ?_) (fun c2 => ?_)
  ·
    refine k_iload_n C dX3_flight_21 2 rfl ?_
    refine k_iconst C 0 (by decide) dX3_flight_22 ?_
    refine k_bipush C 8 (by decide) dX3_flight_23 ?_
    refine k_callS_i C (mX3_isIn l D cI cJ p1 0 8) (va_cwS 3 C.2.2.2.2.1 (kGS q637 q638 q61 q639) rfl rfl rfl hdX3_isIn ⟨Nat.le_of_ble_eq_true rfl, Nat.le_of_ble_eq_true rfl⟩) [] [0, 1, 2, 3, 4, 5, 6] [0, 1, 2, 3, 4, 5, 6] [(b0, cM b1 b2 b3 b4 b5 b6 (0, X.2.2.2.2.2.2.2)), (b1, cA9 cI X.1), (b2, cA2 cI X.2.1), (b3, cA2 cI X.2.2.1), (b4, cA2 cI X.2.2.2.1), (b5, cA2 cI X.2.2.2.2.1), (b6, cA9 cI X.2.2.2.2.2.1)] ([(b0, cM b1 b2 b3 b4 b5 b6 (0, X.2.2.2.2.2.2.2)), (b1, cA9 cI X.1), (b2, cA2 cI X.2.1), (b3, cA2 cI X.2.2.1), (b4, cA2 cI X.2.2.2.1), (b5, cA2 cI X.2.2.2.2.1), (b6, cA9 cI X.2.2.2.2.2.1)]) rfl rfl rfl rfl (by decide) [] rfl rfl rfl rfl (Nat.le_of_ble_eq_true rfl) ⟨Nat.zero_le _, Nat.zero_le _⟩ rfl dX3_flight_25 ?_
    generalize er3 : fX3_isIn p1 0 8 = r3
    refine k_if_ne C 37 (by decide) dX3_flight_28 (fun h => absurd (by subst er3; subst er1; exact (hb (by assumption))) h) (fun _ => ?_)
    refine k_aload_n C dX3_flight_31 0 rfl ?_
    refine k_iconst C 2 (by decide) dX3_flight_32 ?_
    refine k_callV_i C (mX3_no l D cI cJ b0 b1 b2 b3 b4 b5 b6 2 (X.1, X.2.1, X.2.2.1, X.2.2.2.1, X.2.2.2.2.1, X.2.2.2.2.2.1, 0, X.2.2.2.2.2.2.2)) (cwV 1 C.2.2.2.2.1 (kGV q640 q642 q33 q61 q643) rfl rfl rfl ⟨rfl, hdX3_no⟩ ⟨Nat.le_of_ble_eq_true rfl, Nat.le_of_ble_eq_true rfl⟩) [0, 1, 2, 3, 4, 5, 6] [] [0, 1, 2, 3, 4, 5, 6] [] (wM cI b0 b1 b2 b3 b4 b5 b6 (fX3_no 2 (X.1, X.2.1, X.2.2.1, X.2.2.2.1, X.2.2.2.2.1, X.2.2.2.2.2.1, 0, X.2.2.2.2.2.2.2)).2) rfl rfl rfl rfl (by decide) [b0, b1, b2, b3, b4, b5, b6] rfl rfl rfl rfl 0 3 rfl rfl rfl (Nat.le_of_ble_eq_true rfl) ⟨Nat.zero_le _, Nat.zero_le _⟩ rfl dX3_flight_33 ?_
    generalize ez4 : fX3_no 2 (X.1, X.2.1, X.2.2.1, X.2.2.2.1, X.2.2.2.2.1, X.2.2.2.2.2.1, 0, X.2.2.2.2.2.2.2) = z4
    have hL : fX3_flight_bad p0 p1 X = (z4.1, z4.2) := by subst ez4; subst er3; subst er1; exact (if_neg c2).trans rfl
    exact k_iret C rfl (by rw [hL]) (by rw [hL]) dX3_flight_36
  ·
    refine k_aload_n C dX3_flight_15 0 rfl ?_
    refine k_iconst C 1 (by decide) dX3_flight_16 ?_
    refine k_callV_i C (mX3_no l D cI cJ b0 b1 b2 b3 b4 b5 b6 1 (X.1, X.2.1, X.2.2.1, X.2.2.2.1, X.2.2.2.2.1, X.2.2.2.2.2.1, 0, X.2.2.2.2.2.2.2)) (cwV 1 C.2.2.2.2.1 (kGV q640 q642 q33 q61 q643) rfl rfl rfl ⟨rfl, hdX3_no⟩ ⟨Nat.le_of_ble_eq_true rfl, Nat.le_of_ble_eq_true rfl⟩) [0, 1, 2, 3, 4, 5, 6] [] [0, 1, 2, 3, 4, 5, 6] [] (wM cI b0 b1 b2 b3 b4 b5 b6 (fX3_no 1 (X.1, X.2.1, X.2.2.1, X.2.2.2.1, X.2.2.2.2.1, X.2.2.2.2.2.1, 0, X.2.2.2.2.2.2.2)).2) rfl rfl rfl rfl (by decide) [b0, b1, b2, b3, b4, b5, b6] rfl rfl rfl rfl 0 3 rfl rfl rfl (Nat.le_of_ble_eq_true rfl) ⟨Nat.zero_le _, Nat.zero_le _⟩ rfl dX3_flight_17 ?_
    generalize ez5 : fX3_no 1 (X.1, X.2.1, X.2.2.1, X.2.2.2.1, X.2.2.2.2.1, X.2.2.2.2.2.1, 0, X.2.2.2.2.2.2.2) = z5
    have hL : fX3_flight_bad p0 p1 X = (z5.1, z5.2) := by subst ez5; subst er1; exact (if_pos c2).trans rfl
    exact k_iret C rfl (by rw [hL]) (by rw [hL]) dX3_flight_20

theorem hdX3_endTold : yX3_endTold.cls ≠ "java/lang/invoke/MethodHandle" ∧ yX3_endTold.cls ≠ "java/lang/invoke/VarHandle" ∧ (parseMethodDescriptor yX3_endTold.desc).map (fun d => d.parameters.length) = some 1 := by decide +kernel
noncomputable def fX3_endTold_0 (X : Mo) : Int32 × Mo :=
  if X.2.2.2.2.2.2.2.2.1 = 0 then (0, X)
  else ((fX3_fullFlight X).1, (fX3_fullFlight X).2)
def NX3_endTold_0 (X : Mo) : Prop := ((¬ X.2.2.2.2.2.2.2.2.1 = 0) → (NX3_fullFlight X))
set_option maxHeartbeats 4000000 in
set_option maxRecDepth 100000 in
theorem mX3_endTold_0 (l : Launch) (D : va_G) (cI cJ : ClassId) (b0 b1 b2 b3 b4 b5 b6 : Nat) (X : Mo) (hN : ((¬ X.2.2.2.2.2.2.2.2.1 = 0) → (NX3_fullFlight X)))  : kCi l D cI cJ yX3_endTold (.code yX3_endTold cX3_endTold 3 (some .int)) { frames := 6, cells := 0, slots := 0, locals := 128 } [.ref b0, .int 0] (wM cI b0 b1 b2 b3 b4 b5 b6 X) (fX3_endTold_0 X).1 (wM cI b0 b1 b2 b3 b4 b5 b6 (fX3_endTold_0 X).2) := by
  have hN0 := hN
  refine fun sz => k_of (lv := [(0, .ref b0), (1, .int 0)]) (by decide) sz (by exact Nat.le_of_ble_eq_true rfl) rfl ?_
  intro p e s m args below meth c hsz C
  refine k_aload_n C dX3_endTold_0 0 rfl ?_
  refine k_getX3 C 0 2 rfl (by decide) rfl q572 rfl dX3_endTold_1 ?_
  refine k_if_ne C 9 (by decide) dX3_endTold_4 (fun c1 => ?_) (fun c1 => ?_)
  ·
    refine k_aload_n C dX3_endTold_9 0 rfl ?_
    refine k_callV_i C (mX3_fullFlight l D cI cJ b0 b1 b2 b3 b4 b5 b6 X (by exact hN0 c1)) (cwV 0 C.2.2.2.2.1 (kGV q715 q717 q47 q61 q718) rfl rfl rfl ⟨rfl, hdX3_fullFlight⟩ ⟨Nat.le_of_ble_eq_true rfl, Nat.le_of_ble_eq_true rfl⟩) [0, 1, 2, 3, 4, 5, 6] [] [0, 1, 2, 3, 4, 5, 6] [] (wM cI b0 b1 b2 b3 b4 b5 b6 (fX3_fullFlight X).2) rfl rfl rfl rfl (by decide) [b0, b1, b2, b3, b4, b5, b6] rfl rfl rfl rfl 0 3 rfl rfl rfl (Nat.le_of_ble_eq_true rfl) ⟨Nat.zero_le _, Nat.zero_le _⟩ rfl dX3_endTold_10 ?_
    generalize ez2 : fX3_fullFlight X = z2
    refine k_istore_n C [(2, .int z2.1), (0, .ref b0), (1, .int 0)] (by decide) rfl dX3_endTold_13 ?_
    refine k_iload_n C dX3_endTold_14 2 rfl ?_
    refine k_tabIn (off := 29) C 44 (by decide) (by decide) (by decide +kernel) (by decide) dX3_endTold_15 ?_
    refine k_iload_n C dX3_endTold_44 0 rfl ?_
    have hL : fX3_endTold_0 X = (z2.1, z2.2) := by subst ez2; exact (if_neg c1).trans rfl
    exact k_iret C rfl (by rw [hL]) (by rw [hL]) dX3_endTold_45
  ·
    refine k_iconst C 0 (by decide) dX3_endTold_7 ?_
    have hL : fX3_endTold_0 X = (0, X) := by exact (if_pos c1).trans rfl
    exact k_iret C rfl (by rw [hL]) (by rw [hL]) dX3_endTold_8

noncomputable def fX3_endTold_1 (X : Mo) : Int32 × Mo :=
  if X.2.2.2.2.2.2.2.2.1 = 0 then (0, X)
  else ((fX3_fullFlight X).2.2.2.2.2.2.2.2.2.2.2.2.2.2.2.2.2.2, (fX3_fullFlight X).2)
def NX3_endTold_1 (X : Mo) : Prop := ((¬ X.2.2.2.2.2.2.2.2.1 = 0) → (NX3_fullFlight X))
set_option maxHeartbeats 4000000 in
set_option maxRecDepth 100000 in
theorem mX3_endTold_1 (l : Launch) (D : va_G) (cI cJ : ClassId) (b0 b1 b2 b3 b4 b5 b6 : Nat) (X : Mo) (hN : ((¬ X.2.2.2.2.2.2.2.2.1 = 0) → (NX3_fullFlight X)))  : kCi l D cI cJ yX3_endTold (.code yX3_endTold cX3_endTold 3 (some .int)) { frames := 6, cells := 0, slots := 0, locals := 128 } [.ref b0, .int 1] (wM cI b0 b1 b2 b3 b4 b5 b6 X) (fX3_endTold_1 X).1 (wM cI b0 b1 b2 b3 b4 b5 b6 (fX3_endTold_1 X).2) := by
  have hN0 := hN
  refine fun sz => k_of (lv := [(0, .ref b0), (1, .int 1)]) (by decide) sz (by exact Nat.le_of_ble_eq_true rfl) rfl ?_
  intro p e s m args below meth c hsz C
  refine k_aload_n C dX3_endTold_0 0 rfl ?_
  refine k_getX3 C 0 2 rfl (by decide) rfl q572 rfl dX3_endTold_1 ?_
  refine k_if_ne C 9 (by decide) dX3_endTold_4 (fun c1 => ?_) (fun c1 => ?_)
  ·
    refine k_aload_n C dX3_endTold_9 0 rfl ?_
    refine k_callV_i C (mX3_fullFlight l D cI cJ b0 b1 b2 b3 b4 b5 b6 X (by exact hN0 c1)) (cwV 0 C.2.2.2.2.1 (kGV q715 q717 q47 q61 q718) rfl rfl rfl ⟨rfl, hdX3_fullFlight⟩ ⟨Nat.le_of_ble_eq_true rfl, Nat.le_of_ble_eq_true rfl⟩) [0, 1, 2, 3, 4, 5, 6] [] [0, 1, 2, 3, 4, 5, 6] [] (wM cI b0 b1 b2 b3 b4 b5 b6 (fX3_fullFlight X).2) rfl rfl rfl rfl (by decide) [b0, b1, b2, b3, b4, b5, b6] rfl rfl rfl rfl 0 3 rfl rfl rfl (Nat.le_of_ble_eq_true rfl) ⟨Nat.zero_le _, Nat.zero_le _⟩ rfl dX3_endTold_10 ?_
    generalize ez2 : fX3_fullFlight X = z2
    refine k_istore_n C [(2, .int z2.1), (0, .ref b0), (1, .int 1)] (by decide) rfl dX3_endTold_13 ?_
    refine k_iload_n C dX3_endTold_14 2 rfl ?_
    refine k_tabIn (off := 31) C 46 (by decide) (by decide) (by decide +kernel) (by decide) dX3_endTold_15 ?_
    refine k_aload_n C dX3_endTold_46 1 rfl ?_
    refine k_getX3 C 0 17 rfl (by decide) rfl q587 rfl dX3_endTold_47 ?_
    have hL : fX3_endTold_1 X = (z2.2.2.2.2.2.2.2.2.2.2.2.2.2.2.2.2.2.2, z2.2) := by subst ez2; exact (if_neg c1).trans rfl
    exact k_iret C rfl (by rw [hL]) (by rw [hL]) dX3_endTold_50
  ·
    refine k_iconst C 0 (by decide) dX3_endTold_7 ?_
    have hL : fX3_endTold_1 X = (0, X) := by exact (if_pos c1).trans rfl
    exact k_iret C rfl (by rw [hL]) (by rw [hL]) dX3_endTold_8

noncomputable def fX3_endTold_2 (X : Mo) : Int32 × Mo :=
  if X.2.2.2.2.2.2.2.2.1 = 0 then (0, X)
  else ((fX3_fullFlight X).2.2.2.2.2.2.1.2.2.2.2.2.2.1, (fX3_fullFlight X).2)
def NX3_endTold_2 (X : Mo) : Prop := ((¬ X.2.2.2.2.2.2.2.2.1 = 0) → (NX3_fullFlight X))
set_option maxHeartbeats 4000000 in
set_option maxRecDepth 100000 in
theorem mX3_endTold_2 (l : Launch) (D : va_G) (cI cJ : ClassId) (b0 b1 b2 b3 b4 b5 b6 : Nat) (X : Mo) (hN : ((¬ X.2.2.2.2.2.2.2.2.1 = 0) → (NX3_fullFlight X)))  : kCi l D cI cJ yX3_endTold (.code yX3_endTold cX3_endTold 3 (some .int)) { frames := 6, cells := 0, slots := 0, locals := 128 } [.ref b0, .int 2] (wM cI b0 b1 b2 b3 b4 b5 b6 X) (fX3_endTold_2 X).1 (wM cI b0 b1 b2 b3 b4 b5 b6 (fX3_endTold_2 X).2) := by
  have hN0 := hN
  refine fun sz => k_of (lv := [(0, .ref b0), (1, .int 2)]) (by decide) sz (by exact Nat.le_of_ble_eq_true rfl) rfl ?_
  intro p e s m args below meth c hsz C
  refine k_aload_n C dX3_endTold_0 0 rfl ?_
  refine k_getX3 C 0 2 rfl (by decide) rfl q572 rfl dX3_endTold_1 ?_
  refine k_if_ne C 9 (by decide) dX3_endTold_4 (fun c1 => ?_) (fun c1 => ?_)
  ·
    refine k_aload_n C dX3_endTold_9 0 rfl ?_
    refine k_callV_i C (mX3_fullFlight l D cI cJ b0 b1 b2 b3 b4 b5 b6 X (by exact hN0 c1)) (cwV 0 C.2.2.2.2.1 (kGV q715 q717 q47 q61 q718) rfl rfl rfl ⟨rfl, hdX3_fullFlight⟩ ⟨Nat.le_of_ble_eq_true rfl, Nat.le_of_ble_eq_true rfl⟩) [0, 1, 2, 3, 4, 5, 6] [] [0, 1, 2, 3, 4, 5, 6] [] (wM cI b0 b1 b2 b3 b4 b5 b6 (fX3_fullFlight X).2) rfl rfl rfl rfl (by decide) [b0, b1, b2, b3, b4, b5, b6] rfl rfl rfl rfl 0 3 rfl rfl rfl (Nat.le_of_ble_eq_true rfl) ⟨Nat.zero_le _, Nat.zero_le _⟩ rfl dX3_endTold_10 ?_
    generalize ez2 : fX3_fullFlight X = z2
    refine k_istore_n C [(2, .int z2.1), (0, .ref b0), (1, .int 2)] (by decide) rfl dX3_endTold_13 ?_
    refine k_iload_n C dX3_endTold_14 2 rfl ?_
    refine k_tabIn (off := 36) C 51 (by decide) (by decide) (by decide +kernel) (by decide) dX3_endTold_15 ?_
    refine k_aload_n C dX3_endTold_51 1 rfl ?_
    refine k_getX3 C 0 16 rfl (by decide) rfl q586 rfl dX3_endTold_52 ?_
    refine k_bipush C 6 (by decide) dX3_endTold_55 ?_
    refine k_iald C 6 rfl vi9_6 (ar9_l6 _) dX3_endTold_57 ?_
    have hL : fX3_endTold_2 X = (z2.2.2.2.2.2.2.1.2.2.2.2.2.2.1, z2.2) := by subst ez2; exact (if_neg c1).trans rfl
    exact k_iret C rfl (by rw [hL]) (by rw [hL]) dX3_endTold_58
  ·
    refine k_iconst C 0 (by decide) dX3_endTold_7 ?_
    have hL : fX3_endTold_2 X = (0, X) := by exact (if_pos c1).trans rfl
    exact k_iret C rfl (by rw [hL]) (by rw [hL]) dX3_endTold_8

noncomputable def fX3_endTold_3 (X : Mo) : Int32 × Mo :=
  if X.2.2.2.2.2.2.2.2.1 = 0 then (0, X)
  else ((fX3_fullFlight X).2.2.2.2.2.2.1.2.2.2.2.2.2.2.1, (fX3_fullFlight X).2)
def NX3_endTold_3 (X : Mo) : Prop := ((¬ X.2.2.2.2.2.2.2.2.1 = 0) → (NX3_fullFlight X))
set_option maxHeartbeats 4000000 in
set_option maxRecDepth 100000 in
theorem mX3_endTold_3 (l : Launch) (D : va_G) (cI cJ : ClassId) (b0 b1 b2 b3 b4 b5 b6 : Nat) (X : Mo) (hN : ((¬ X.2.2.2.2.2.2.2.2.1 = 0) → (NX3_fullFlight X)))  : kCi l D cI cJ yX3_endTold (.code yX3_endTold cX3_endTold 3 (some .int)) { frames := 6, cells := 0, slots := 0, locals := 128 } [.ref b0, .int 3] (wM cI b0 b1 b2 b3 b4 b5 b6 X) (fX3_endTold_3 X).1 (wM cI b0 b1 b2 b3 b4 b5 b6 (fX3_endTold_3 X).2) := by
  have hN0 := hN
  refine fun sz => k_of (lv := [(0, .ref b0), (1, .int 3)]) (by decide) sz (by exact Nat.le_of_ble_eq_true rfl) rfl ?_
  intro p e s m args below meth c hsz C
  refine k_aload_n C dX3_endTold_0 0 rfl ?_
  refine k_getX3 C 0 2 rfl (by decide) rfl q572 rfl dX3_endTold_1 ?_
  refine k_if_ne C 9 (by decide) dX3_endTold_4 (fun c1 => ?_) (fun c1 => ?_)
  ·
    refine k_aload_n C dX3_endTold_9 0 rfl ?_
    refine k_callV_i C (mX3_fullFlight l D cI cJ b0 b1 b2 b3 b4 b5 b6 X (by exact hN0 c1)) (cwV 0 C.2.2.2.2.1 (kGV q715 q717 q47 q61 q718) rfl rfl rfl ⟨rfl, hdX3_fullFlight⟩ ⟨Nat.le_of_ble_eq_true rfl, Nat.le_of_ble_eq_true rfl⟩) [0, 1, 2, 3, 4, 5, 6] [] [0, 1, 2, 3, 4, 5, 6] [] (wM cI b0 b1 b2 b3 b4 b5 b6 (fX3_fullFlight X).2) rfl rfl rfl rfl (by decide) [b0, b1, b2, b3, b4, b5, b6] rfl rfl rfl rfl 0 3 rfl rfl rfl (Nat.le_of_ble_eq_true rfl) ⟨Nat.zero_le _, Nat.zero_le _⟩ rfl dX3_endTold_10 ?_
    generalize ez2 : fX3_fullFlight X = z2
    refine k_istore_n C [(2, .int z2.1), (0, .ref b0), (1, .int 3)] (by decide) rfl dX3_endTold_13 ?_
    refine k_iload_n C dX3_endTold_14 2 rfl ?_
    refine k_tabIn (off := 44) C 59 (by decide) (by decide) (by decide +kernel) (by decide) dX3_endTold_15 ?_
    refine k_aload_n C dX3_endTold_59 1 rfl ?_
    refine k_getX3 C 0 16 rfl (by decide) rfl q586 rfl dX3_endTold_60 ?_
    refine k_bipush C 7 (by decide) dX3_endTold_63 ?_
    refine k_iald C 6 rfl vi9_7 (ar9_l7 _) dX3_endTold_65 ?_
    have hL : fX3_endTold_3 X = (z2.2.2.2.2.2.2.1.2.2.2.2.2.2.2.1, z2.2) := by subst ez2; exact (if_neg c1).trans rfl
    exact k_iret C rfl (by rw [hL]) (by rw [hL]) dX3_endTold_66
  ·
    refine k_iconst C 0 (by decide) dX3_endTold_7 ?_
    have hL : fX3_endTold_3 X = (0, X) := by exact (if_pos c1).trans rfl
    exact k_iret C rfl (by rw [hL]) (by rw [hL]) dX3_endTold_8

noncomputable def fX3_endTold_4 (X : Mo) : Int32 × Mo :=
  if X.2.2.2.2.2.2.2.2.1 = 0 then (0, X)
  else ((fX3_fullFlight X).2.2.2.2.2.2.1.2.2.2.2.2.2.2.2, (fX3_fullFlight X).2)
def NX3_endTold_4 (X : Mo) : Prop := ((¬ X.2.2.2.2.2.2.2.2.1 = 0) → (NX3_fullFlight X))
set_option maxHeartbeats 4000000 in
set_option maxRecDepth 100000 in
theorem mX3_endTold_4 (l : Launch) (D : va_G) (cI cJ : ClassId) (b0 b1 b2 b3 b4 b5 b6 : Nat) (X : Mo) (hN : ((¬ X.2.2.2.2.2.2.2.2.1 = 0) → (NX3_fullFlight X)))  : kCi l D cI cJ yX3_endTold (.code yX3_endTold cX3_endTold 3 (some .int)) { frames := 6, cells := 0, slots := 0, locals := 128 } [.ref b0, .int 4] (wM cI b0 b1 b2 b3 b4 b5 b6 X) (fX3_endTold_4 X).1 (wM cI b0 b1 b2 b3 b4 b5 b6 (fX3_endTold_4 X).2) := by
  have hN0 := hN
  refine fun sz => k_of (lv := [(0, .ref b0), (1, .int 4)]) (by decide) sz (by exact Nat.le_of_ble_eq_true rfl) rfl ?_
  intro p e s m args below meth c hsz C
  refine k_aload_n C dX3_endTold_0 0 rfl ?_
  refine k_getX3 C 0 2 rfl (by decide) rfl q572 rfl dX3_endTold_1 ?_
  refine k_if_ne C 9 (by decide) dX3_endTold_4 (fun c1 => ?_) (fun c1 => ?_)
  ·
    refine k_aload_n C dX3_endTold_9 0 rfl ?_
    refine k_callV_i C (mX3_fullFlight l D cI cJ b0 b1 b2 b3 b4 b5 b6 X (by exact hN0 c1)) (cwV 0 C.2.2.2.2.1 (kGV q715 q717 q47 q61 q718) rfl rfl rfl ⟨rfl, hdX3_fullFlight⟩ ⟨Nat.le_of_ble_eq_true rfl, Nat.le_of_ble_eq_true rfl⟩) [0, 1, 2, 3, 4, 5, 6] [] [0, 1, 2, 3, 4, 5, 6] [] (wM cI b0 b1 b2 b3 b4 b5 b6 (fX3_fullFlight X).2) rfl rfl rfl rfl (by decide) [b0, b1, b2, b3, b4, b5, b6] rfl rfl rfl rfl 0 3 rfl rfl rfl (Nat.le_of_ble_eq_true rfl) ⟨Nat.zero_le _, Nat.zero_le _⟩ rfl dX3_endTold_10 ?_
    generalize ez2 : fX3_fullFlight X = z2
    refine k_istore_n C [(2, .int z2.1), (0, .ref b0), (1, .int 4)] (by decide) rfl dX3_endTold_13 ?_
    refine k_iload_n C dX3_endTold_14 2 rfl ?_
    refine k_tabOut C 67 (by decide) (by decide) dX3_endTold_15 ?_
    refine k_aload_n C dX3_endTold_67 1 rfl ?_
    refine k_getX3 C 0 16 rfl (by decide) rfl q586 rfl dX3_endTold_68 ?_
    refine k_bipush C 8 (by decide) dX3_endTold_71 ?_
    refine k_iald C 6 rfl vi9_8 (ar9_l8 _) dX3_endTold_73 ?_
    have hL : fX3_endTold_4 X = (z2.2.2.2.2.2.2.1.2.2.2.2.2.2.2.2, z2.2) := by subst ez2; exact (if_neg c1).trans rfl
    exact k_iret C rfl (by rw [hL]) (by rw [hL]) dX3_endTold_74
  ·
    refine k_iconst C 0 (by decide) dX3_endTold_7 ?_
    have hL : fX3_endTold_4 X = (0, X) := by exact (if_pos c1).trans rfl
    exact k_iret C rfl (by rw [hL]) (by rw [hL]) dX3_endTold_8

set_option maxHeartbeats 4000000 in
set_option maxRecDepth 100000 in
theorem mX3_isIn_k0_0_4 (l : Launch) (D : va_G) (cI cJ : ClassId)   : kCi l D cI cJ yX3_isIn (.code yX3_isIn cX3_isIn 3 (some .boolean)) { frames := 0, cells := 0, slots := 0, locals := 0 } [.int 0, .int 0, .int 4] [] (1) [] := by
  refine fun sz => k_of (lv := [(0, .int 0), (1, .int 0), (2, .int 4)]) (by decide) sz (by exact Nat.le_of_ble_eq_true rfl) rfl ?_
  intro p e s m args below meth c hsz C
  refine k_iload_n C dX3_isIn_0 0 rfl ?_
  refine k_iload_n C dX3_isIn_1 1 rfl ?_
  refine k_icmp_lt C 14 (by decide) dX3_isIn_2 (fun h => absurd h (by decide)) (fun _ => ?_)
  refine k_iload_n C dX3_isIn_5 0 rfl ?_
  refine k_iload_n C dX3_isIn_6 2 rfl ?_
  refine k_icmp_gt C 14 (by decide) dX3_isIn_7 (fun h => absurd h (by decide)) (fun _ => ?_)
  refine k_iconst C 1 (by decide) dX3_isIn_10 ?_
  refine k_goto C 15 (by decide) dX3_isIn_11 ?_
  exact k_zret C rfl rfl rfl rfl dX3_isIn_15

theorem hdX3_end : yX3_end.cls ≠ "java/lang/invoke/MethodHandle" ∧ yX3_end.cls ≠ "java/lang/invoke/VarHandle" ∧ (parseMethodDescriptor yX3_end.desc).map (fun d => d.parameters.length) = some 1 := by decide +kernel
noncomputable def fX3_end_0 (X : Mo) : Int32 × Mo :=
  ((fX3_endTold_0 (X.1, X.2.1, X.2.2.1, X.2.2.2.1, X.2.2.2.2.1, X.2.2.2.2.2.1, 0, X.2.2.2.2.2.2.2)).1, (fX3_endTold_0 (X.1, X.2.1, X.2.2.1, X.2.2.2.1, X.2.2.2.2.1, X.2.2.2.2.2.1, 0, X.2.2.2.2.2.2.2)).2)
def NX3_end_0 (X : Mo) : Prop := ((NX3_endTold_0 (X.1, X.2.1, X.2.2.1, X.2.2.2.1, X.2.2.2.2.1, X.2.2.2.2.2.1, 0, X.2.2.2.2.2.2.2)))
set_option maxHeartbeats 4000000 in
set_option maxRecDepth 100000 in
theorem mX3_end_0 (l : Launch) (D : va_G) (cI cJ : ClassId) (b0 b1 b2 b3 b4 b5 b6 : Nat) (X : Mo) (hN : ((NX3_endTold_0 (X.1, X.2.1, X.2.2.1, X.2.2.2.1, X.2.2.2.2.1, X.2.2.2.2.2.1, 0, X.2.2.2.2.2.2.2))))  : kCi l D cI cJ yX3_end (.code yX3_end cX3_end 2 (some .int)) { frames := 7, cells := 0, slots := 0, locals := 150 } [.ref b0, .int 0] (wM cI b0 b1 b2 b3 b4 b5 b6 X) (fX3_end_0 X).1 (wM cI b0 b1 b2 b3 b4 b5 b6 (fX3_end_0 X).2) := by
  have hN0 := hN
  refine fun sz => k_of (lv := [(0, .ref b0), (1, .int 0)]) (by decide) sz (by exact Nat.le_of_ble_eq_true rfl) rfl ?_
  intro p e s m args below meth c hsz C
  refine k_aload_n C dX3_end_0 0 rfl ?_
  refine k_iconst C 0 (by decide) dX3_end_1 ?_
  refine k_putX3 C [(b0, cM b1 b2 b3 b4 b5 b6 (0, X.2.2.2.2.2.2.2)), (b1, cA9 cI X.1), (b2, cA2 cI X.2.1), (b3, cA2 cI X.2.2.1), (b4, cA2 cI X.2.2.2.1), (b5, cA2 cI X.2.2.2.2.1), (b6, cA9 cI X.2.2.2.2.2.1)] 0 0 rfl rfl (by decide) q570 rfl rfl fdI rfl rfl (Nat.le_of_ble_eq_true rfl) dX3_end_2 ?_
  refine k_iload_n C dX3_end_5 1 rfl ?_
  refine k_iconst C 0 (by decide) dX3_end_6 ?_
  refine k_iconst C 4 (by decide) dX3_end_7 ?_
  refine k_callS_i C (mX3_isIn_k0_0_4 l D cI cJ) (va_cwS 3 C.2.2.2.2.1 (kGS q637 q638 q61 q639) rfl rfl rfl hdX3_isIn ⟨Nat.le_of_ble_eq_true rfl, Nat.le_of_ble_eq_true rfl⟩) [] [0, 1, 2, 3, 4, 5, 6] [0, 1, 2, 3, 4, 5, 6] [(b0, cM b1 b2 b3 b4 b5 b6 (0, X.2.2.2.2.2.2.2)), (b1, cA9 cI X.1), (b2, cA2 cI X.2.1), (b3, cA2 cI X.2.2.1), (b4, cA2 cI X.2.2.2.1), (b5, cA2 cI X.2.2.2.2.1), (b6, cA9 cI X.2.2.2.2.2.1)] ([(b0, cM b1 b2 b3 b4 b5 b6 (0, X.2.2.2.2.2.2.2)), (b1, cA9 cI X.1), (b2, cA2 cI X.2.1), (b3, cA2 cI X.2.2.1), (b4, cA2 cI X.2.2.2.1), (b5, cA2 cI X.2.2.2.2.1), (b6, cA9 cI X.2.2.2.2.2.1)]) rfl rfl rfl rfl (by decide) [] rfl rfl rfl rfl (Nat.le_of_ble_eq_true rfl) ⟨Nat.zero_le _, Nat.zero_le _⟩ rfl dX3_end_8 ?_
  refine k_if_eq C 22 (by decide) dX3_end_11 (fun h => absurd h (by decide)) (fun _ => ?_)
  refine k_aload_n C dX3_end_14 0 rfl ?_
  refine k_iload_n C dX3_end_15 1 rfl ?_
  refine k_callV_i C (mX3_endTold_0 l D cI cJ b0 b1 b2 b3 b4 b5 b6 (X.1, X.2.1, X.2.2.1, X.2.2.2.1, X.2.2.2.2.1, X.2.2.2.2.2.1, 0, X.2.2.2.2.2.2.2) (by exact hN0)) (cwV 1 C.2.2.2.2.1 (kGV q771 q773 q53 q61 q774) rfl rfl rfl ⟨rfl, hdX3_endTold⟩ ⟨Nat.le_of_ble_eq_true rfl, Nat.le_of_ble_eq_true rfl⟩) [0, 1, 2, 3, 4, 5, 6] [] [0, 1, 2, 3, 4, 5, 6] [] (wM cI b0 b1 b2 b3 b4 b5 b6 (fX3_endTold_0 (X.1, X.2.1, X.2.2.1, X.2.2.2.1, X.2.2.2.2.1, X.2.2.2.2.2.1, 0, X.2.2.2.2.2.2.2)).2) rfl rfl rfl rfl (by decide) [b0, b1, b2, b3, b4, b5, b6] rfl rfl rfl rfl 0 3 rfl rfl rfl (Nat.le_of_ble_eq_true rfl) ⟨Nat.zero_le _, Nat.zero_le _⟩ rfl dX3_end_16 ?_
  generalize ez1 : fX3_endTold_0 (X.1, X.2.1, X.2.2.1, X.2.2.2.1, X.2.2.2.2.1, X.2.2.2.2.2.1, 0, X.2.2.2.2.2.2.2) = z1
  refine k_goto C 27 (by decide) dX3_end_19 ?_
  have hL : fX3_end_0 X = (z1.1, z1.2) := by subst ez1; exact rfl
  exact k_iret C rfl (by rw [hL]) (by rw [hL]) dX3_end_27

set_option maxHeartbeats 4000000 in
set_option maxRecDepth 100000 in
theorem mX3_isIn_k1_0_4 (l : Launch) (D : va_G) (cI cJ : ClassId)   : kCi l D cI cJ yX3_isIn (.code yX3_isIn cX3_isIn 3 (some .boolean)) { frames := 0, cells := 0, slots := 0, locals := 0 } [.int 1, .int 0, .int 4] [] (1) [] := by
  refine fun sz => k_of (lv := [(0, .int 1), (1, .int 0), (2, .int 4)]) (by decide) sz (by exact Nat.le_of_ble_eq_true rfl) rfl ?_
  intro p e s m args below meth c hsz C
  refine k_iload_n C dX3_isIn_0 0 rfl ?_
  refine k_iload_n C dX3_isIn_1 1 rfl ?_
  refine k_icmp_lt C 14 (by decide) dX3_isIn_2 (fun h => absurd h (by decide)) (fun _ => ?_)
  refine k_iload_n C dX3_isIn_5 0 rfl ?_
  refine k_iload_n C dX3_isIn_6 2 rfl ?_
  refine k_icmp_gt C 14 (by decide) dX3_isIn_7 (fun h => absurd h (by decide)) (fun _ => ?_)
  refine k_iconst C 1 (by decide) dX3_isIn_10 ?_
  refine k_goto C 15 (by decide) dX3_isIn_11 ?_
  exact k_zret C rfl rfl rfl rfl dX3_isIn_15

noncomputable def fX3_end_1 (X : Mo) : Int32 × Mo :=
  ((fX3_endTold_1 (X.1, X.2.1, X.2.2.1, X.2.2.2.1, X.2.2.2.2.1, X.2.2.2.2.2.1, 0, X.2.2.2.2.2.2.2)).1, (fX3_endTold_1 (X.1, X.2.1, X.2.2.1, X.2.2.2.1, X.2.2.2.2.1, X.2.2.2.2.2.1, 0, X.2.2.2.2.2.2.2)).2)
def NX3_end_1 (X : Mo) : Prop := ((NX3_endTold_1 (X.1, X.2.1, X.2.2.1, X.2.2.2.1, X.2.2.2.2.1, X.2.2.2.2.2.1, 0, X.2.2.2.2.2.2.2)))
set_option maxHeartbeats 4000000 in
set_option maxRecDepth 100000 in
theorem mX3_end_1 (l : Launch) (D : va_G) (cI cJ : ClassId) (b0 b1 b2 b3 b4 b5 b6 : Nat) (X : Mo) (hN : ((NX3_endTold_1 (X.1, X.2.1, X.2.2.1, X.2.2.2.1, X.2.2.2.2.1, X.2.2.2.2.2.1, 0, X.2.2.2.2.2.2.2))))  : kCi l D cI cJ yX3_end (.code yX3_end cX3_end 2 (some .int)) { frames := 7, cells := 0, slots := 0, locals := 150 } [.ref b0, .int 1] (wM cI b0 b1 b2 b3 b4 b5 b6 X) (fX3_end_1 X).1 (wM cI b0 b1 b2 b3 b4 b5 b6 (fX3_end_1 X).2) := by
  have hN0 := hN
  refine fun sz => k_of (lv := [(0, .ref b0), (1, .int 1)]) (by decide) sz (by exact Nat.le_of_ble_eq_true rfl) rfl ?_
  intro p e s m args below meth c hsz C
  refine k_aload_n C dX3_end_0 0 rfl ?_
  refine k_iconst C 0 (by decide) dX3_end_1 ?_
  refine k_putX3 C [(b0, cM b1 b2 b3 b4 b5 b6 (0, X.2.2.2.2.2.2.2)), (b1, cA9 cI X.1), (b2, cA2 cI X.2.1), (b3, cA2 cI X.2.2.1), (b4, cA2 cI X.2.2.2.1), (b5, cA2 cI X.2.2.2.2.1), (b6, cA9 cI X.2.2.2.2.2.1)] 0 0 rfl rfl (by decide) q570 rfl rfl fdI rfl rfl (Nat.le_of_ble_eq_true rfl) dX3_end_2 ?_
  refine k_iload_n C dX3_end_5 1 rfl ?_
  refine k_iconst C 0 (by decide) dX3_end_6 ?_
  refine k_iconst C 4 (by decide) dX3_end_7 ?_
  refine k_callS_i C (mX3_isIn_k1_0_4 l D cI cJ) (va_cwS 3 C.2.2.2.2.1 (kGS q637 q638 q61 q639) rfl rfl rfl hdX3_isIn ⟨Nat.le_of_ble_eq_true rfl, Nat.le_of_ble_eq_true rfl⟩) [] [0, 1, 2, 3, 4, 5, 6] [0, 1, 2, 3, 4, 5, 6] [(b0, cM b1 b2 b3 b4 b5 b6 (0, X.2.2.2.2.2.2.2)), (b1, cA9 cI X.1), (b2, cA2 cI X.2.1), (b3, cA2 cI X.2.2.1), (b4, cA2 cI X.2.2.2.1), (b5, cA2 cI X.2.2.2.2.1), (b6, cA9 cI X.2.2.2.2.2.1)] ([(b0, cM b1 b2 b3 b4 b5 b6 (0, X.2.2.2.2.2.2.2)), (b1, cA9 cI X.1), (b2, cA2 cI X.2.1), (b3, cA2 cI X.2.2.1), (b4, cA2 cI X.2.2.2.1), (b5, cA2 cI X.2.2.2.2.1), (b6, cA9 cI X.2.2.2.2.2.1)]) rfl rfl rfl rfl (by decide) [] rfl rfl rfl rfl (Nat.le_of_ble_eq_true rfl) ⟨Nat.zero_le _, Nat.zero_le _⟩ rfl dX3_end_8 ?_
  refine k_if_eq C 22 (by decide) dX3_end_11 (fun h => absurd h (by decide)) (fun _ => ?_)
  refine k_aload_n C dX3_end_14 0 rfl ?_
  refine k_iload_n C dX3_end_15 1 rfl ?_
  refine k_callV_i C (mX3_endTold_1 l D cI cJ b0 b1 b2 b3 b4 b5 b6 (X.1, X.2.1, X.2.2.1, X.2.2.2.1, X.2.2.2.2.1, X.2.2.2.2.2.1, 0, X.2.2.2.2.2.2.2) (by exact hN0)) (cwV 1 C.2.2.2.2.1 (kGV q771 q773 q53 q61 q774) rfl rfl rfl ⟨rfl, hdX3_endTold⟩ ⟨Nat.le_of_ble_eq_true rfl, Nat.le_of_ble_eq_true rfl⟩) [0, 1, 2, 3, 4, 5, 6] [] [0, 1, 2, 3, 4, 5, 6] [] (wM cI b0 b1 b2 b3 b4 b5 b6 (fX3_endTold_1 (X.1, X.2.1, X.2.2.1, X.2.2.2.1, X.2.2.2.2.1, X.2.2.2.2.2.1, 0, X.2.2.2.2.2.2.2)).2) rfl rfl rfl rfl (by decide) [b0, b1, b2, b3, b4, b5, b6] rfl rfl rfl rfl 0 3 rfl rfl rfl (Nat.le_of_ble_eq_true rfl) ⟨Nat.zero_le _, Nat.zero_le _⟩ rfl dX3_end_16 ?_
  generalize ez1 : fX3_endTold_1 (X.1, X.2.1, X.2.2.1, X.2.2.2.1, X.2.2.2.2.1, X.2.2.2.2.2.1, 0, X.2.2.2.2.2.2.2) = z1
  refine k_goto C 27 (by decide) dX3_end_19 ?_
  have hL : fX3_end_1 X = (z1.1, z1.2) := by subst ez1; exact rfl
  exact k_iret C rfl (by rw [hL]) (by rw [hL]) dX3_end_27

set_option maxHeartbeats 4000000 in
set_option maxRecDepth 100000 in
theorem mX3_isIn_k2_0_4 (l : Launch) (D : va_G) (cI cJ : ClassId)   : kCi l D cI cJ yX3_isIn (.code yX3_isIn cX3_isIn 3 (some .boolean)) { frames := 0, cells := 0, slots := 0, locals := 0 } [.int 2, .int 0, .int 4] [] (1) [] := by
  refine fun sz => k_of (lv := [(0, .int 2), (1, .int 0), (2, .int 4)]) (by decide) sz (by exact Nat.le_of_ble_eq_true rfl) rfl ?_
  intro p e s m args below meth c hsz C
  refine k_iload_n C dX3_isIn_0 0 rfl ?_
  refine k_iload_n C dX3_isIn_1 1 rfl ?_
  refine k_icmp_lt C 14 (by decide) dX3_isIn_2 (fun h => absurd h (by decide)) (fun _ => ?_)
  refine k_iload_n C dX3_isIn_5 0 rfl ?_
  refine k_iload_n C dX3_isIn_6 2 rfl ?_
  refine k_icmp_gt C 14 (by decide) dX3_isIn_7 (fun h => absurd h (by decide)) (fun _ => ?_)
  refine k_iconst C 1 (by decide) dX3_isIn_10 ?_
  refine k_goto C 15 (by decide) dX3_isIn_11 ?_
  exact k_zret C rfl rfl rfl rfl dX3_isIn_15

noncomputable def fX3_end_2 (X : Mo) : Int32 × Mo :=
  ((fX3_endTold_2 (X.1, X.2.1, X.2.2.1, X.2.2.2.1, X.2.2.2.2.1, X.2.2.2.2.2.1, 0, X.2.2.2.2.2.2.2)).1, (fX3_endTold_2 (X.1, X.2.1, X.2.2.1, X.2.2.2.1, X.2.2.2.2.1, X.2.2.2.2.2.1, 0, X.2.2.2.2.2.2.2)).2)
def NX3_end_2 (X : Mo) : Prop := ((NX3_endTold_2 (X.1, X.2.1, X.2.2.1, X.2.2.2.1, X.2.2.2.2.1, X.2.2.2.2.2.1, 0, X.2.2.2.2.2.2.2)))
set_option maxHeartbeats 4000000 in
set_option maxRecDepth 100000 in
theorem mX3_end_2 (l : Launch) (D : va_G) (cI cJ : ClassId) (b0 b1 b2 b3 b4 b5 b6 : Nat) (X : Mo) (hN : ((NX3_endTold_2 (X.1, X.2.1, X.2.2.1, X.2.2.2.1, X.2.2.2.2.1, X.2.2.2.2.2.1, 0, X.2.2.2.2.2.2.2))))  : kCi l D cI cJ yX3_end (.code yX3_end cX3_end 2 (some .int)) { frames := 7, cells := 0, slots := 0, locals := 150 } [.ref b0, .int 2] (wM cI b0 b1 b2 b3 b4 b5 b6 X) (fX3_end_2 X).1 (wM cI b0 b1 b2 b3 b4 b5 b6 (fX3_end_2 X).2) := by
  have hN0 := hN
  refine fun sz => k_of (lv := [(0, .ref b0), (1, .int 2)]) (by decide) sz (by exact Nat.le_of_ble_eq_true rfl) rfl ?_
  intro p e s m args below meth c hsz C
  refine k_aload_n C dX3_end_0 0 rfl ?_
  refine k_iconst C 0 (by decide) dX3_end_1 ?_
  refine k_putX3 C [(b0, cM b1 b2 b3 b4 b5 b6 (0, X.2.2.2.2.2.2.2)), (b1, cA9 cI X.1), (b2, cA2 cI X.2.1), (b3, cA2 cI X.2.2.1), (b4, cA2 cI X.2.2.2.1), (b5, cA2 cI X.2.2.2.2.1), (b6, cA9 cI X.2.2.2.2.2.1)] 0 0 rfl rfl (by decide) q570 rfl rfl fdI rfl rfl (Nat.le_of_ble_eq_true rfl) dX3_end_2 ?_
  refine k_iload_n C dX3_end_5 1 rfl ?_
  refine k_iconst C 0 (by decide) dX3_end_6 ?_
  refine k_iconst C 4 (by decide) dX3_end_7 ?_
  refine k_callS_i C (mX3_isIn_k2_0_4 l D cI cJ) (va_cwS 3 C.2.2.2.2.1 (kGS q637 q638 q61 q639) rfl rfl rfl hdX3_isIn ⟨Nat.le_of_ble_eq_true rfl, Nat.le_of_ble_eq_true rfl⟩) [] [0, 1, 2, 3, 4, 5, 6] [0, 1, 2, 3, 4, 5, 6] [(b0, cM b1 b2 b3 b4 b5 b6 (0, X.2.2.2.2.2.2.2)), (b1, cA9 cI X.1), (b2, cA2 cI X.2.1), (b3, cA2 cI X.2.2.1), (b4, cA2 cI X.2.2.2.1), (b5, cA2 cI X.2.2.2.2.1), (b6, cA9 cI X.2.2.2.2.2.1)] ([(b0, cM b1 b2 b3 b4 b5 b6 (0, X.2.2.2.2.2.2.2)), (b1, cA9 cI X.1), (b2, cA2 cI X.2.1), (b3, cA2 cI X.2.2.1), (b4, cA2 cI X.2.2.2.1), (b5, cA2 cI X.2.2.2.2.1), (b6, cA9 cI X.2.2.2.2.2.1)]) rfl rfl rfl rfl (by decide) [] rfl rfl rfl rfl (Nat.le_of_ble_eq_true rfl) ⟨Nat.zero_le _, Nat.zero_le _⟩ rfl dX3_end_8 ?_
  refine k_if_eq C 22 (by decide) dX3_end_11 (fun h => absurd h (by decide)) (fun _ => ?_)
  refine k_aload_n C dX3_end_14 0 rfl ?_
  refine k_iload_n C dX3_end_15 1 rfl ?_
  refine k_callV_i C (mX3_endTold_2 l D cI cJ b0 b1 b2 b3 b4 b5 b6 (X.1, X.2.1, X.2.2.1, X.2.2.2.1, X.2.2.2.2.1, X.2.2.2.2.2.1, 0, X.2.2.2.2.2.2.2) (by exact hN0)) (cwV 1 C.2.2.2.2.1 (kGV q771 q773 q53 q61 q774) rfl rfl rfl ⟨rfl, hdX3_endTold⟩ ⟨Nat.le_of_ble_eq_true rfl, Nat.le_of_ble_eq_true rfl⟩) [0, 1, 2, 3, 4, 5, 6] [] [0, 1, 2, 3, 4, 5, 6] [] (wM cI b0 b1 b2 b3 b4 b5 b6 (fX3_endTold_2 (X.1, X.2.1, X.2.2.1, X.2.2.2.1, X.2.2.2.2.1, X.2.2.2.2.2.1, 0, X.2.2.2.2.2.2.2)).2) rfl rfl rfl rfl (by decide) [b0, b1, b2, b3, b4, b5, b6] rfl rfl rfl rfl 0 3 rfl rfl rfl (Nat.le_of_ble_eq_true rfl) ⟨Nat.zero_le _, Nat.zero_le _⟩ rfl dX3_end_16 ?_
  generalize ez1 : fX3_endTold_2 (X.1, X.2.1, X.2.2.1, X.2.2.2.1, X.2.2.2.2.1, X.2.2.2.2.2.1, 0, X.2.2.2.2.2.2.2) = z1
  refine k_goto C 27 (by decide) dX3_end_19 ?_
  have hL : fX3_end_2 X = (z1.1, z1.2) := by subst ez1; exact rfl
  exact k_iret C rfl (by rw [hL]) (by rw [hL]) dX3_end_27

set_option maxHeartbeats 4000000 in
set_option maxRecDepth 100000 in
theorem mX3_isIn_k3_0_4 (l : Launch) (D : va_G) (cI cJ : ClassId)   : kCi l D cI cJ yX3_isIn (.code yX3_isIn cX3_isIn 3 (some .boolean)) { frames := 0, cells := 0, slots := 0, locals := 0 } [.int 3, .int 0, .int 4] [] (1) [] := by
  refine fun sz => k_of (lv := [(0, .int 3), (1, .int 0), (2, .int 4)]) (by decide) sz (by exact Nat.le_of_ble_eq_true rfl) rfl ?_
  intro p e s m args below meth c hsz C
  refine k_iload_n C dX3_isIn_0 0 rfl ?_
  refine k_iload_n C dX3_isIn_1 1 rfl ?_
  refine k_icmp_lt C 14 (by decide) dX3_isIn_2 (fun h => absurd h (by decide)) (fun _ => ?_)
  refine k_iload_n C dX3_isIn_5 0 rfl ?_
  refine k_iload_n C dX3_isIn_6 2 rfl ?_
  refine k_icmp_gt C 14 (by decide) dX3_isIn_7 (fun h => absurd h (by decide)) (fun _ => ?_)
  refine k_iconst C 1 (by decide) dX3_isIn_10 ?_
  refine k_goto C 15 (by decide) dX3_isIn_11 ?_
  exact k_zret C rfl rfl rfl rfl dX3_isIn_15

noncomputable def fX3_end_3 (X : Mo) : Int32 × Mo :=
  ((fX3_endTold_3 (X.1, X.2.1, X.2.2.1, X.2.2.2.1, X.2.2.2.2.1, X.2.2.2.2.2.1, 0, X.2.2.2.2.2.2.2)).1, (fX3_endTold_3 (X.1, X.2.1, X.2.2.1, X.2.2.2.1, X.2.2.2.2.1, X.2.2.2.2.2.1, 0, X.2.2.2.2.2.2.2)).2)
def NX3_end_3 (X : Mo) : Prop := ((NX3_endTold_3 (X.1, X.2.1, X.2.2.1, X.2.2.2.1, X.2.2.2.2.1, X.2.2.2.2.2.1, 0, X.2.2.2.2.2.2.2)))
set_option maxHeartbeats 4000000 in
set_option maxRecDepth 100000 in
theorem mX3_end_3 (l : Launch) (D : va_G) (cI cJ : ClassId) (b0 b1 b2 b3 b4 b5 b6 : Nat) (X : Mo) (hN : ((NX3_endTold_3 (X.1, X.2.1, X.2.2.1, X.2.2.2.1, X.2.2.2.2.1, X.2.2.2.2.2.1, 0, X.2.2.2.2.2.2.2))))  : kCi l D cI cJ yX3_end (.code yX3_end cX3_end 2 (some .int)) { frames := 7, cells := 0, slots := 0, locals := 150 } [.ref b0, .int 3] (wM cI b0 b1 b2 b3 b4 b5 b6 X) (fX3_end_3 X).1 (wM cI b0 b1 b2 b3 b4 b5 b6 (fX3_end_3 X).2) := by
  have hN0 := hN
  refine fun sz => k_of (lv := [(0, .ref b0), (1, .int 3)]) (by decide) sz (by exact Nat.le_of_ble_eq_true rfl) rfl ?_
  intro p e s m args below meth c hsz C
  refine k_aload_n C dX3_end_0 0 rfl ?_
  refine k_iconst C 0 (by decide) dX3_end_1 ?_
  refine k_putX3 C [(b0, cM b1 b2 b3 b4 b5 b6 (0, X.2.2.2.2.2.2.2)), (b1, cA9 cI X.1), (b2, cA2 cI X.2.1), (b3, cA2 cI X.2.2.1), (b4, cA2 cI X.2.2.2.1), (b5, cA2 cI X.2.2.2.2.1), (b6, cA9 cI X.2.2.2.2.2.1)] 0 0 rfl rfl (by decide) q570 rfl rfl fdI rfl rfl (Nat.le_of_ble_eq_true rfl) dX3_end_2 ?_
  refine k_iload_n C dX3_end_5 1 rfl ?_
  refine k_iconst C 0 (by decide) dX3_end_6 ?_
  refine k_iconst C 4 (by decide) dX3_end_7 ?_
  refine k_callS_i C (mX3_isIn_k3_0_4 l D cI cJ) (va_cwS 3 C.2.2.2.2.1 (kGS q637 q638 q61 q639) rfl rfl rfl hdX3_isIn ⟨Nat.le_of_ble_eq_true rfl, Nat.le_of_ble_eq_true rfl⟩) [] [0, 1, 2, 3, 4, 5, 6] [0, 1, 2, 3, 4, 5, 6] [(b0, cM b1 b2 b3 b4 b5 b6 (0, X.2.2.2.2.2.2.2)), (b1, cA9 cI X.1), (b2, cA2 cI X.2.1), (b3, cA2 cI X.2.2.1), (b4, cA2 cI X.2.2.2.1), (b5, cA2 cI X.2.2.2.2.1), (b6, cA9 cI X.2.2.2.2.2.1)] ([(b0, cM b1 b2 b3 b4 b5 b6 (0, X.2.2.2.2.2.2.2)), (b1, cA9 cI X.1), (b2, cA2 cI X.2.1), (b3, cA2 cI X.2.2.1), (b4, cA2 cI X.2.2.2.1), (b5, cA2 cI X.2.2.2.2.1), (b6, cA9 cI X.2.2.2.2.2.1)]) rfl rfl rfl rfl (by decide) [] rfl rfl rfl rfl (Nat.le_of_ble_eq_true rfl) ⟨Nat.zero_le _, Nat.zero_le _⟩ rfl dX3_end_8 ?_
  refine k_if_eq C 22 (by decide) dX3_end_11 (fun h => absurd h (by decide)) (fun _ => ?_)
  refine k_aload_n C dX3_end_14 0 rfl ?_
  refine k_iload_n C dX3_end_15 1 rfl ?_
  refine k_callV_i C (mX3_endTold_3 l D cI cJ b0 b1 b2 b3 b4 b5 b6 (X.1, X.2.1, X.2.2.1, X.2.2.2.1, X.2.2.2.2.1, X.2.2.2.2.2.1, 0, X.2.2.2.2.2.2.2) (by exact hN0)) (cwV 1 C.2.2.2.2.1 (kGV q771 q773 q53 q61 q774) rfl rfl rfl ⟨rfl, hdX3_endTold⟩ ⟨Nat.le_of_ble_eq_true rfl, Nat.le_of_ble_eq_true rfl⟩) [0, 1, 2, 3, 4, 5, 6] [] [0, 1, 2, 3, 4, 5, 6] [] (wM cI b0 b1 b2 b3 b4 b5 b6 (fX3_endTold_3 (X.1, X.2.1, X.2.2.1, X.2.2.2.1, X.2.2.2.2.1, X.2.2.2.2.2.1, 0, X.2.2.2.2.2.2.2)).2) rfl rfl rfl rfl (by decide) [b0, b1, b2, b3, b4, b5, b6] rfl rfl rfl rfl 0 3 rfl rfl rfl (Nat.le_of_ble_eq_true rfl) ⟨Nat.zero_le _, Nat.zero_le _⟩ rfl dX3_end_16 ?_
  generalize ez1 : fX3_endTold_3 (X.1, X.2.1, X.2.2.1, X.2.2.2.1, X.2.2.2.2.1, X.2.2.2.2.2.1, 0, X.2.2.2.2.2.2.2) = z1
  refine k_goto C 27 (by decide) dX3_end_19 ?_
  have hL : fX3_end_3 X = (z1.1, z1.2) := by subst ez1; exact rfl
  exact k_iret C rfl (by rw [hL]) (by rw [hL]) dX3_end_27

set_option maxHeartbeats 4000000 in
set_option maxRecDepth 100000 in
theorem mX3_isIn_k4_0_4 (l : Launch) (D : va_G) (cI cJ : ClassId)   : kCi l D cI cJ yX3_isIn (.code yX3_isIn cX3_isIn 3 (some .boolean)) { frames := 0, cells := 0, slots := 0, locals := 0 } [.int 4, .int 0, .int 4] [] (1) [] := by
  refine fun sz => k_of (lv := [(0, .int 4), (1, .int 0), (2, .int 4)]) (by decide) sz (by exact Nat.le_of_ble_eq_true rfl) rfl ?_
  intro p e s m args below meth c hsz C
  refine k_iload_n C dX3_isIn_0 0 rfl ?_
  refine k_iload_n C dX3_isIn_1 1 rfl ?_
  refine k_icmp_lt C 14 (by decide) dX3_isIn_2 (fun h => absurd h (by decide)) (fun _ => ?_)
  refine k_iload_n C dX3_isIn_5 0 rfl ?_
  refine k_iload_n C dX3_isIn_6 2 rfl ?_
  refine k_icmp_gt C 14 (by decide) dX3_isIn_7 (fun h => absurd h (by decide)) (fun _ => ?_)
  refine k_iconst C 1 (by decide) dX3_isIn_10 ?_
  refine k_goto C 15 (by decide) dX3_isIn_11 ?_
  exact k_zret C rfl rfl rfl rfl dX3_isIn_15

noncomputable def fX3_end_4 (X : Mo) : Int32 × Mo :=
  ((fX3_endTold_4 (X.1, X.2.1, X.2.2.1, X.2.2.2.1, X.2.2.2.2.1, X.2.2.2.2.2.1, 0, X.2.2.2.2.2.2.2)).1, (fX3_endTold_4 (X.1, X.2.1, X.2.2.1, X.2.2.2.1, X.2.2.2.2.1, X.2.2.2.2.2.1, 0, X.2.2.2.2.2.2.2)).2)
def NX3_end_4 (X : Mo) : Prop := ((NX3_endTold_4 (X.1, X.2.1, X.2.2.1, X.2.2.2.1, X.2.2.2.2.1, X.2.2.2.2.2.1, 0, X.2.2.2.2.2.2.2)))
set_option maxHeartbeats 4000000 in
set_option maxRecDepth 100000 in
theorem mX3_end_4 (l : Launch) (D : va_G) (cI cJ : ClassId) (b0 b1 b2 b3 b4 b5 b6 : Nat) (X : Mo) (hN : ((NX3_endTold_4 (X.1, X.2.1, X.2.2.1, X.2.2.2.1, X.2.2.2.2.1, X.2.2.2.2.2.1, 0, X.2.2.2.2.2.2.2))))  : kCi l D cI cJ yX3_end (.code yX3_end cX3_end 2 (some .int)) { frames := 7, cells := 0, slots := 0, locals := 150 } [.ref b0, .int 4] (wM cI b0 b1 b2 b3 b4 b5 b6 X) (fX3_end_4 X).1 (wM cI b0 b1 b2 b3 b4 b5 b6 (fX3_end_4 X).2) := by
  have hN0 := hN
  refine fun sz => k_of (lv := [(0, .ref b0), (1, .int 4)]) (by decide) sz (by exact Nat.le_of_ble_eq_true rfl) rfl ?_
  intro p e s m args below meth c hsz C
  refine k_aload_n C dX3_end_0 0 rfl ?_
  refine k_iconst C 0 (by decide) dX3_end_1 ?_
  refine k_putX3 C [(b0, cM b1 b2 b3 b4 b5 b6 (0, X.2.2.2.2.2.2.2)), (b1, cA9 cI X.1), (b2, cA2 cI X.2.1), (b3, cA2 cI X.2.2.1), (b4, cA2 cI X.2.2.2.1), (b5, cA2 cI X.2.2.2.2.1), (b6, cA9 cI X.2.2.2.2.2.1)] 0 0 rfl rfl (by decide) q570 rfl rfl fdI rfl rfl (Nat.le_of_ble_eq_true rfl) dX3_end_2 ?_
  refine k_iload_n C dX3_end_5 1 rfl ?_
  refine k_iconst C 0 (by decide) dX3_end_6 ?_
  refine k_iconst C 4 (by decide) dX3_end_7 ?_
  refine k_callS_i C (mX3_isIn_k4_0_4 l D cI cJ) (va_cwS 3 C.2.2.2.2.1 (kGS q637 q638 q61 q639) rfl rfl rfl hdX3_isIn ⟨Nat.le_of_ble_eq_true rfl, Nat.le_of_ble_eq_true rfl⟩) [] [0, 1, 2, 3, 4, 5, 6] [0, 1, 2, 3, 4, 5, 6] [(b0, cM b1 b2 b3 b4 b5 b6 (0, X.2.2.2.2.2.2.2)), (b1, cA9 cI X.1), (b2, cA2 cI X.2.1), (b3, cA2 cI X.2.2.1), (b4, cA2 cI X.2.2.2.1), (b5, cA2 cI X.2.2.2.2.1), (b6, cA9 cI X.2.2.2.2.2.1)] ([(b0, cM b1 b2 b3 b4 b5 b6 (0, X.2.2.2.2.2.2.2)), (b1, cA9 cI X.1), (b2, cA2 cI X.2.1), (b3, cA2 cI X.2.2.1), (b4, cA2 cI X.2.2.2.1), (b5, cA2 cI X.2.2.2.2.1), (b6, cA9 cI X.2.2.2.2.2.1)]) rfl rfl rfl rfl (by decide) [] rfl rfl rfl rfl (Nat.le_of_ble_eq_true rfl) ⟨Nat.zero_le _, Nat.zero_le _⟩ rfl dX3_end_8 ?_
  refine k_if_eq C 22 (by decide) dX3_end_11 (fun h => absurd h (by decide)) (fun _ => ?_)
  refine k_aload_n C dX3_end_14 0 rfl ?_
  refine k_iload_n C dX3_end_15 1 rfl ?_
  refine k_callV_i C (mX3_endTold_4 l D cI cJ b0 b1 b2 b3 b4 b5 b6 (X.1, X.2.1, X.2.2.1, X.2.2.2.1, X.2.2.2.2.1, X.2.2.2.2.2.1, 0, X.2.2.2.2.2.2.2) (by exact hN0)) (cwV 1 C.2.2.2.2.1 (kGV q771 q773 q53 q61 q774) rfl rfl rfl ⟨rfl, hdX3_endTold⟩ ⟨Nat.le_of_ble_eq_true rfl, Nat.le_of_ble_eq_true rfl⟩) [0, 1, 2, 3, 4, 5, 6] [] [0, 1, 2, 3, 4, 5, 6] [] (wM cI b0 b1 b2 b3 b4 b5 b6 (fX3_endTold_4 (X.1, X.2.1, X.2.2.1, X.2.2.2.1, X.2.2.2.2.1, X.2.2.2.2.2.1, 0, X.2.2.2.2.2.2.2)).2) rfl rfl rfl rfl (by decide) [b0, b1, b2, b3, b4, b5, b6] rfl rfl rfl rfl 0 3 rfl rfl rfl (Nat.le_of_ble_eq_true rfl) ⟨Nat.zero_le _, Nat.zero_le _⟩ rfl dX3_end_16 ?_
  generalize ez1 : fX3_endTold_4 (X.1, X.2.1, X.2.2.1, X.2.2.2.1, X.2.2.2.2.1, X.2.2.2.2.2.1, 0, X.2.2.2.2.2.2.2) = z1
  refine k_goto C 27 (by decide) dX3_end_19 ?_
  have hL : fX3_end_4 X = (z1.1, z1.2) := by subst ez1; exact rfl
  exact k_iret C rfl (by rw [hL]) (by rw [hL]) dX3_end_27

noncomputable def fX3_end_bad (p0 : Int32) (X : Mo) : Int32 × Mo :=
  ((fX3_no 1 (X.1, X.2.1, X.2.2.1, X.2.2.2.1, X.2.2.2.2.1, X.2.2.2.2.2.1, 0, X.2.2.2.2.2.2.2)).1, (fX3_no 1 (X.1, X.2.1, X.2.2.1, X.2.2.2.1, X.2.2.2.2.1, X.2.2.2.2.2.1, 0, X.2.2.2.2.2.2.2)).2)
set_option maxHeartbeats 4000000 in
set_option maxRecDepth 100000 in
theorem mX3_end_bad (l : Launch) (D : va_G) (cI cJ : ClassId) (b0 b1 b2 b3 b4 b5 b6 : Nat) (p0 : Int32) (X : Mo) (hb0 : (fX3_isIn p0 0 4) = 0)  : kCi l D cI cJ yX3_end (.code yX3_end cX3_end 2 (some .int)) { frames := 7, cells := 0, slots := 0, locals := 150 } [.ref b0, .int p0] (wM cI b0 b1 b2 b3 b4 b5 b6 X) (fX3_end_bad p0 X).1 (wM cI b0 b1 b2 b3 b4 b5 b6 (fX3_end_bad p0 X).2) := by
  refine fun sz => k_of (lv := [(0, .ref b0), (1, .int p0)]) (by decide) sz (by exact Nat.le_of_ble_eq_true rfl) rfl ?_
  intro p e s m args below meth c hsz C
  refine k_aload_n C dX3_end_0 0 rfl ?_
  refine k_iconst C 0 (by decide) dX3_end_1 ?_
  refine k_putX3 C [(b0, cM b1 b2 b3 b4 b5 b6 (0, X.2.2.2.2.2.2.2)), (b1, cA9 cI X.1), (b2, cA2 cI X.2.1), (b3, cA2 cI X.2.2.1), (b4, cA2 cI X.2.2.2.1), (b5, cA2 cI X.2.2.2.2.1), (b6, cA9 cI X.2.2.2.2.2.1)] 0 0 rfl rfl (by decide) q570 rfl rfl fdI rfl rfl (Nat.le_of_ble_eq_true rfl) dX3_end_2 ?_
  refine k_iload_n C dX3_end_5 1 rfl ?_
  refine k_iconst C 0 (by decide) dX3_end_6 ?_
  refine k_iconst C 4 (by decide) dX3_end_7 ?_
  refine k_callS_i C (mX3_isIn l D cI cJ p0 0 4) (va_cwS 3 C.2.2.2.2.1 (kGS q637 q638 q61 q639) rfl rfl rfl hdX3_isIn ⟨Nat.le_of_ble_eq_true rfl, Nat.le_of_ble_eq_true rfl⟩) [] [0, 1, 2, 3, 4, 5, 6] [0, 1, 2, 3, 4, 5, 6] [(b0, cM b1 b2 b3 b4 b5 b6 (0, X.2.2.2.2.2.2.2)), (b1, cA9 cI X.1), (b2, cA2 cI X.2.1), (b3, cA2 cI X.2.2.1), (b4, cA2 cI X.2.2.2.1), (b5, cA2 cI X.2.2.2.2.1), (b6, cA9 cI X.2.2.2.2.2.1)] ([(b0, cM b1 b2 b3 b4 b5 b6 (0, X.2.2.2.2.2.2.2)), (b1, cA9 cI X.1), (b2, cA2 cI X.2.1), (b3, cA2 cI X.2.2.1), (b4, cA2 cI X.2.2.2.1), (b5, cA2 cI X.2.2.2.2.1), (b6, cA9 cI X.2.2.2.2.2.1)]) rfl rfl rfl rfl (by decide) [] rfl rfl rfl rfl (Nat.le_of_ble_eq_true rfl) ⟨Nat.zero_le _, Nat.zero_le _⟩ rfl dX3_end_8 ?_
  generalize er1 : fX3_isIn p0 0 4 = r1
  refine k_if_eq C 22 (by decide) dX3_end_11 (fun _ => ?_) (fun h => absurd (by subst er1; exact hb0) h)
  refine k_aload_n C dX3_end_22 0 rfl ?_
  refine k_iconst C 1 (by decide) dX3_end_23 ?_
  refine k_callV_i C (mX3_no l D cI cJ b0 b1 b2 b3 b4 b5 b6 1 (X.1, X.2.1, X.2.2.1, X.2.2.2.1, X.2.2.2.2.1, X.2.2.2.2.2.1, 0, X.2.2.2.2.2.2.2)) (cwV 1 C.2.2.2.2.1 (kGV q640 q642 q33 q61 q643) rfl rfl rfl ⟨rfl, hdX3_no⟩ ⟨Nat.le_of_ble_eq_true rfl, Nat.le_of_ble_eq_true rfl⟩) [0, 1, 2, 3, 4, 5, 6] [] [0, 1, 2, 3, 4, 5, 6] [] (wM cI b0 b1 b2 b3 b4 b5 b6 (fX3_no 1 (X.1, X.2.1, X.2.2.1, X.2.2.2.1, X.2.2.2.2.1, X.2.2.2.2.2.1, 0, X.2.2.2.2.2.2.2)).2) rfl rfl rfl rfl (by decide) [b0, b1, b2, b3, b4, b5, b6] rfl rfl rfl rfl 0 3 rfl rfl rfl (Nat.le_of_ble_eq_true rfl) ⟨Nat.zero_le _, Nat.zero_le _⟩ rfl dX3_end_24 ?_
  generalize ez2 : fX3_no 1 (X.1, X.2.1, X.2.2.1, X.2.2.2.1, X.2.2.2.2.1, X.2.2.2.2.2.1, 0, X.2.2.2.2.2.2.2) = z2
  have hL : fX3_end_bad p0 X = (z2.1, z2.2) := by subst ez2; subst er1; exact rfl
  exact k_iret C rfl (by rw [hL]) (by rw [hL]) dX3_end_27
