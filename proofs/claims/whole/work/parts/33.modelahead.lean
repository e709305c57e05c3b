/-! the reference: looking ahead, digest -/
theorem hdX3_comes : yX3_comes.cls ≠ "java/lang/invoke/MethodHandle" ∧ yX3_comes.cls ≠ "java/lang/invoke/VarHandle" ∧ (parseMethodDescriptor yX3_comes.desc).map (fun d => d.parameters.length) = some 1 := by decide +kernel
noncomputable def fX3_comes (p0 : Int32) (X : Mo) : Int32 × Mo :=
  if X.2.2.2.2.2.2.2.2.1 = 0 then (if p0 = 0 then (if (fX3_winner (fX3_putToServe X)) = (-1) then (1, (fX3_putToServe X))
      else (0, (fX3_putToServe X)))
    else (0, (fX3_putToServe X)))
  else (if p0 ≤ 0 then (0, X)
    else (if (fX3_flyOn p0 X).1 = 0 then (if (fX3_flyOn p0 X).2.2.2.2.2.2.1.2.2.2.2.2.2.1 ≤ 0 then (0, (fX3_flyOn p0 X).2)
        else (1, (fX3_flyOn p0 X).2))
      else (0, (fX3_flyOn p0 X).2)))
set_option maxHeartbeats 4000000 in
set_option maxRecDepth 100000 in
theorem mX3_comes (l : Launch) (D : va_G) (cI cJ : ClassId) (b0 b1 b2 b3 b4 b5 b6 : Nat) (p0 : Int32) (X : Mo)  : kCi l D cI cJ yX3_comes (.code yX3_comes cX3_comes 2 (some .boolean)) { frames := 5, cells := 0, slots := 0, locals := 110 } [.ref b0, .int p0] (wM cI b0 b1 b2 b3 b4 b5 b6 X) (fX3_comes p0 X).1 (wM cI b0 b1 b2 b3 b4 b5 b6 (fX3_comes p0 X).2) := by
  refine fun sz => k_of (lv := [(0, .ref b0), (1, .int p0)]) (by decide) sz (by exact Nat.le_of_ble_eq_true rfl) rfl ?_
  intro p e s m args below meth c hsz C
  refine k_aload_n C dX3_comes_0 0 rfl ?_
  refine k_getX3 C 0 2 rfl (by decide) rfl q572 rfl dX3_comes_1 ?_
  refine k_if_ne C 29 (by decide) dX3_comes_4 (fun c1 => ?_) (fun c1 => ?_)
  ·
    refine k_iload_n C dX3_comes_29 1 rfl ?_
    refine k_if_le C 55 (by decide) dX3_comes_30 (fun c2 => ?_) (fun c2 => ?_)
    ·
      refine k_iconst C 0 (by decide) dX3_comes_55 ?_
      have hL : fX3_comes p0 X = (0, X) := by exact (if_neg c1).trans ((if_pos c2).trans rfl)
      exact k_zret C rfl rfl (by rw [hL]) (by rw [hL]) dX3_comes_56
    ·
      refine k_aload_n C dX3_comes_33 0 rfl ?_
      refine k_iload_n C dX3_comes_34 1 rfl ?_
      refine k_callV_i C (mX3_flyOn l D cI cJ b0 b1 b2 b3 b4 b5 b6 p0 X) (cwV 1 C.2.2.2.2.1 (kGV q668 q670 q38 q61 q671) rfl rfl rfl ⟨rfl, hdX3_flyOn⟩ ⟨Nat.le_of_ble_eq_true rfl, Nat.le_of_ble_eq_true rfl⟩) [0, 1, 2, 3, 4, 5, 6] [] [0, 1, 2, 3, 4, 5, 6] [] (wM cI b0 b1 b2 b3 b4 b5 b6 (fX3_flyOn p0 X).2) rfl rfl rfl rfl (by decide) [b0, b1, b2, b3, b4, b5, b6] rfl rfl rfl rfl 0 3 rfl rfl rfl (Nat.le_of_ble_eq_true rfl) ⟨Nat.zero_le _, Nat.zero_le _⟩ rfl dX3_comes_35 ?_
      generalize ez3 : fX3_flyOn p0 X = z3
      refine k_if_ne C 55 (by decide) dX3_comes_38 (fun c4 => ?_) (fun c4 => ?_)
      ·
        refine k_iconst C 0 (by decide) dX3_comes_55 ?_
        have hL : fX3_comes p0 X = (0, z3.2) := by subst ez3; exact (if_neg c1).trans ((if_neg c2).trans ((if_neg c4).trans rfl))
        exact k_zret C rfl rfl (by rw [hL]) (by rw [hL]) dX3_comes_56
      ·
        refine k_aload_n C dX3_comes_41 0 rfl ?_
        refine k_getX3 C 0 16 rfl (by decide) rfl q586 rfl dX3_comes_42 ?_
        refine k_bipush C 6 (by decide) dX3_comes_45 ?_
        refine k_iald C 6 rfl vi9_6 (ar9_l6 _) dX3_comes_47 ?_
        refine k_if_le C 55 (by decide) dX3_comes_48 (fun c5 => ?_) (fun c5 => ?_)
        ·
          refine k_iconst C 0 (by decide) dX3_comes_55 ?_
          have hL : fX3_comes p0 X = (0, z3.2) := by subst ez3; exact (if_neg c1).trans ((if_neg c2).trans ((if_pos c4).trans ((if_pos c5).trans rfl)))
          exact k_zret C rfl rfl (by rw [hL]) (by rw [hL]) dX3_comes_56
        ·
          refine k_iconst C 1 (by decide) dX3_comes_51 ?_
          refine k_goto C 56 (by decide) dX3_comes_52 ?_
          have hL : fX3_comes p0 X = (1, z3.2) := by subst ez3; exact (if_neg c1).trans ((if_neg c2).trans ((if_pos c4).trans ((if_neg c5).trans rfl)))
          exact k_zret C rfl rfl (by rw [hL]) (by rw [hL]) dX3_comes_56
  ·
    refine k_aload_n C dX3_comes_7 0 rfl ?_
    refine k_callV_v C (mX3_putToServe l D cI cJ b0 b1 b2 b3 b4 b5 b6 X) (cwV 0 C.2.2.2.2.1 (kGV q648 q650 q35 q61 q651) rfl rfl rfl ⟨rfl, hdX3_putToServe⟩ ⟨Nat.le_of_ble_eq_true rfl, Nat.le_of_ble_eq_true rfl⟩) [0, 1, 2, 3, 4, 5, 6] [] [0, 1, 2, 3, 4, 5, 6] [] (wM cI b0 b1 b2 b3 b4 b5 b6 (fX3_putToServe X)) rfl rfl rfl rfl (by decide) [b0, b1, b2, b3, b4, b5, b6] rfl rfl rfl rfl 0 3 rfl rfl rfl (Nat.le_of_ble_eq_true rfl) ⟨Nat.zero_le _, Nat.zero_le _⟩ rfl dX3_comes_8 ?_
    generalize ez6 : fX3_putToServe X = z6
    refine k_iload_n C dX3_comes_11 1 rfl ?_
    refine k_if_ne C 27 (by decide) dX3_comes_12 (fun c7 => ?_) (fun c7 => ?_)
    ·
      refine k_iconst C 0 (by decide) dX3_comes_27 ?_
      have hL : fX3_comes p0 X = (0, z6) := by subst ez6; exact (if_pos c1).trans ((if_neg c7).trans rfl)
      exact k_zret C rfl rfl (by rw [hL]) (by rw [hL]) dX3_comes_28
    ·
      refine k_aload_n C dX3_comes_15 0 rfl ?_
      refine k_callV_i C (mX3_winner l D cI cJ b0 b1 b2 b3 b4 b5 b6 z6) (cwV 0 C.2.2.2.2.1 (kGV q644 q646 q34 q61 q647) rfl rfl rfl ⟨rfl, hdX3_winner⟩ ⟨Nat.le_of_ble_eq_true rfl, Nat.le_of_ble_eq_true rfl⟩) [0, 1, 2, 3, 4, 5, 6] [] [0, 1, 2, 3, 4, 5, 6] [] ([(b0, cM b1 b2 b3 b4 b5 b6 z6.2.2.2.2.2.2), (b1, cA9 cI z6.1), (b2, cA2 cI z6.2.1), (b3, cA2 cI z6.2.2.1), (b4, cA2 cI z6.2.2.2.1), (b5, cA2 cI z6.2.2.2.2.1), (b6, cA9 cI z6.2.2.2.2.2.1)]) rfl rfl rfl rfl (by decide) [b0, b1, b2, b3, b4, b5, b6] rfl rfl rfl rfl 0 3 rfl rfl rfl (Nat.le_of_ble_eq_true rfl) ⟨Nat.zero_le _, Nat.zero_le _⟩ rfl dX3_comes_16 ?_
      generalize er8 : fX3_winner z6 = r8
      refine k_iconst C (-1) (by decide) dX3_comes_19 ?_
      refine k_icmp_ne C 27 (by decide) dX3_comes_20 (fun c9 => ?_) (fun c9 => ?_)
      ·
        refine k_iconst C 0 (by decide) dX3_comes_27 ?_
        have hL : fX3_comes p0 X = (0, z6) := by subst er8; subst ez6; exact (if_pos c1).trans ((if_pos c7).trans ((if_neg c9).trans rfl))
        exact k_zret C rfl rfl (by rw [hL]) (by rw [hL]) dX3_comes_28
      ·
        refine k_iconst C 1 (by decide) dX3_comes_23 ?_
        refine k_goto C 28 (by decide) dX3_comes_24 ?_
        have hL : fX3_comes p0 X = (1, z6) := by subst er8; subst ez6; exact (if_pos c1).trans ((if_pos c7).trans ((if_pos c9).trans rfl))
        exact k_zret C rfl rfl (by rw [hL]) (by rw [hL]) dX3_comes_28

theorem hdX3_endOf : yX3_endOf.cls ≠ "java/lang/invoke/MethodHandle" ∧ yX3_endOf.cls ≠ "java/lang/invoke/VarHandle" ∧ (parseMethodDescriptor yX3_endOf.desc).map (fun d => d.parameters.length) = some 4 := by decide +kernel
noncomputable def fX3_endOf (p0 : Int32) (p1 : Int32) (p2 : Int32) (p3 : Int32) (X : Mo) : Int32 × Mo :=
  if (fX3_comes p0 X).1 = 0 then ((-1), (fX3_comes p0 X).2)
  else ((fX3_finish ((fX3_hit p1 p2 p3 (fX3_comes p0 X).2).1, (fX3_hit p1 p2 p3 (fX3_comes p0 X).2).2.1, (fX3_hit p1 p2 p3 (fX3_comes p0 X).2).2.2.1, (fX3_hit p1 p2 p3 (fX3_comes p0 X).2).2.2.2.1, (fX3_hit p1 p2 p3 (fX3_comes p0 X).2).2.2.2.2.1, (fX3_hit p1 p2 p3 (fX3_comes p0 X).2).2.2.2.2.2.1, (fX3_hit p1 p2 p3 (fX3_comes p0 X).2).2.2.2.2.2.2.1, (fX3_hit p1 p2 p3 (fX3_comes p0 X).2).2.2.2.2.2.2.2.1, (fX3_hit p1 p2 p3 (fX3_comes p0 X).2).2.2.2.2.2.2.2.2.1, (fX3_hit p1 p2 p3 (fX3_comes p0 X).2).2.2.2.2.2.2.2.2.2.1, (fX3_hit p1 p2 p3 (fX3_comes p0 X).2).2.2.2.2.2.2.2.2.2.2.1, (fX3_hit p1 p2 p3 (fX3_comes p0 X).2).2.2.2.2.2.2.2.2.2.2.2.1, (fX3_hit p1 p2 p3 (fX3_comes p0 X).2).2.2.2.2.2.2.2.2.2.2.2.2.1, (fX3_hit p1 p2 p3 (fX3_comes p0 X).2).2.2.2.2.2.2.2.2.2.2.2.2.2.1, (fX3_hit p1 p2 p3 (fX3_comes p0 X).2).2.2.2.2.2.2.2.2.2.2.2.2.2.2.1, (fX3_hit p1 p2 p3 (fX3_comes p0 X).2).2.2.2.2.2.2.2.2.2.2.2.2.2.2.2.1, (fX3_hit p1 p2 p3 (fX3_comes p0 X).2).2.2.2.2.2.2.2.2.2.2.2.2.2.2.2.2.1, 0)).1, (fX3_finish ((fX3_hit p1 p2 p3 (fX3_comes p0 X).2).1, (fX3_hit p1 p2 p3 (fX3_comes p0 X).2).2.1, (fX3_hit p1 p2 p3 (fX3_comes p0 X).2).2.2.1, (fX3_hit p1 p2 p3 (fX3_comes p0 X).2).2.2.2.1, (fX3_hit p1 p2 p3 (fX3_comes p0 X).2).2.2.2.2.1, (fX3_hit p1 p2 p3 (fX3_comes p0 X).2).2.2.2.2.2.1, (fX3_hit p1 p2 p3 (fX3_comes p0 X).2).2.2.2.2.2.2.1, (fX3_hit p1 p2 p3 (fX3_comes p0 X).2).2.2.2.2.2.2.2.1, (fX3_hit p1 p2 p3 (fX3_comes p0 X).2).2.2.2.2.2.2.2.2.1, (fX3_hit p1 p2 p3 (fX3_comes p0 X).2).2.2.2.2.2.2.2.2.2.1, (fX3_hit p1 p2 p3 (fX3_comes p0 X).2).2.2.2.2.2.2.2.2.2.2.1, (fX3_hit p1 p2 p3 (fX3_comes p0 X).2).2.2.2.2.2.2.2.2.2.2.2.1, (fX3_hit p1 p2 p3 (fX3_comes p0 X).2).2.2.2.2.2.2.2.2.2.2.2.2.1, (fX3_hit p1 p2 p3 (fX3_comes p0 X).2).2.2.2.2.2.2.2.2.2.2.2.2.2.1, (fX3_hit p1 p2 p3 (fX3_comes p0 X).2).2.2.2.2.2.2.2.2.2.2.2.2.2.2.1, (fX3_hit p1 p2 p3 (fX3_comes p0 X).2).2.2.2.2.2.2.2.2.2.2.2.2.2.2.2.1, (fX3_hit p1 p2 p3 (fX3_comes p0 X).2).2.2.2.2.2.2.2.2.2.2.2.2.2.2.2.2.1, 0)).2)
def NX3_endOf (p0 : Int32) (p1 : Int32) (p2 : Int32) (p3 : Int32) (X : Mo) : Prop := ((¬ (fX3_comes p0 X).1 = 0) → (NX3_finish ((fX3_hit p1 p2 p3 (fX3_comes p0 X).2).1, (fX3_hit p1 p2 p3 (fX3_comes p0 X).2).2.1, (fX3_hit p1 p2 p3 (fX3_comes p0 X).2).2.2.1, (fX3_hit p1 p2 p3 (fX3_comes p0 X).2).2.2.2.1, (fX3_hit p1 p2 p3 (fX3_comes p0 X).2).2.2.2.2.1, (fX3_hit p1 p2 p3 (fX3_comes p0 X).2).2.2.2.2.2.1, (fX3_hit p1 p2 p3 (fX3_comes p0 X).2).2.2.2.2.2.2.1, (fX3_hit p1 p2 p3 (fX3_comes p0 X).2).2.2.2.2.2.2.2.1, (fX3_hit p1 p2 p3 (fX3_comes p0 X).2).2.2.2.2.2.2.2.2.1, (fX3_hit p1 p2 p3 (fX3_comes p0 X).2).2.2.2.2.2.2.2.2.2.1, (fX3_hit p1 p2 p3 (fX3_comes p0 X).2).2.2.2.2.2.2.2.2.2.2.1, (fX3_hit p1 p2 p3 (fX3_comes p0 X).2).2.2.2.2.2.2.2.2.2.2.2.1, (fX3_hit p1 p2 p3 (fX3_comes p0 X).2).2.2.2.2.2.2.2.2.2.2.2.2.1, (fX3_hit p1 p2 p3 (fX3_comes p0 X).2).2.2.2.2.2.2.2.2.2.2.2.2.2.1, (fX3_hit p1 p2 p3 (fX3_comes p0 X).2).2.2.2.2.2.2.2.2.2.2.2.2.2.2.1, (fX3_hit p1 p2 p3 (fX3_comes p0 X).2).2.2.2.2.2.2.2.2.2.2.2.2.2.2.2.1, (fX3_hit p1 p2 p3 (fX3_comes p0 X).2).2.2.2.2.2.2.2.2.2.2.2.2.2.2.2.2.1, 0)))
set_option maxHeartbeats 4000000 in
set_option maxRecDepth 100000 in
theorem mX3_endOf (l : Launch) (D : va_G) (cI cJ : ClassId) (b0 b1 b2 b3 b4 b5 b6 : Nat) (p0 : Int32) (p1 : Int32) (p2 : Int32) (p3 : Int32) (X : Mo) (hN : ((¬ (fX3_comes p0 X).1 = 0) → (NX3_finish ((fX3_hit p1 p2 p3 (fX3_comes p0 X).2).1, (fX3_hit p1 p2 p3 (fX3_comes p0 X).2).2.1, (fX3_hit p1 p2 p3 (fX3_comes p0 X).2).2.2.1, (fX3_hit p1 p2 p3 (fX3_comes p0 X).2).2.2.2.1, (fX3_hit p1 p2 p3 (fX3_comes p0 X).2).2.2.2.2.1, (fX3_hit p1 p2 p3 (fX3_comes p0 X).2).2.2.2.2.2.1, (fX3_hit p1 p2 p3 (fX3_comes p0 X).2).2.2.2.2.2.2.1, (fX3_hit p1 p2 p3 (fX3_comes p0 X).2).2.2.2.2.2.2.2.1, (fX3_hit p1 p2 p3 (fX3_comes p0 X).2).2.2.2.2.2.2.2.2.1, (fX3_hit p1 p2 p3 (fX3_comes p0 X).2).2.2.2.2.2.2.2.2.2.1, (fX3_hit p1 p2 p3 (fX3_comes p0 X).2).2.2.2.2.2.2.2.2.2.2.1, (fX3_hit p1 p2 p3 (fX3_comes p0 X).2).2.2.2.2.2.2.2.2.2.2.2.1, (fX3_hit p1 p2 p3 (fX3_comes p0 X).2).2.2.2.2.2.2.2.2.2.2.2.2.1, (fX3_hit p1 p2 p3 (fX3_comes p0 X).2).2.2.2.2.2.2.2.2.2.2.2.2.2.1, (fX3_hit p1 p2 p3 (fX3_comes p0 X).2).2.2.2.2.2.2.2.2.2.2.2.2.2.2.1, (fX3_hit p1 p2 p3 (fX3_comes p0 X).2).2.2.2.2.2.2.2.2.2.2.2.2.2.2.2.1, (fX3_hit p1 p2 p3 (fX3_comes p0 X).2).2.2.2.2.2.2.2.2.2.2.2.2.2.2.2.2.1, 0))))  : kCi l D cI cJ yX3_endOf (.code yX3_endOf cX3_endOf 5 (some .int)) { frames := 6, cells := 0, slots := 0, locals := 131 } [.ref b0, .int p0, .int p1, .int p2, .int p3] (wM cI b0 b1 b2 b3 b4 b5 b6 X) (fX3_endOf p0 p1 p2 p3 X).1 (wM cI b0 b1 b2 b3 b4 b5 b6 (fX3_endOf p0 p1 p2 p3 X).2) := by
  have hN0 := hN
  refine fun sz => k_of (lv := [(0, .ref b0), (1, .int p0), (2, .int p1), (3, .int p2), (4, .int p3)]) (by decide) sz (by exact Nat.le_of_ble_eq_true rfl) rfl ?_
  intro p e s m args below meth c hsz C
  refine k_aload_n C dX3_endOf_0 0 rfl ?_
  refine k_iload_n C dX3_endOf_1 1 rfl ?_
  refine k_callV_i C (mX3_comes l D cI cJ b0 b1 b2 b3 b4 b5 b6 p0 X) (cwV 1 C.2.2.2.2.1 (kGV q783 q785 q55 q61 q786) rfl rfl rfl ⟨rfl, hdX3_comes⟩ ⟨Nat.le_of_ble_eq_true rfl, Nat.le_of_ble_eq_true rfl⟩) [0, 1, 2, 3, 4, 5, 6] [] [0, 1, 2, 3, 4, 5, 6] [] (wM cI b0 b1 b2 b3 b4 b5 b6 (fX3_comes p0 X).2) rfl rfl rfl rfl (by decide) [b0, b1, b2, b3, b4, b5, b6] rfl rfl rfl rfl 0 3 rfl rfl rfl (Nat.le_of_ble_eq_true rfl) ⟨Nat.zero_le _, Nat.zero_le _⟩ rfl dX3_endOf_2 ?_
  generalize ez1 : fX3_comes p0 X = z1
  refine k_if_ne C 10 (by decide) dX3_endOf_5 (fun c2 => ?_) (fun c2 => ?_)
  ·
    refine k_aload_n C dX3_endOf_10 0 rfl ?_
    refine k_iload_n C dX3_endOf_11 2 rfl ?_
    refine k_iload_n C dX3_endOf_12 3 rfl ?_
    refine k_iload C dX3_endOf_13 4 rfl ?_
    refine k_callV_v C (mX3_hit l D cI cJ b0 b1 b2 b3 b4 b5 b6 p1 p2 p3 z1.2) (cwV 3 C.2.2.2.2.1 (kGV q652 q654 q36 q61 q655) rfl rfl rfl ⟨rfl, hdX3_hit⟩ ⟨Nat.le_of_ble_eq_true rfl, Nat.le_of_ble_eq_true rfl⟩) [0, 1, 2, 3, 4, 5, 6] [] [0, 1, 2, 3, 4, 5, 6] [] (wM cI b0 b1 b2 b3 b4 b5 b6 (fX3_hit p1 p2 p3 z1.2)) rfl rfl rfl rfl (by decide) [b0, b1, b2, b3, b4, b5, b6] rfl rfl rfl rfl 0 3 rfl rfl rfl (Nat.le_of_ble_eq_true rfl) ⟨Nat.zero_le _, Nat.zero_le _⟩ rfl dX3_endOf_15 ?_
    generalize ez3 : fX3_hit p1 p2 p3 z1.2 = z3
    refine k_aload_n C dX3_endOf_18 0 rfl ?_
    refine k_iconst C 0 (by decide) dX3_endOf_19 ?_
    refine k_putX3 C [(b0, cM b1 b2 b3 b4 b5 b6 (z3.2.2.2.2.2.2.1, z3.2.2.2.2.2.2.2.1, z3.2.2.2.2.2.2.2.2.1, z3.2.2.2.2.2.2.2.2.2.1, z3.2.2.2.2.2.2.2.2.2.2.1, z3.2.2.2.2.2.2.2.2.2.2.2.1, z3.2.2.2.2.2.2.2.2.2.2.2.2.1, z3.2.2.2.2.2.2.2.2.2.2.2.2.2.1, z3.2.2.2.2.2.2.2.2.2.2.2.2.2.2.1, z3.2.2.2.2.2.2.2.2.2.2.2.2.2.2.2.1, z3.2.2.2.2.2.2.2.2.2.2.2.2.2.2.2.2.1, 0)), (b1, cA9 cI z3.1), (b2, cA2 cI z3.2.1), (b3, cA2 cI z3.2.2.1), (b4, cA2 cI z3.2.2.2.1), (b5, cA2 cI z3.2.2.2.2.1), (b6, cA9 cI z3.2.2.2.2.2.1)] 0 17 rfl rfl (by decide) q587 rfl rfl fdI rfl rfl (Nat.le_of_ble_eq_true rfl) dX3_endOf_20 ?_
    refine k_aload_n C dX3_endOf_23 0 rfl ?_
    refine k_callV_i C (mX3_finish l D cI cJ b0 b1 b2 b3 b4 b5 b6 (z3.1, z3.2.1, z3.2.2.1, z3.2.2.2.1, z3.2.2.2.2.1, z3.2.2.2.2.2.1, z3.2.2.2.2.2.2.1, z3.2.2.2.2.2.2.2.1, z3.2.2.2.2.2.2.2.2.1, z3.2.2.2.2.2.2.2.2.2.1, z3.2.2.2.2.2.2.2.2.2.2.1, z3.2.2.2.2.2.2.2.2.2.2.2.1, z3.2.2.2.2.2.2.2.2.2.2.2.2.1, z3.2.2.2.2.2.2.2.2.2.2.2.2.2.1, z3.2.2.2.2.2.2.2.2.2.2.2.2.2.2.1, z3.2.2.2.2.2.2.2.2.2.2.2.2.2.2.2.1, z3.2.2.2.2.2.2.2.2.2.2.2.2.2.2.2.2.1, 0) (by subst ez3; subst ez1; exact hN0 c2)) (cwV 0 C.2.2.2.2.1 (kGV q719 q721 q48 q61 q722) rfl rfl rfl ⟨rfl, hdX3_finish⟩ ⟨Nat.le_of_ble_eq_true rfl, Nat.le_of_ble_eq_true rfl⟩) [0, 1, 2, 3, 4, 5, 6] [] [0, 1, 2, 3, 4, 5, 6] [] (wM cI b0 b1 b2 b3 b4 b5 b6 (fX3_finish (z3.1, z3.2.1, z3.2.2.1, z3.2.2.2.1, z3.2.2.2.2.1, z3.2.2.2.2.2.1, z3.2.2.2.2.2.2.1, z3.2.2.2.2.2.2.2.1, z3.2.2.2.2.2.2.2.2.1, z3.2.2.2.2.2.2.2.2.2.1, z3.2.2.2.2.2.2.2.2.2.2.1, z3.2.2.2.2.2.2.2.2.2.2.2.1, z3.2.2.2.2.2.2.2.2.2.2.2.2.1, z3.2.2.2.2.2.2.2.2.2.2.2.2.2.1, z3.2.2.2.2.2.2.2.2.2.2.2.2.2.2.1, z3.2.2.2.2.2.2.2.2.2.2.2.2.2.2.2.1, z3.2.2.2.2.2.2.2.2.2.2.2.2.2.2.2.2.1, 0)).2) rfl rfl rfl rfl (by decide) [b0, b1, b2, b3, b4, b5, b6] rfl rfl rfl rfl 0 3 rfl rfl rfl (Nat.le_of_ble_eq_true rfl) ⟨Nat.zero_le _, Nat.zero_le _⟩ rfl dX3_endOf_24 ?_
    generalize ez4 : fX3_finish (z3.1, z3.2.1, z3.2.2.1, z3.2.2.2.1, z3.2.2.2.2.1, z3.2.2.2.2.2.1, z3.2.2.2.2.2.2.1, z3.2.2.2.2.2.2.2.1, z3.2.2.2.2.2.2.2.2.1, z3.2.2.2.2.2.2.2.2.2.1, z3.2.2.2.2.2.2.2.2.2.2.1, z3.2.2.2.2.2.2.2.2.2.2.2.1, z3.2.2.2.2.2.2.2.2.2.2.2.2.1, z3.2.2.2.2.2.2.2.2.2.2.2.2.2.1, z3.2.2.2.2.2.2.2.2.2.2.2.2.2.2.1, z3.2.2.2.2.2.2.2.2.2.2.2.2.2.2.2.1, z3.2.2.2.2.2.2.2.2.2.2.2.2.2.2.2.2.1, 0) = z4
    have hL : fX3_endOf p0 p1 p2 p3 X = (z4.1, z4.2) := by subst ez4; subst ez3; subst ez1; exact (if_neg c2).trans rfl
    exact k_iret C rfl (by rw [hL]) (by rw [hL]) dX3_endOf_27
  ·
    refine k_iconst C (-1) (by decide) dX3_endOf_8 ?_
    have hL : fX3_endOf p0 p1 p2 p3 X = ((-1), z1.2) := by subst ez1; exact (if_pos c2).trans rfl
    exact k_iret C rfl (by rw [hL]) (by rw [hL]) dX3_endOf_9

theorem hdX3_would : yX3_would.cls ≠ "java/lang/invoke/MethodHandle" ∧ yX3_would.cls ≠ "java/lang/invoke/VarHandle" ∧ (parseMethodDescriptor yX3_would.desc).map (fun d => d.parameters.length) = some 4 := by decide +kernel
noncomputable def fX3_would (p0 : Int32) (p1 : Int32) (p2 : Int32) (p3 : Int32) (X : Mo) : Int32 × Mo :=
  if (fX3_isIn p0 0 60) = 0 then ((fX3_no 1 (X.1, X.2.1, X.2.2.1, X.2.2.2.1, X.2.2.2.2.1, X.2.2.2.2.2.1, 0, X.2.2.2.2.2.2.2)).1, (fX3_no 1 (X.1, X.2.1, X.2.2.1, X.2.2.2.1, X.2.2.2.2.1, X.2.2.2.2.2.1, 0, X.2.2.2.2.2.2.2)).2)
  else (if (fX3_isStroke p1 p2 p3) = 0 then ((fX3_no 1 (X.1, X.2.1, X.2.2.1, X.2.2.2.1, X.2.2.2.2.1, X.2.2.2.2.2.1, 0, X.2.2.2.2.2.2.2)).1, (fX3_no 1 (X.1, X.2.1, X.2.2.1, X.2.2.2.1, X.2.2.2.2.1, X.2.2.2.2.2.1, 0, X.2.2.2.2.2.2.2)).2)
    else ((fX3_endOf p0 p1 p2 p3 (X.1, X.2.1, X.2.2.1, X.2.2.2.1, X.2.2.2.2.1, X.2.2.2.2.2.1, 0, X.2.2.2.2.2.2.2)).1, (fX3_endOf p0 p1 p2 p3 (X.1, X.2.1, X.2.2.1, X.2.2.2.1, X.2.2.2.2.1, X.2.2.2.2.2.1, 0, X.2.2.2.2.2.2.2)).2))
def NX3_would (p0 : Int32) (p1 : Int32) (p2 : Int32) (p3 : Int32) (X : Mo) : Prop := ((¬ (fX3_isIn p0 0 60) = 0) → (¬ (fX3_isStroke p1 p2 p3) = 0) → (NX3_endOf p0 p1 p2 p3 (X.1, X.2.1, X.2.2.1, X.2.2.2.1, X.2.2.2.2.1, X.2.2.2.2.2.1, 0, X.2.2.2.2.2.2.2)))
set_option maxHeartbeats 4000000 in
set_option maxRecDepth 100000 in
theorem mX3_would (l : Launch) (D : va_G) (cI cJ : ClassId) (b0 b1 b2 b3 b4 b5 b6 : Nat) (p0 : Int32) (p1 : Int32) (p2 : Int32) (p3 : Int32) (X : Mo) (hN : ((¬ (fX3_isIn p0 0 60) = 0) → (¬ (fX3_isStroke p1 p2 p3) = 0) → (NX3_endOf p0 p1 p2 p3 (X.1, X.2.1, X.2.2.1, X.2.2.2.1, X.2.2.2.2.1, X.2.2.2.2.2.1, 0, X.2.2.2.2.2.2.2))))  : kCi l D cI cJ yX3_would (.code yX3_would cX3_would 5 (some .int)) { frames := 7, cells := 0, slots := 0, locals := 155 } [.ref b0, .int p0, .int p1, .int p2, .int p3] (wM cI b0 b1 b2 b3 b4 b5 b6 X) (fX3_would p0 p1 p2 p3 X).1 (wM cI b0 b1 b2 b3 b4 b5 b6 (fX3_would p0 p1 p2 p3 X).2) := by
  have hN0 := hN
  refine fun sz => k_of (lv := [(0, .ref b0), (1, .int p0), (2, .int p1), (3, .int p2), (4, .int p3)]) (by decide) sz (by exact Nat.le_of_ble_eq_true rfl) rfl ?_
  intro p e s m args below meth c hsz C
  refine k_aload_n C dX3_would_0 0 rfl ?_
  refine k_iconst C 0 (by decide) dX3_would_1 ?_
  refine k_putX3 C [(b0, cM b1 b2 b3 b4 b5 b6 (0, X.2.2.2.2.2.2.2)), (b1, cA9 cI X.1), (b2, cA2 cI X.2.1), (b3, cA2 cI X.2.2.1), (b4, cA2 cI X.2.2.2.1), (b5, cA2 cI X.2.2.2.2.1), (b6, cA9 cI X.2.2.2.2.2.1)] 0 0 rfl rfl (by decide) q570 rfl rfl fdI rfl rfl (Nat.le_of_ble_eq_true rfl) dX3_would_2 ?_
  refine k_iload_n C dX3_would_5 1 rfl ?_
  refine k_iconst C 0 (by decide) dX3_would_6 ?_
  refine k_bipush C 60 (by decide) dX3_would_7 ?_
  refine k_callS_i C (mX3_isIn l D cI cJ p0 0 60) (va_cwS 3 C.2.2.2.2.1 (kGS q637 q638 q61 q639) rfl rfl rfl hdX3_isIn ⟨Nat.le_of_ble_eq_true rfl, Nat.le_of_ble_eq_true rfl⟩) [] [0, 1, 2, 3, 4, 5, 6] [0, 1, 2, 3, 4, 5, 6] [(b0, cM b1 b2 b3 b4 b5 b6 (0, X.2.2.2.2.2.2.2)), (b1, cA9 cI X.1), (b2, cA2 cI X.2.1), (b3, cA2 cI X.2.2.1), (b4, cA2 cI X.2.2.2.1), (b5, cA2 cI X.2.2.2.2.1), (b6, cA9 cI X.2.2.2.2.2.1)] ([(b0, cM b1 b2 b3 b4 b5 b6 (0, X.2.2.2.2.2.2.2)), (b1, cA9 cI X.1), (b2, cA2 cI X.2.1), (b3, cA2 cI X.2.2.1), (b4, cA2 cI X.2.2.2.1), (b5, cA2 cI X.2.2.2.2.1), (b6, cA9 cI X.2.2.2.2.2.1)]) rfl rfl rfl rfl (by decide) [] rfl rfl rfl rfl (Nat.le_of_ble_eq_true rfl) ⟨Nat.zero_le _, Nat.zero_le _⟩ rfl dX3_would_9 ?_
  generalize er1 : fX3_isIn p0 0 60 = r1
  refine k_if_eq C 37 (by decide) dX3_would_12 (fun c2 => ?_) (fun c2 => ?_)
  ·
    refine k_aload_n C dX3_would_37 0 rfl ?_
    refine k_iconst C 1 (by decide) dX3_would_38 ?_
    refine k_callV_i C (mX3_no l D cI cJ b0 b1 b2 b3 b4 b5 b6 1 (X.1, X.2.1, X.2.2.1, X.2.2.2.1, X.2.2.2.2.1, X.2.2.2.2.2.1, 0, X.2.2.2.2.2.2.2)) (cwV 1 C.2.2.2.2.1 (kGV q640 q642 q33 q61 q643) rfl rfl rfl ⟨rfl, hdX3_no⟩ ⟨Nat.le_of_ble_eq_true rfl, Nat.le_of_ble_eq_true rfl⟩) [0, 1, 2, 3, 4, 5, 6] [] [0, 1, 2, 3, 4, 5, 6] [] (wM cI b0 b1 b2 b3 b4 b5 b6 (fX3_no 1 (X.1, X.2.1, X.2.2.1, X.2.2.2.1, X.2.2.2.2.1, X.2.2.2.2.2.1, 0, X.2.2.2.2.2.2.2)).2) rfl rfl rfl rfl (by decide) [b0, b1, b2, b3, b4, b5, b6] rfl rfl rfl rfl 0 3 rfl rfl rfl (Nat.le_of_ble_eq_true rfl) ⟨Nat.zero_le _, Nat.zero_le _⟩ rfl dX3_would_39 ?_
    generalize ez3 : fX3_no 1 (X.1, X.2.1, X.2.2.1, X.2.2.2.1, X.2.2.2.2.1, X.2.2.2.2.2.1, 0, X.2.2.2.2.2.2.2) = z3
    have hL : fX3_would p0 p1 p2 p3 X = (z3.1, z3.2) := by subst ez3; subst er1; exact (if_pos c2).trans rfl
    exact k_iret C rfl (by rw [hL]) (by rw [hL]) dX3_would_42
  ·
    refine k_iload_n C dX3_would_15 2 rfl ?_
    refine k_iload_n C dX3_would_16 3 rfl ?_
    refine k_iload C dX3_would_17 4 rfl ?_
    refine k_callS_i C (mX3_isStroke l D cI cJ p1 p2 p3) (va_cwS 3 C.2.2.2.2.1 (kGS q634 q635 q61 q636) rfl rfl rfl hdX3_isStroke ⟨Nat.le_of_ble_eq_true rfl, Nat.le_of_ble_eq_true rfl⟩) [] [0, 1, 2, 3, 4, 5, 6] [0, 1, 2, 3, 4, 5, 6] [(b0, cM b1 b2 b3 b4 b5 b6 (0, X.2.2.2.2.2.2.2)), (b1, cA9 cI X.1), (b2, cA2 cI X.2.1), (b3, cA2 cI X.2.2.1), (b4, cA2 cI X.2.2.2.1), (b5, cA2 cI X.2.2.2.2.1), (b6, cA9 cI X.2.2.2.2.2.1)] ([(b0, cM b1 b2 b3 b4 b5 b6 (0, X.2.2.2.2.2.2.2)), (b1, cA9 cI X.1), (b2, cA2 cI X.2.1), (b3, cA2 cI X.2.2.1), (b4, cA2 cI X.2.2.2.1), (b5, cA2 cI X.2.2.2.2.1), (b6, cA9 cI X.2.2.2.2.2.1)]) rfl rfl rfl rfl (by decide) [] rfl rfl rfl rfl (Nat.le_of_ble_eq_true rfl) ⟨Nat.zero_le _, Nat.zero_le _⟩ rfl dX3_would_19 ?_
    generalize er4 : fX3_isStroke p1 p2 p3 = r4
    refine k_if_eq C 37 (by decide) dX3_would_22 (fun c5 => ?_) (fun c5 => ?_)
    ·
      refine k_aload_n C dX3_would_37 0 rfl ?_
      refine k_iconst C 1 (by decide) dX3_would_38 ?_
      refine k_callV_i C (mX3_no l D cI cJ b0 b1 b2 b3 b4 b5 b6 1 (X.1, X.2.1, X.2.2.1, X.2.2.2.1, X.2.2.2.2.1, X.2.2.2.2.2.1, 0, X.2.2.2.2.2.2.2)) (cwV 1 C.2.2.2.2.1 (kGV q640 q642 q33 q61 q643) rfl rfl rfl ⟨rfl, hdX3_no⟩ ⟨Nat.le_of_ble_eq_true rfl, Nat.le_of_ble_eq_true rfl⟩) [0, 1, 2, 3, 4, 5, 6] [] [0, 1, 2, 3, 4, 5, 6] [] (wM cI b0 b1 b2 b3 b4 b5 b6 (fX3_no 1 (X.1, X.2.1, X.2.2.1, X.2.2.2.1, X.2.2.2.2.1, X.2.2.2.2.2.1, 0, X.2.2.2.2.2.2.2)).2) rfl rfl rfl rfl (by decide) [b0, b1, b2, b3, b4, b5, b6] rfl rfl rfl rfl 0 3 rfl rfl rfl (Nat.le_of_ble_eq_true rfl) ⟨Nat.zero_le _, Nat.zero_le _⟩ rfl dX3_would_39 ?_
      generalize ez6 : fX3_no 1 (X.1, X.2.1, X.2.2.1, X.2.2.2.1, X.2.2.2.2.1, X.2.2.2.2.2.1, 0, X.2.2.2.2.2.2.2) = z6
      have hL : fX3_would p0 p1 p2 p3 X = (z6.1, z6.2) := by subst ez6; subst er4; subst er1; exact (if_neg c2).trans ((if_pos c5).trans rfl)
      exact k_iret C rfl (by rw [hL]) (by rw [hL]) dX3_would_42
    ·
      refine k_aload_n C dX3_would_25 0 rfl ?_
      refine k_iload_n C dX3_would_26 1 rfl ?_
      refine k_iload_n C dX3_would_27 2 rfl ?_
      refine k_iload_n C dX3_would_28 3 rfl ?_
      refine k_iload C dX3_would_29 4 rfl ?_
      refine k_callV_i C (mX3_endOf l D cI cJ b0 b1 b2 b3 b4 b5 b6 p0 p1 p2 p3 (X.1, X.2.1, X.2.2.1, X.2.2.2.1, X.2.2.2.2.1, X.2.2.2.2.2.1, 0, X.2.2.2.2.2.2.2) (by subst er4; subst er1; exact hN0 c2 c5)) (cwV 4 C.2.2.2.2.1 (kGV q779 q781 q54 q61 q782) rfl rfl rfl ⟨rfl, hdX3_endOf⟩ ⟨Nat.le_of_ble_eq_true rfl, Nat.le_of_ble_eq_true rfl⟩) [0, 1, 2, 3, 4, 5, 6] [] [0, 1, 2, 3, 4, 5, 6] [] (wM cI b0 b1 b2 b3 b4 b5 b6 (fX3_endOf p0 p1 p2 p3 (X.1, X.2.1, X.2.2.1, X.2.2.2.1, X.2.2.2.2.1, X.2.2.2.2.2.1, 0, X.2.2.2.2.2.2.2)).2) rfl rfl rfl rfl (by decide) [b0, b1, b2, b3, b4, b5, b6] rfl rfl rfl rfl 0 3 rfl rfl rfl (Nat.le_of_ble_eq_true rfl) ⟨Nat.zero_le _, Nat.zero_le _⟩ rfl dX3_would_31 ?_
      generalize ez7 : fX3_endOf p0 p1 p2 p3 (X.1, X.2.1, X.2.2.1, X.2.2.2.1, X.2.2.2.2.1, X.2.2.2.2.2.1, 0, X.2.2.2.2.2.2.2) = z7
      refine k_goto C 42 (by decide) dX3_would_34 ?_
      have hL : fX3_would p0 p1 p2 p3 X = (z7.1, z7.2) := by subst ez7; subst er4; subst er1; exact (if_neg c2).trans ((if_neg c5).trans rfl)
      exact k_iret C rfl (by rw [hL]) (by rw [hL]) dX3_would_42

theorem hdX3_bestAt : yX3_bestAt.cls ≠ "java/lang/invoke/MethodHandle" ∧ yX3_bestAt.cls ≠ "java/lang/invoke/VarHandle" ∧ (parseMethodDescriptor yX3_bestAt.desc).map (fun d => d.parameters.length) = some 1 := by decide +kernel
noncomputable def LX3_bestAt (n : Nat) (p0 : Int32) (v2 : Int32) (v3 : Int32) (i0 : Int32) (X : Mo) : Option (Int32 × Mo) := match n with
  | 0 => none
  | n + 1 =>
    if 250 ≤ i0 then some (v2, X)
    else @ite (Option (Int32 × Mo)) (NX3_endOf p0 ((i0 / 50) - 2) (((i0 / 10) - (i0 / 10) / 5 * 5) - 2) (i0 - i0 / 10 * 10) X) (Classical.propDecidable _) (if (fX3_endOf p0 ((i0 / 50) - 2) (((i0 / 10) - (i0 / 10) / 5 * 5) - 2) (i0 - i0 / 10 * 10) X).1 = 3 then (if v2 = (-1) then LX3_bestAt n p0 i0 ((fX3_endOf p0 ((i0 / 50) - 2) (((i0 / 10) - (i0 / 10) / 5 * 5) - 2) (i0 - i0 / 10 * 10) X).2.2.2.2.2.2.2.2.2.2.2.2.2.2.2.2.2.2) (i0 + 1) (fX3_endOf p0 ((i0 / 50) - 2) (((i0 / 10) - (i0 / 10) / 5 * 5) - 2) (i0 - i0 / 10 * 10) X).2
          else (if (fX3_endOf p0 ((i0 / 50) - 2) (((i0 / 10) - (i0 / 10) / 5 * 5) - 2) (i0 - i0 / 10 * 10) X).2.2.2.2.2.2.2.2.2.2.2.2.2.2.2.2.2.2 < v3 then LX3_bestAt n p0 i0 ((fX3_endOf p0 ((i0 / 50) - 2) (((i0 / 10) - (i0 / 10) / 5 * 5) - 2) (i0 - i0 / 10 * 10) X).2.2.2.2.2.2.2.2.2.2.2.2.2.2.2.2.2.2) (i0 + 1) (fX3_endOf p0 ((i0 / 50) - 2) (((i0 / 10) - (i0 / 10) / 5 * 5) - 2) (i0 - i0 / 10 * 10) X).2
            else LX3_bestAt n p0 v2 v3 (i0 + 1) (fX3_endOf p0 ((i0 / 50) - 2) (((i0 / 10) - (i0 / 10) / 5 * 5) - 2) (i0 - i0 / 10 * 10) X).2))
        else LX3_bestAt n p0 v2 v3 (i0 + 1) (fX3_endOf p0 ((i0 / 50) - 2) (((i0 / 10) - (i0 / 10) / 5 * 5) - 2) (i0 - i0 / 10 * 10) X).2) none
set_option maxHeartbeats 4000000 in
set_option maxRecDepth 100000 in
theorem lX3_bestAt {p : Program} {e : Env} {s : State} {m : MethodId} {args : Array Value} {below : List Frame} {meth : Method} {c : Code} {A : Nat → Prop} (l : Launch) {D : va_G} {cI cJ : ClassId} (b0 b1 b2 b3 b4 b5 b6 : Nat) (p0 : Int32) (C : kCx p s m args meth c RX3 cX3_bestAt 5 (some .int) D cI cJ A) : ∀ (n : Nat), ∀ (v2 : Int32) (v3 : Int32) (i0 : Int32) (X : Mo) (res : Int32 × Mo), LX3_bestAt n p0 v2 v3 i0 X = some res → kW p l e { frames := 7, cells := 0, slots := 0, locals := 155 } s m args below meth c D A 5 0 0 (MQ below (va_Qi (fun (r : Int32) (_ : Unit) => r = res.1) (fun _ t => va_P D kCl (wM cI b0 b1 b2 b3 b4 b5 b6 res.2) t.heap) A) args s 0 0 A) (wM cI b0 b1 b2 b3 b4 b5 b6 X) 7 [(0, .ref b0), (1, .int p0), (2, .int v2), (3, .int v3), (4, .int i0)] [] := by
  intro n
  induction n with
  | zero => intro v2 v3 i0 X res hr; exact absurd hr (fun h => nomatch h)
  | succ n ih =>
    intro v2 v3 i0 X res hr
    refine k_iload C dX3_bestAt_7 4 rfl ?_
    refine k_sipush C 250 (by decide) dX3_bestAt_9 ?_
    refine k_icmp_ge C 75 (by decide) dX3_bestAt_12 (fun c1 => ?_) (fun c1 => ?_)
    ·
      refine k_iload_n C dX3_bestAt_75 2 rfl ?_
      have hL : LX3_bestAt (n + 1) p0 v2 v3 i0 X = some (v2, X) := by exact (if_pos c1).trans rfl
      obtain rfl := Option.some.inj (hL.symm.trans hr)
      exact k_iret C rfl rfl rfl dX3_bestAt_76
    ·
      refine k_aload_n C dX3_bestAt_15 0 rfl ?_
      refine k_iload_n C dX3_bestAt_16 1 rfl ?_
      refine k_iload C dX3_bestAt_17 4 rfl ?_
      refine k_bipush C 50 (by decide) dX3_bestAt_19 ?_
      refine k_idiv C (by decide) dX3_bestAt_21 ?_
      refine k_iconst C 2 (by decide) dX3_bestAt_22 ?_
      refine k_isub C dX3_bestAt_23 ?_
      refine k_iload C dX3_bestAt_24 4 rfl ?_
      refine k_bipush C 10 (by decide) dX3_bestAt_26 ?_
      refine k_idiv C (by decide) dX3_bestAt_28 ?_
      refine k_iconst C 5 (by decide) dX3_bestAt_29 ?_
      refine k_irem C (by decide) dX3_bestAt_30 ?_
      refine k_iconst C 2 (by decide) dX3_bestAt_31 ?_
      refine k_isub C dX3_bestAt_32 ?_
      refine k_iload C dX3_bestAt_33 4 rfl ?_
      refine k_bipush C 10 (by decide) dX3_bestAt_35 ?_
      refine k_irem C (by decide) dX3_bestAt_37 ?_
      by_cases c2 : NX3_endOf p0 ((i0 / 50) - 2) (((i0 / 10) - (i0 / 10) / 5 * 5) - 2) (i0 - i0 / 10 * 10) X
      ·
        refine k_callV_i C (mX3_endOf l D cI cJ b0 b1 b2 b3 b4 b5 b6 p0 ((i0 / 50) - 2) (((i0 / 10) - (i0 / 10) / 5 * 5) - 2) (i0 - i0 / 10 * 10) X c2) (cwV 4 C.2.2.2.2.1 (kGV q779 q781 q54 q61 q782) rfl rfl rfl ⟨rfl, hdX3_endOf⟩ ⟨Nat.le_of_ble_eq_true rfl, Nat.le_of_ble_eq_true rfl⟩) [0, 1, 2, 3, 4, 5, 6] [] [0, 1, 2, 3, 4, 5, 6] [] (wM cI b0 b1 b2 b3 b4 b5 b6 (fX3_endOf p0 ((i0 / 50) - 2) (((i0 / 10) - (i0 / 10) / 5 * 5) - 2) (i0 - i0 / 10 * 10) X).2) rfl rfl rfl rfl (by decide) [b0, b1, b2, b3, b4, b5, b6] rfl rfl rfl rfl 0 3 rfl rfl rfl (Nat.le_of_ble_eq_true rfl) ⟨Nat.zero_le _, Nat.zero_le _⟩ rfl dX3_bestAt_38 ?_
        generalize ez3 : fX3_endOf p0 ((i0 / 50) - 2) (((i0 / 10) - (i0 / 10) / 5 * 5) - 2) (i0 - i0 / 10 * 10) X = z3
        refine k_iconst C 3 (by decide) dX3_bestAt_41 ?_
        refine k_icmp_ne C 69 (by decide) dX3_bestAt_42 (fun c4 => ?_) (fun c4 => ?_)
        ·
          refine k_iinc C (i0 + 1) [(4, .int (i0 + 1)), (0, .ref b0), (1, .int p0), (2, .int v2), (3, .int v3)] 4 rfl rfl (by decide) rfl dX3_bestAt_69 ?_
          refine k_goto C 7 (by decide) dX3_bestAt_72 ?_
          have hL : LX3_bestAt (n + 1) p0 v2 v3 i0 X = LX3_bestAt n p0 v2 v3 (i0 + 1) z3.2 := by subst ez3; exact (if_neg c1).trans ((if_pos c2).trans ((if_neg c4).trans rfl))
          refine k_sub [1, 2, 3, 4, 0] rfl ?_
          exact ih v2 v3 (i0 + 1) z3.2 res (hL.symm.trans hr)
        ·
          refine k_iload_n C dX3_bestAt_45 2 rfl ?_
          refine k_iconst C (-1) (by decide) dX3_bestAt_46 ?_
          refine k_icmp_eq C 61 (by decide) dX3_bestAt_47 (fun c5 => ?_) (fun c5 => ?_)
          ·
            refine k_iload C dX3_bestAt_61 4 rfl ?_
            refine k_istore_n C [(2, .int i0), (0, .ref b0), (1, .int p0), (3, .int v3), (4, .int i0)] (by decide) rfl dX3_bestAt_63 ?_
            refine k_aload_n C dX3_bestAt_64 1 rfl ?_
            refine k_getX3 C 0 17 rfl (by decide) rfl q587 rfl dX3_bestAt_65 ?_
            refine k_istore_n C [(3, .int z3.2.2.2.2.2.2.2.2.2.2.2.2.2.2.2.2.2.2), (2, .int i0), (0, .ref b0), (1, .int p0), (4, .int i0)] (by decide) rfl dX3_bestAt_68 ?_
            refine k_iinc C (i0 + 1) [(4, .int (i0 + 1)), (3, .int z3.2.2.2.2.2.2.2.2.2.2.2.2.2.2.2.2.2.2), (2, .int i0), (0, .ref b0), (1, .int p0)] 4 rfl rfl (by decide) rfl dX3_bestAt_69 ?_
            refine k_goto C 7 (by decide) dX3_bestAt_72 ?_
            have hL : LX3_bestAt (n + 1) p0 v2 v3 i0 X = LX3_bestAt n p0 i0 z3.2.2.2.2.2.2.2.2.2.2.2.2.2.2.2.2.2.2 (i0 + 1) z3.2 := by subst ez3; exact (if_neg c1).trans ((if_pos c2).trans ((if_pos c4).trans ((if_pos c5).trans rfl)))
            refine k_sub [3, 4, 2, 1, 0] rfl ?_
            exact ih i0 z3.2.2.2.2.2.2.2.2.2.2.2.2.2.2.2.2.2.2 (i0 + 1) z3.2 res (hL.symm.trans hr)
          ·
            refine k_aload_n C dX3_bestAt_50 0 rfl ?_
            refine k_getX3 C 0 17 rfl (by decide) rfl q587 rfl dX3_bestAt_51 ?_
            refine k_iload_n C dX3_bestAt_54 3 rfl ?_
            refine k_icmp_lt C 61 (by decide) dX3_bestAt_55 (fun c6 => ?_) (fun c6 => ?_)
            ·
              refine k_iload C dX3_bestAt_61 4 rfl ?_
              refine k_istore_n C [(2, .int i0), (0, .ref b0), (1, .int p0), (3, .int v3), (4, .int i0)] (by decide) rfl dX3_bestAt_63 ?_
              refine k_aload_n C dX3_bestAt_64 1 rfl ?_
              refine k_getX3 C 0 17 rfl (by decide) rfl q587 rfl dX3_bestAt_65 ?_
              refine k_istore_n C [(3, .int z3.2.2.2.2.2.2.2.2.2.2.2.2.2.2.2.2.2.2), (2, .int i0), (0, .ref b0), (1, .int p0), (4, .int i0)] (by decide) rfl dX3_bestAt_68 ?_
              refine k_iinc C (i0 + 1) [(4, .int (i0 + 1)), (3, .int z3.2.2.2.2.2.2.2.2.2.2.2.2.2.2.2.2.2.2), (2, .int i0), (0, .ref b0), (1, .int p0)] 4 rfl rfl (by decide) rfl dX3_bestAt_69 ?_
              refine k_goto C 7 (by decide) dX3_bestAt_72 ?_
              have hL : LX3_bestAt (n + 1) p0 v2 v3 i0 X = LX3_bestAt n p0 i0 z3.2.2.2.2.2.2.2.2.2.2.2.2.2.2.2.2.2.2 (i0 + 1) z3.2 := by subst ez3; exact (if_neg c1).trans ((if_pos c2).trans ((if_pos c4).trans ((if_neg c5).trans ((if_pos c6).trans rfl))))
              refine k_sub [3, 4, 2, 1, 0] rfl ?_
              exact ih i0 z3.2.2.2.2.2.2.2.2.2.2.2.2.2.2.2.2.2.2 (i0 + 1) z3.2 res (hL.symm.trans hr)
            ·
              refine k_goto C 69 (by decide) dX3_bestAt_58 ?_
              refine k_iinc C (i0 + 1) [(4, .int (i0 + 1)), (0, .ref b0), (1, .int p0), (2, .int v2), (3, .int v3)] 4 rfl rfl (by decide) rfl dX3_bestAt_69 ?_
              refine k_goto C 7 (by decide) dX3_bestAt_72 ?_
              have hL : LX3_bestAt (n + 1) p0 v2 v3 i0 X = LX3_bestAt n p0 v2 v3 (i0 + 1) z3.2 := by subst ez3; exact (if_neg c1).trans ((if_pos c2).trans ((if_pos c4).trans ((if_neg c5).trans ((if_neg c6).trans rfl))))
              refine k_sub [1, 2, 3, 4, 0] rfl ?_
              exact ih v2 v3 (i0 + 1) z3.2 res (hL.symm.trans hr)
      ·
        have hL : LX3_bestAt (n + 1) p0 v2 v3 i0 X = none := by exact (if_neg c1).trans ((if_neg c2).trans rfl)
        exact absurd (hL.symm.trans hr) (fun h => nomatch h)
noncomputable def FX3_bestAt (p0 : Int32) (X : Mo) : Option (Int32 × Mo) :=
  LX3_bestAt 300 p0 (-1) 0 0 X
set_option maxHeartbeats 4000000 in
set_option maxRecDepth 100000 in
theorem moX3_bestAt (l : Launch) (D : va_G) (cI cJ : ClassId) (b0 b1 b2 b3 b4 b5 b6 : Nat) (p0 : Int32) (X : Mo) (res : Int32 × Mo) (hr : FX3_bestAt p0 X = some res) : kCi l D cI cJ yX3_bestAt (.code yX3_bestAt cX3_bestAt 5 (some .int)) { frames := 7, cells := 0, slots := 0, locals := 155 } [.ref b0, .int p0] (wM cI b0 b1 b2 b3 b4 b5 b6 X) res.1 (wM cI b0 b1 b2 b3 b4 b5 b6 res.2) := by
  refine fun sz => k_of (lv := [(0, .ref b0), (1, .int p0)]) (by decide) sz (Nat.le_of_ble_eq_true rfl) rfl ?_
  intro p e s m args below meth c hsz C
  refine k_iconst C (-1) (by decide) dX3_bestAt_0 ?_
  refine k_istore_n C [(2, .int (-1)), (0, .ref b0), (1, .int p0)] (by decide) rfl dX3_bestAt_1 ?_
  refine k_iconst C 0 (by decide) dX3_bestAt_2 ?_
  refine k_istore_n C [(3, .int 0), (2, .int (-1)), (0, .ref b0), (1, .int p0)] (by decide) rfl dX3_bestAt_3 ?_
  refine k_iconst C 0 (by decide) dX3_bestAt_4 ?_
  refine k_istore C [(4, .int 0), (3, .int 0), (2, .int (-1)), (0, .ref b0), (1, .int p0)] (by decide) rfl dX3_bestAt_5 ?_
  have hL : FX3_bestAt p0 X = LX3_bestAt 300 p0 (-1) 0 0 X := by exact rfl
  refine k_sub [3, 4, 2, 1, 0] rfl ?_
  exact (lX3_bestAt l b0 b1 b2 b3 b4 b5 b6 p0 C 300) (-1) 0 0 X res (hL.symm.trans hr)

def NX3_bestAt (p0 : Int32) (X : Mo) : Prop := (FX3_bestAt p0 X).isSome = true
noncomputable def fX3_bestAt (p0 : Int32) (X : Mo) : Int32 × Mo := @Classical.epsilon (Int32 × Mo) ⟨(0, X)⟩ (fun r => FX3_bestAt p0 X = some r)
theorem mX3_bestAt (l : Launch) (D : va_G) (cI cJ : ClassId) (b0 b1 b2 b3 b4 b5 b6 : Nat) (p0 : Int32) (X : Mo) (hN : (FX3_bestAt p0 X).isSome = true) : kCi l D cI cJ yX3_bestAt (.code yX3_bestAt cX3_bestAt 5 (some .int)) { frames := 7, cells := 0, slots := 0, locals := 155 } [.ref b0, .int p0] (wM cI b0 b1 b2 b3 b4 b5 b6 X) (fX3_bestAt p0 X).1 (wM cI b0 b1 b2 b3 b4 b5 b6 (fX3_bestAt p0 X).2) :=
  moX3_bestAt l D cI cJ b0 b1 b2 b3 b4 b5 b6 p0 X _ (kSome ((0, X)) hN)

theorem hdX3_advise : yX3_advise.cls ≠ "java/lang/invoke/MethodHandle" ∧ yX3_advise.cls ≠ "java/lang/invoke/VarHandle" ∧ (parseMethodDescriptor yX3_advise.desc).map (fun d => d.parameters.length) = some 1 := by decide +kernel
noncomputable def fX3_advise (p0 : Int32) (X : Mo) : Int32 × Mo :=
  if (fX3_isIn p0 0 60) = 0 then ((fX3_no 1 (X.1, X.2.1, X.2.2.1, X.2.2.2.1, X.2.2.2.2.1, X.2.2.2.2.2.1, 0, X.2.2.2.2.2.2.2)).1, (fX3_no 1 (X.1, X.2.1, X.2.2.1, X.2.2.2.1, X.2.2.2.2.1, X.2.2.2.2.2.1, 0, X.2.2.2.2.2.2.2)).2)
  else ((fX3_bestAt p0 (X.1, X.2.1, X.2.2.1, X.2.2.2.1, X.2.2.2.2.1, X.2.2.2.2.2.1, 0, X.2.2.2.2.2.2.2)).1, (fX3_bestAt p0 (X.1, X.2.1, X.2.2.1, X.2.2.2.1, X.2.2.2.2.1, X.2.2.2.2.2.1, 0, X.2.2.2.2.2.2.2)).2)
def NX3_advise (p0 : Int32) (X : Mo) : Prop := ((¬ (fX3_isIn p0 0 60) = 0) → (NX3_bestAt p0 (X.1, X.2.1, X.2.2.1, X.2.2.2.1, X.2.2.2.2.1, X.2.2.2.2.2.1, 0, X.2.2.2.2.2.2.2)))
set_option maxHeartbeats 4000000 in
set_option maxRecDepth 100000 in
theorem mX3_advise (l : Launch) (D : va_G) (cI cJ : ClassId) (b0 b1 b2 b3 b4 b5 b6 : Nat) (p0 : Int32) (X : Mo) (hN : ((¬ (fX3_isIn p0 0 60) = 0) → (NX3_bestAt p0 (X.1, X.2.1, X.2.2.1, X.2.2.2.1, X.2.2.2.2.1, X.2.2.2.2.2.1, 0, X.2.2.2.2.2.2.2))))  : kCi l D cI cJ yX3_advise (.code yX3_advise cX3_advise 2 (some .int)) { frames := 8, cells := 0, slots := 0, locals := 179 } [.ref b0, .int p0] (wM cI b0 b1 b2 b3 b4 b5 b6 X) (fX3_advise p0 X).1 (wM cI b0 b1 b2 b3 b4 b5 b6 (fX3_advise p0 X).2) := by
  have hN0 := hN
  refine fun sz => k_of (lv := [(0, .ref b0), (1, .int p0)]) (by decide) sz (by exact Nat.le_of_ble_eq_true rfl) rfl ?_
  intro p e s m args below meth c hsz C
  refine k_aload_n C dX3_advise_0 0 rfl ?_
  refine k_iconst C 0 (by decide) dX3_advise_1 ?_
  refine k_putX3 C [(b0, cM b1 b2 b3 b4 b5 b6 (0, X.2.2.2.2.2.2.2)), (b1, cA9 cI X.1), (b2, cA2 cI X.2.1), (b3, cA2 cI X.2.2.1), (b4, cA2 cI X.2.2.2.1), (b5, cA2 cI X.2.2.2.2.1), (b6, cA9 cI X.2.2.2.2.2.1)] 0 0 rfl rfl (by decide) q570 rfl rfl fdI rfl rfl (Nat.le_of_ble_eq_true rfl) dX3_advise_2 ?_
  refine k_iload_n C dX3_advise_5 1 rfl ?_
  refine k_iconst C 0 (by decide) dX3_advise_6 ?_
  refine k_bipush C 60 (by decide) dX3_advise_7 ?_
  refine k_callS_i C (mX3_isIn l D cI cJ p0 0 60) (va_cwS 3 C.2.2.2.2.1 (kGS q637 q638 q61 q639) rfl rfl rfl hdX3_isIn ⟨Nat.le_of_ble_eq_true rfl, Nat.le_of_ble_eq_true rfl⟩) [] [0, 1, 2, 3, 4, 5, 6] [0, 1, 2, 3, 4, 5, 6] [(b0, cM b1 b2 b3 b4 b5 b6 (0, X.2.2.2.2.2.2.2)), (b1, cA9 cI X.1), (b2, cA2 cI X.2.1), (b3, cA2 cI X.2.2.1), (b4, cA2 cI X.2.2.2.1), (b5, cA2 cI X.2.2.2.2.1), (b6, cA9 cI X.2.2.2.2.2.1)] ([(b0, cM b1 b2 b3 b4 b5 b6 (0, X.2.2.2.2.2.2.2)), (b1, cA9 cI X.1), (b2, cA2 cI X.2.1), (b3, cA2 cI X.2.2.1), (b4, cA2 cI X.2.2.2.1), (b5, cA2 cI X.2.2.2.2.1), (b6, cA9 cI X.2.2.2.2.2.1)]) rfl rfl rfl rfl (by decide) [] rfl rfl rfl rfl (Nat.le_of_ble_eq_true rfl) ⟨Nat.zero_le _, Nat.zero_le _⟩ rfl dX3_advise_9 ?_
  generalize er1 : fX3_isIn p0 0 60 = r1
  refine k_if_eq C 23 (by decide) dX3_advise_12 (fun c2 => ?_) (fun c2 => ?_)
  ·
    refine k_aload_n C dX3_advise_23 0 rfl ?_
    refine k_iconst C 1 (by decide) dX3_advise_24 ?_
    refine k_callV_i C (mX3_no l D cI cJ b0 b1 b2 b3 b4 b5 b6 1 (X.1, X.2.1, X.2.2.1, X.2.2.2.1, X.2.2.2.2.1, X.2.2.2.2.2.1, 0, X.2.2.2.2.2.2.2)) (cwV 1 C.2.2.2.2.1 (kGV q640 q642 q33 q61 q643) rfl rfl rfl ⟨rfl, hdX3_no⟩ ⟨Nat.le_of_ble_eq_true rfl, Nat.le_of_ble_eq_true rfl⟩) [0, 1, 2, 3, 4, 5, 6] [] [0, 1, 2, 3, 4, 5, 6] [] (wM cI b0 b1 b2 b3 b4 b5 b6 (fX3_no 1 (X.1, X.2.1, X.2.2.1, X.2.2.2.1, X.2.2.2.2.1, X.2.2.2.2.2.1, 0, X.2.2.2.2.2.2.2)).2) rfl rfl rfl rfl (by decide) [b0, b1, b2, b3, b4, b5, b6] rfl rfl rfl rfl 0 3 rfl rfl rfl (Nat.le_of_ble_eq_true rfl) ⟨Nat.zero_le _, Nat.zero_le _⟩ rfl dX3_advise_25 ?_
    generalize ez3 : fX3_no 1 (X.1, X.2.1, X.2.2.1, X.2.2.2.1, X.2.2.2.2.1, X.2.2.2.2.2.1, 0, X.2.2.2.2.2.2.2) = z3
    have hL : fX3_advise p0 X = (z3.1, z3.2) := by subst ez3; subst er1; exact (if_pos c2).trans rfl
    exact k_iret C rfl (by rw [hL]) (by rw [hL]) dX3_advise_28
  ·
    refine k_aload_n C dX3_advise_15 0 rfl ?_
    refine k_iload_n C dX3_advise_16 1 rfl ?_
    refine k_callV_i C (mX3_bestAt l D cI cJ b0 b1 b2 b3 b4 b5 b6 p0 (X.1, X.2.1, X.2.2.1, X.2.2.2.1, X.2.2.2.2.1, X.2.2.2.2.2.1, 0, X.2.2.2.2.2.2.2) (by subst er1; exact hN0 c2)) (cwV 1 C.2.2.2.2.1 (kGV q791 q793 q56 q61 q794) rfl rfl rfl ⟨rfl, hdX3_bestAt⟩ ⟨Nat.le_of_ble_eq_true rfl, Nat.le_of_ble_eq_true rfl⟩) [0, 1, 2, 3, 4, 5, 6] [] [0, 1, 2, 3, 4, 5, 6] [] (wM cI b0 b1 b2 b3 b4 b5 b6 (fX3_bestAt p0 (X.1, X.2.1, X.2.2.1, X.2.2.2.1, X.2.2.2.2.1, X.2.2.2.2.2.1, 0, X.2.2.2.2.2.2.2)).2) rfl rfl rfl rfl (by decide) [b0, b1, b2, b3, b4, b5, b6] rfl rfl rfl rfl 0 3 rfl rfl rfl (Nat.le_of_ble_eq_true rfl) ⟨Nat.zero_le _, Nat.zero_le _⟩ rfl dX3_advise_17 ?_
    generalize ez4 : fX3_bestAt p0 (X.1, X.2.1, X.2.2.1, X.2.2.2.1, X.2.2.2.2.1, X.2.2.2.2.2.1, 0, X.2.2.2.2.2.2.2) = z4
    refine k_goto C 28 (by decide) dX3_advise_20 ?_
    have hL : fX3_advise p0 X = (z4.1, z4.2) := by subst ez4; subst er1; exact (if_neg c2).trans rfl
    exact k_iret C rfl (by rw [hL]) (by rw [hL]) dX3_advise_28

theorem hdX3_digest : yX3_digest.cls ≠ "java/lang/invoke/MethodHandle" ∧ yX3_digest.cls ≠ "java/lang/invoke/VarHandle" ∧ (parseMethodDescriptor yX3_digest.desc).map (fun d => d.parameters.length) = some 0 := by decide +kernel
noncomputable def fX3_digest (X : Mo) : Int64 × Mo :=
  (((((((((((((((((((((((((((((((((((((((((((((((((((((((((1801 * 31) + ((fX3_counted_0 (X.1, X.2.1, X.2.2.1, X.2.2.2.1, X.2.2.2.2.1, X.2.2.2.2.2.1, 0, X.2.2.2.2.2.2.2))).toInt64) * 31) + ((fX3_counted_1 (X.1, X.2.1, X.2.2.1, X.2.2.2.1, X.2.2.2.2.1, X.2.2.2.2.2.1, 0, X.2.2.2.2.2.2.2))).toInt64) * 31) + ((fX3_counted_2 (X.1, X.2.1, X.2.2.1, X.2.2.2.1, X.2.2.2.2.1, X.2.2.2.2.2.1, 0, X.2.2.2.2.2.2.2))).toInt64) * 31) + ((fX3_counted_3 (X.1, X.2.1, X.2.2.1, X.2.2.2.1, X.2.2.2.2.1, X.2.2.2.2.2.1, 0, X.2.2.2.2.2.2.2))).toInt64) * 31) + ((fX3_counted_4 (X.1, X.2.1, X.2.2.1, X.2.2.2.1, X.2.2.2.2.1, X.2.2.2.2.2.1, 0, X.2.2.2.2.2.2.2))).toInt64) * 31) + ((fX3_counted_5 (X.1, X.2.1, X.2.2.1, X.2.2.2.1, X.2.2.2.2.1, X.2.2.2.2.2.1, 0, X.2.2.2.2.2.2.2))).toInt64) * 31) + ((fX3_counted_6 (X.1, X.2.1, X.2.2.1, X.2.2.2.1, X.2.2.2.2.1, X.2.2.2.2.2.1, 0, X.2.2.2.2.2.2.2))).toInt64) * 31) + ((fX3_counted_7 (X.1, X.2.1, X.2.2.1, X.2.2.2.1, X.2.2.2.2.1, X.2.2.2.2.2.1, 0, X.2.2.2.2.2.2.2))).toInt64) * 31) + ((fX3_counted_8 (X.1, X.2.1, X.2.2.1, X.2.2.2.1, X.2.2.2.2.1, X.2.2.2.2.2.1, 0, X.2.2.2.2.2.2.2))).toInt64) * 31) + ((fX3_sideTold_00 (X.1, X.2.1, X.2.2.1, X.2.2.2.1, X.2.2.2.2.1, X.2.2.2.2.2.1, 0, X.2.2.2.2.2.2.2))).toInt64) * 31) + ((fX3_sideTold_01 (X.1, X.2.1, X.2.2.1, X.2.2.2.1, X.2.2.2.2.1, X.2.2.2.2.2.1, 0, X.2.2.2.2.2.2.2))).toInt64) * 31) + ((fX3_sideTold_02 (X.1, X.2.1, X.2.2.1, X.2.2.2.1, X.2.2.2.2.1, X.2.2.2.2.2.1, 0, X.2.2.2.2.2.2.2))).toInt64) * 31) + ((fX3_sideTold_03 (X.1, X.2.1, X.2.2.1, X.2.2.2.1, X.2.2.2.2.1, X.2.2.2.2.2.1, 0, X.2.2.2.2.2.2.2))).toInt64) * 31) + ((fX3_sideTold_10 (X.1, X.2.1, X.2.2.1, X.2.2.2.1, X.2.2.2.2.1, X.2.2.2.2.2.1, 0, X.2.2.2.2.2.2.2))).toInt64) * 31) + ((fX3_sideTold_11 (X.1, X.2.1, X.2.2.1, X.2.2.2.1, X.2.2.2.2.1, X.2.2.2.2.2.1, 0, X.2.2.2.2.2.2.2))).toInt64) * 31) + ((fX3_sideTold_12 (X.1, X.2.1, X.2.2.1, X.2.2.2.1, X.2.2.2.2.1, X.2.2.2.2.2.1, 0, X.2.2.2.2.2.2.2))).toInt64) * 31) + ((fX3_sideTold_13 (X.1, X.2.1, X.2.2.1, X.2.2.2.1, X.2.2.2.2.1, X.2.2.2.2.2.1, 0, X.2.2.2.2.2.2.2))).toInt64) * 31) + ((fX3_ballTold_0 (X.1, X.2.1, X.2.2.1, X.2.2.2.1, X.2.2.2.2.1, X.2.2.2.2.2.1, 0, X.2.2.2.2.2.2.2))).toInt64) * 31) + ((fX3_ballTold_1 (X.1, X.2.1, X.2.2.1, X.2.2.2.1, X.2.2.2.2.1, X.2.2.2.2.2.1, 0, X.2.2.2.2.2.2.2))).toInt64) * 31) + ((fX3_ballTold_2 (X.1, X.2.1, X.2.2.1, X.2.2.2.1, X.2.2.2.2.1, X.2.2.2.2.2.1, 0, X.2.2.2.2.2.2.2))).toInt64) * 31) + ((fX3_ballTold_3 (X.1, X.2.1, X.2.2.1, X.2.2.2.1, X.2.2.2.2.1, X.2.2.2.2.2.1, 0, X.2.2.2.2.2.2.2))).toInt64) * 31) + ((fX3_ballTold_4 (X.1, X.2.1, X.2.2.1, X.2.2.2.1, X.2.2.2.2.1, X.2.2.2.2.2.1, 0, X.2.2.2.2.2.2.2))).toInt64) * 31) + ((fX3_ballTold_5 (X.1, X.2.1, X.2.2.1, X.2.2.2.1, X.2.2.2.2.1, X.2.2.2.2.2.1, 0, X.2.2.2.2.2.2.2))).toInt64) * 31) + ((fX3_endTold_0 (X.1, X.2.1, X.2.2.1, X.2.2.2.1, X.2.2.2.2.1, X.2.2.2.2.2.1, 0, X.2.2.2.2.2.2.2)).1).toInt64) * 31) + ((fX3_endTold_1 (fX3_endTold_0 (X.1, X.2.1, X.2.2.1, X.2.2.2.1, X.2.2.2.2.1, X.2.2.2.2.2.1, 0, X.2.2.2.2.2.2.2)).2).1).toInt64) * 31) + ((fX3_endTold_2 (fX3_endTold_1 (fX3_endTold_0 (X.1, X.2.1, X.2.2.1, X.2.2.2.1, X.2.2.2.2.1, X.2.2.2.2.2.1, 0, X.2.2.2.2.2.2.2)).2).2).1).toInt64) * 31) + ((fX3_endTold_3 (fX3_endTold_2 (fX3_endTold_1 (fX3_endTold_0 (X.1, X.2.1, X.2.2.1, X.2.2.2.1, X.2.2.2.2.1, X.2.2.2.2.2.1, 0, X.2.2.2.2.2.2.2)).2).2).2).1).toInt64) * 31) + ((fX3_endTold_4 (fX3_endTold_3 (fX3_endTold_2 (fX3_endTold_1 (fX3_endTold_0 (X.1, X.2.1, X.2.2.1, X.2.2.2.1, X.2.2.2.2.1, X.2.2.2.2.2.1, 0, X.2.2.2.2.2.2.2)).2).2).2).2).1).toInt64), (fX3_endTold_4 (fX3_endTold_3 (fX3_endTold_2 (fX3_endTold_1 (fX3_endTold_0 (X.1, X.2.1, X.2.2.1, X.2.2.2.1, X.2.2.2.2.1, X.2.2.2.2.2.1, 0, X.2.2.2.2.2.2.2)).2).2).2).2).2)
def NX3_digest (X : Mo) : Prop := ((NX3_endTold_0 (X.1, X.2.1, X.2.2.1, X.2.2.2.1, X.2.2.2.2.1, X.2.2.2.2.2.1, 0, X.2.2.2.2.2.2.2))) ∧ ((NX3_endTold_1 (fX3_endTold_0 (X.1, X.2.1, X.2.2.1, X.2.2.2.1, X.2.2.2.2.1, X.2.2.2.2.2.1, 0, X.2.2.2.2.2.2.2)).2)) ∧ ((NX3_endTold_2 (fX3_endTold_1 (fX3_endTold_0 (X.1, X.2.1, X.2.2.1, X.2.2.2.1, X.2.2.2.2.1, X.2.2.2.2.2.1, 0, X.2.2.2.2.2.2.2)).2).2)) ∧ ((NX3_endTold_3 (fX3_endTold_2 (fX3_endTold_1 (fX3_endTold_0 (X.1, X.2.1, X.2.2.1, X.2.2.2.1, X.2.2.2.2.1, X.2.2.2.2.2.1, 0, X.2.2.2.2.2.2.2)).2).2).2)) ∧ ((NX3_endTold_4 (fX3_endTold_3 (fX3_endTold_2 (fX3_endTold_1 (fX3_endTold_0 (X.1, X.2.1, X.2.2.1, X.2.2.2.1, X.2.2.2.2.1, X.2.2.2.2.2.1, 0, X.2.2.2.2.2.2.2)).2).2).2).2))
set_option maxHeartbeats 4000000 in
set_option maxRecDepth 100000 in
theorem mX3_digest (l : Launch) (D : va_G) (cI cJ : ClassId) (b0 b1 b2 b3 b4 b5 b6 : Nat) (X : Mo) (hN : ((NX3_endTold_0 (X.1, X.2.1, X.2.2.1, X.2.2.2.1, X.2.2.2.2.1, X.2.2.2.2.2.1, 0, X.2.2.2.2.2.2.2))) ∧ ((NX3_endTold_1 (fX3_endTold_0 (X.1, X.2.1, X.2.2.1, X.2.2.2.1, X.2.2.2.2.1, X.2.2.2.2.2.1, 0, X.2.2.2.2.2.2.2)).2)) ∧ ((NX3_endTold_2 (fX3_endTold_1 (fX3_endTold_0 (X.1, X.2.1, X.2.2.1, X.2.2.2.1, X.2.2.2.2.1, X.2.2.2.2.2.1, 0, X.2.2.2.2.2.2.2)).2).2)) ∧ ((NX3_endTold_3 (fX3_endTold_2 (fX3_endTold_1 (fX3_endTold_0 (X.1, X.2.1, X.2.2.1, X.2.2.2.1, X.2.2.2.2.1, X.2.2.2.2.2.1, 0, X.2.2.2.2.2.2.2)).2).2).2)) ∧ ((NX3_endTold_4 (fX3_endTold_3 (fX3_endTold_2 (fX3_endTold_1 (fX3_endTold_0 (X.1, X.2.1, X.2.2.1, X.2.2.2.1, X.2.2.2.2.1, X.2.2.2.2.2.1, 0, X.2.2.2.2.2.2.2)).2).2).2).2)))  : kCl_ l D cI cJ yX3_digest (.code yX3_digest cX3_digest 5 (some .long)) { frames := 7, cells := 0, slots := 0, locals := 150 } [.ref b0] (wM cI b0 b1 b2 b3 b4 b5 b6 X) (fX3_digest X).1 (wM cI b0 b1 b2 b3 b4 b5 b6 (fX3_digest X).2) := by
  have hN0 := hN.1
  have hN1 := hN.2.1
  have hN2 := hN.2.2.1
  have hN3 := hN.2.2.2.1
  have hN4 := hN.2.2.2.2
  refine fun sz => k_of (lv := [(0, .ref b0)]) (by decide) sz (by exact Nat.le_of_ble_eq_true rfl) rfl ?_
  intro p e s m args below meth c hsz C
  refine k_aload_n C dX3_digest_0 0 rfl ?_
  refine k_iconst C 0 (by decide) dX3_digest_1 ?_
  refine k_putX3 C [(b0, cM b1 b2 b3 b4 b5 b6 (0, X.2.2.2.2.2.2.2)), (b1, cA9 cI X.1), (b2, cA2 cI X.2.1), (b3, cA2 cI X.2.2.1), (b4, cA2 cI X.2.2.2.1), (b5, cA2 cI X.2.2.2.2.1), (b6, cA9 cI X.2.2.2.2.2.1)] 0 0 rfl rfl (by decide) q570 rfl rfl fdI rfl rfl (Nat.le_of_ble_eq_true rfl) dX3_digest_2 ?_
  refine k_ldc2 C q803 dX3_digest_5 ?_
  refine k_lstore_n C [(1, .long 1801), (0, .ref b0)] (by decide) rfl dX3_digest_8 ?_
  refine k_iconst C 0 (by decide) dX3_digest_9 ?_
  refine k_istore_n C [(3, .int 0), (1, .long 1801), (0, .ref b0)] (by decide) rfl dX3_digest_10 ?_
  refine k_iload_n C dX3_digest_11 0 rfl ?_
  refine k_bipush C 8 (by decide) dX3_digest_12 ?_
  refine k_icmp_gt C 36 (by decide) dX3_digest_14 (fun h => absurd h (by decide)) (fun _ => ?_)
  refine k_lload_n C dX3_digest_17 1 rfl ?_
  refine k_ldc2 C q804 dX3_digest_18 ?_
  refine k_lmul C dX3_digest_21 ?_
  refine k_aload_n C dX3_digest_22 2 rfl ?_
  refine k_iload_n C dX3_digest_23 0 rfl ?_
  refine k_callV_i C (mX3_counted_0 l D cI cJ b0 b1 b2 b3 b4 b5 b6 (X.1, X.2.1, X.2.2.1, X.2.2.2.1, X.2.2.2.2.1, X.2.2.2.2.2.1, 0, X.2.2.2.2.2.2.2)) (cwV 1 C.2.2.2.2.1 (kGV q759 q761 q52 q61 q762) rfl rfl rfl ⟨rfl, hdX3_counted⟩ ⟨Nat.le_of_ble_eq_true rfl, Nat.le_of_ble_eq_true rfl⟩) [0, 1, 2, 3, 4, 5, 6] [] [0, 1, 2, 3, 4, 5, 6] [] ([(b0, cM b1 b2 b3 b4 b5 b6 (0, X.2.2.2.2.2.2.2)), (b1, cA9 cI X.1), (b2, cA2 cI X.2.1), (b3, cA2 cI X.2.2.1), (b4, cA2 cI X.2.2.2.1), (b5, cA2 cI X.2.2.2.2.1), (b6, cA9 cI X.2.2.2.2.2.1)]) rfl rfl rfl rfl (by decide) [b0, b1, b2, b3, b4, b5, b6] rfl rfl rfl rfl 0 3 rfl rfl rfl (Nat.le_of_ble_eq_true rfl) ⟨Nat.zero_le _, Nat.zero_le _⟩ rfl dX3_digest_24 ?_
  generalize er1 : fX3_counted_0 (X.1, X.2.1, X.2.2.1, X.2.2.2.1, X.2.2.2.2.1, X.2.2.2.2.2.1, 0, X.2.2.2.2.2.2.2) = r1
  refine k_i2l C dX3_digest_27 ?_
  refine k_ladd C dX3_digest_28 ?_
  refine k_lstore_n C [(1, .long ((1801 * 31) + (r1).toInt64)), (3, .int 0), (0, .ref b0)] (by decide) rfl dX3_digest_29 ?_
  refine k_iinc C 1 [(3, .int 1), (1, .long ((1801 * 31) + (r1).toInt64)), (0, .ref b0)] 1 rfl (by decide) (by decide) rfl dX3_digest_30 ?_
  refine k_goto C 11 (by decide) dX3_digest_33 ?_
  refine k_iload_n C dX3_digest_11 0 rfl ?_
  refine k_bipush C 8 (by decide) dX3_digest_12 ?_
  refine k_icmp_gt C 36 (by decide) dX3_digest_14 (fun h => absurd h (by decide)) (fun _ => ?_)
  refine k_lload_n C dX3_digest_17 1 rfl ?_
  refine k_ldc2 C q804 dX3_digest_18 ?_
  refine k_lmul C dX3_digest_21 ?_
  refine k_aload_n C dX3_digest_22 2 rfl ?_
  refine k_iload_n C dX3_digest_23 0 rfl ?_
  refine k_callV_i C (mX3_counted_1 l D cI cJ b0 b1 b2 b3 b4 b5 b6 (X.1, X.2.1, X.2.2.1, X.2.2.2.1, X.2.2.2.2.1, X.2.2.2.2.2.1, 0, X.2.2.2.2.2.2.2)) (cwV 1 C.2.2.2.2.1 (kGV q759 q761 q52 q61 q762) rfl rfl rfl ⟨rfl, hdX3_counted⟩ ⟨Nat.le_of_ble_eq_true rfl, Nat.le_of_ble_eq_true rfl⟩) [0, 1, 2, 3, 4, 5, 6] [] [0, 1, 2, 3, 4, 5, 6] [] ([(b0, cM b1 b2 b3 b4 b5 b6 (0, X.2.2.2.2.2.2.2)), (b1, cA9 cI X.1), (b2, cA2 cI X.2.1), (b3, cA2 cI X.2.2.1), (b4, cA2 cI X.2.2.2.1), (b5, cA2 cI X.2.2.2.2.1), (b6, cA9 cI X.2.2.2.2.2.1)]) rfl rfl rfl rfl (by decide) [b0, b1, b2, b3, b4, b5, b6] rfl rfl rfl rfl 0 3 rfl rfl rfl (Nat.le_of_ble_eq_true rfl) ⟨Nat.zero_le _, Nat.zero_le _⟩ rfl dX3_digest_24 ?_
  generalize er2 : fX3_counted_1 (X.1, X.2.1, X.2.2.1, X.2.2.2.1, X.2.2.2.2.1, X.2.2.2.2.2.1, 0, X.2.2.2.2.2.2.2) = r2
  refine k_i2l C dX3_digest_27 ?_
  refine k_ladd C dX3_digest_28 ?_
  refine k_lstore_n C [(1, .long ((((1801 * 31) + (r1).toInt64) * 31) + (r2).toInt64)), (3, .int 1), (0, .ref b0)] (by decide) rfl dX3_digest_29 ?_
  refine k_iinc C 2 [(3, .int 2), (1, .long ((((1801 * 31) + (r1).toInt64) * 31) + (r2).toInt64)), (0, .ref b0)] 1 rfl (by decide) (by decide) rfl dX3_digest_30 ?_
  refine k_goto C 11 (by decide) dX3_digest_33 ?_
  refine k_iload_n C dX3_digest_11 0 rfl ?_
  refine k_bipush C 8 (by decide) dX3_digest_12 ?_
  refine k_icmp_gt C 36 (by decide) dX3_digest_14 (fun h => absurd h (by decide)) (fun _ => ?_)
  refine k_lload_n C dX3_digest_17 1 rfl ?_
  refine k_ldc2 C q804 dX3_digest_18 ?_
  refine k_lmul C dX3_digest_21 ?_
  refine k_aload_n C dX3_digest_22 2 rfl ?_
  refine k_iload_n C dX3_digest_23 0 rfl ?_
  refine k_callV_i C (mX3_counted_2 l D cI cJ b0 b1 b2 b3 b4 b5 b6 (X.1, X.2.1, X.2.2.1, X.2.2.2.1, X.2.2.2.2.1, X.2.2.2.2.2.1, 0, X.2.2.2.2.2.2.2)) (cwV 1 C.2.2.2.2.1 (kGV q759 q761 q52 q61 q762) rfl rfl rfl ⟨rfl, hdX3_counted⟩ ⟨Nat.le_of_ble_eq_true rfl, Nat.le_of_ble_eq_true rfl⟩) [0, 1, 2, 3, 4, 5, 6] [] [0, 1, 2, 3, 4, 5, 6] [] ([(b0, cM b1 b2 b3 b4 b5 b6 (0, X.2.2.2.2.2.2.2)), (b1, cA9 cI X.1), (b2, cA2 cI X.2.1), (b3, cA2 cI X.2.2.1), (b4, cA2 cI X.2.2.2.1), (b5, cA2 cI X.2.2.2.2.1), (b6, cA9 cI X.2.2.2.2.2.1)]) rfl rfl rfl rfl (by decide) [b0, b1, b2, b3, b4, b5, b6] rfl rfl rfl rfl 0 3 rfl rfl rfl (Nat.le_of_ble_eq_true rfl) ⟨Nat.zero_le _, Nat.zero_le _⟩ rfl dX3_digest_24 ?_
  generalize er3 : fX3_counted_2 (X.1, X.2.1, X.2.2.1, X.2.2.2.1, X.2.2.2.2.1, X.2.2.2.2.2.1, 0, X.2.2.2.2.2.2.2) = r3
  refine k_i2l C dX3_digest_27 ?_
  refine k_ladd C dX3_digest_28 ?_
  refine k_lstore_n C [(1, .long ((((((1801 * 31) + (r1).toInt64) * 31) + (r2).toInt64) * 31) + (r3).toInt64)), (3, .int 2), (0, .ref b0)] (by decide) rfl dX3_digest_29 ?_
  refine k_iinc C 3 [(3, .int 3), (1, .long ((((((1801 * 31) + (r1).toInt64) * 31) + (r2).toInt64) * 31) + (r3).toInt64)), (0, .ref b0)] 1 rfl (by decide) (by decide) rfl dX3_digest_30 ?_
  refine k_goto C 11 (by decide) dX3_digest_33 ?_
  refine k_iload_n C dX3_digest_11 0 rfl ?_
  refine k_bipush C 8 (by decide) dX3_digest_12 ?_
  refine k_icmp_gt C 36 (by decide) dX3_digest_14 (fun h => absurd h (by decide)) (fun _ => ?_)
  refine k_lload_n C dX3_digest_17 1 rfl ?_
  refine k_ldc2 C q804 dX3_digest_18 ?_
  refine k_lmul C dX3_digest_21 ?_
  refine k_aload_n C dX3_digest_22 2 rfl ?_
  refine k_iload_n C dX3_digest_23 0 rfl ?_
  refine k_callV_i C (mX3_counted_3 l D cI cJ b0 b1 b2 b3 b4 b5 b6 (X.1, X.2.1, X.2.2.1, X.2.2.2.1, X.2.2.2.2.1, X.2.2.2.2.2.1, 0, X.2.2.2.2.2.2.2)) (cwV 1 C.2.2.2.2.1 (kGV q759 q761 q52 q61 q762) rfl rfl rfl ⟨rfl, hdX3_counted⟩ ⟨Nat.le_of_ble_eq_true rfl, Nat.le_of_ble_eq_true rfl⟩) [0, 1, 2, 3, 4, 5, 6] [] [0, 1, 2, 3, 4, 5, 6] [] ([(b0, cM b1 b2 b3 b4 b5 b6 (0, X.2.2.2.2.2.2.2)), (b1, cA9 cI X.1), (b2, cA2 cI X.2.1), (b3, cA2 cI X.2.2.1), (b4, cA2 cI X.2.2.2.1), (b5, cA2 cI X.2.2.2.2.1), (b6, cA9 cI X.2.2.2.2.2.1)]) rfl rfl rfl rfl (by decide) [b0, b1, b2, b3, b4, b5, b6] rfl rfl rfl rfl 0 3 rfl rfl rfl (Nat.le_of_ble_eq_true rfl) ⟨Nat.zero_le _, Nat.zero_le _⟩ rfl dX3_digest_24 ?_
  generalize er4 : fX3_counted_3 (X.1, X.2.1, X.2.2.1, X.2.2.2.1, X.2.2.2.2.1, X.2.2.2.2.2.1, 0, X.2.2.2.2.2.2.2) = r4
  refine k_i2l C dX3_digest_27 ?_
  refine k_ladd C dX3_digest_28 ?_
  refine k_lstore_n C [(1, .long ((((((((1801 * 31) + (r1).toInt64) * 31) + (r2).toInt64) * 31) + (r3).toInt64) * 31) + (r4).toInt64)), (3, .int 3), (0, .ref b0)] (by decide) rfl dX3_digest_29 ?_
  refine k_iinc C 4 [(3, .int 4), (1, .long ((((((((1801 * 31) + (r1).toInt64) * 31) + (r2).toInt64) * 31) + (r3).toInt64) * 31) + (r4).toInt64)), (0, .ref b0)] 1 rfl (by decide) (by decide) rfl dX3_digest_30 ?_
  refine k_goto C 11 (by decide) dX3_digest_33 ?_
  refine k_iload_n C dX3_digest_11 0 rfl ?_
  refine k_bipush C 8 (by decide) dX3_digest_12 ?_
  refine k_icmp_gt C 36 (by decide) dX3_digest_14 (fun h => absurd h (by decide)) (fun _ => ?_)
  refine k_lload_n C dX3_digest_17 1 rfl ?_
  refine k_ldc2 C q804 dX3_digest_18 ?_
  refine k_lmul C dX3_digest_21 ?_
  refine k_aload_n C dX3_digest_22 2 rfl ?_
  refine k_iload_n C dX3_digest_23 0 rfl ?_
  refine k_callV_i C (mX3_counted_4 l D cI cJ b0 b1 b2 b3 b4 b5 b6 (X.1, X.2.1, X.2.2.1, X.2.2.2.1, X.2.2.2.2.1, X.2.2.2.2.2.1, 0, X.2.2.2.2.2.2.2)) (cwV 1 C.2.2.2.2.1 (kGV q759 q761 q52 q61 q762) rfl rfl rfl ⟨rfl, hdX3_counted⟩ ⟨Nat.le_of_ble_eq_true rfl, Nat.le_of_ble_eq_true rfl⟩) [0, 1, 2, 3, 4, 5, 6] [] [0, 1, 2, 3, 4, 5, 6] [] ([(b0, cM b1 b2 b3 b4 b5 b6 (0, X.2.2.2.2.2.2.2)), (b1, cA9 cI X.1), (b2, cA2 cI X.2.1), (b3, cA2 cI X.2.2.1), (b4, cA2 cI X.2.2.2.1), (b5, cA2 cI X.2.2.2.2.1), (b6, cA9 cI X.2.2.2.2.2.1)]) rfl rfl rfl rfl (by decide) [b0, b1, b2, b3, b4, b5, b6] rfl rfl rfl rfl 0 3 rfl rfl rfl (Nat.le_of_ble_eq_true rfl) ⟨Nat.zero_le _, Nat.zero_le _⟩ rfl dX3_digest_24 ?_
  generalize er5 : fX3_counted_4 (X.1, X.2.1, X.2.2.1, X.2.2.2.1, X.2.2.2.2.1, X.2.2.2.2.2.1, 0, X.2.2.2.2.2.2.2) = r5
  refine k_i2l C dX3_digest_27 ?_
  refine k_ladd C dX3_digest_28 ?_
  refine k_lstore_n C [(1, .long ((((((((((1801 * 31) + (r1).toInt64) * 31) + (r2).toInt64) * 31) + (r3).toInt64) * 31) + (r4).toInt64) * 31) + (r5).toInt64)), (3, .int 4), (0, .ref b0)] (by decide) rfl dX3_digest_29 ?_
  refine k_iinc C 5 [(3, .int 5), (1, .long ((((((((((1801 * 31) + (r1).toInt64) * 31) + (r2).toInt64) * 31) + (r3).toInt64) * 31) + (r4).toInt64) * 31) + (r5).toInt64)), (0, .ref b0)] 1 rfl (by decide) (by decide) rfl dX3_digest_30 ?_
  refine k_goto C 11 (by decide) dX3_digest_33 ?_
  refine k_iload_n C dX3_digest_11 0 rfl ?_
  refine k_bipush C 8 (by decide) dX3_digest_12 ?_
  refine k_icmp_gt C 36 (by decide) dX3_digest_14 (fun h => absurd h (by decide)) (fun _ => ?_)
  refine k_lload_n C dX3_digest_17 1 rfl ?_
  refine k_ldc2 C q804 dX3_digest_18 ?_
  refine k_lmul C dX3_digest_21 ?_
  refine k_aload_n C dX3_digest_22 2 rfl ?_
  refine k_iload_n C dX3_digest_23 0 rfl ?_
  refine k_callV_i C (mX3_counted_5 l D cI cJ b0 b1 b2 b3 b4 b5 b6 (X.1, X.2.1, X.2.2.1, X.2.2.2.1, X.2.2.2.2.1, X.2.2.2.2.2.1, 0, X.2.2.2.2.2.2.2)) (cwV 1 C.2.2.2.2.1 (kGV q759 q761 q52 q61 q762) rfl rfl rfl ⟨rfl, hdX3_counted⟩ ⟨Nat.le_of_ble_eq_true rfl, Nat.le_of_ble_eq_true rfl⟩) [0, 1, 2, 3, 4, 5, 6] [] [0, 1, 2, 3, 4, 5, 6] [] ([(b0, cM b1 b2 b3 b4 b5 b6 (0, X.2.2.2.2.2.2.2)), (b1, cA9 cI X.1), (b2, cA2 cI X.2.1), (b3, cA2 cI X.2.2.1), (b4, cA2 cI X.2.2.2.1), (b5, cA2 cI X.2.2.2.2.1), (b6, cA9 cI X.2.2.2.2.2.1)]) rfl rfl rfl rfl (by decide) [b0, b1, b2, b3, b4, b5, b6] rfl rfl rfl rfl 0 3 rfl rfl rfl (Nat.le_of_ble_eq_true rfl) ⟨Nat.zero_le _, Nat.zero_le _⟩ rfl dX3_digest_24 ?_
  generalize er6 : fX3_counted_5 (X.1, X.2.1, X.2.2.1, X.2.2.2.1, X.2.2.2.2.1, X.2.2.2.2.2.1, 0, X.2.2.2.2.2.2.2) = r6
  refine k_i2l C dX3_digest_27 ?_
  refine k_ladd C dX3_digest_28 ?_
  refine k_lstore_n C [(1, .long ((((((((((((1801 * 31) + (r1).toInt64) * 31) + (r2).toInt64) * 31) + (r3).toInt64) * 31) + (r4).toInt64) * 31) + (r5).toInt64) * 31) + (r6).toInt64)), (3, .int 5), (0, .ref b0)] (by decide) rfl dX3_digest_29 ?_
  refine k_iinc C 6 [(3, .int 6), (1, .long ((((((((((((1801 * 31) + (r1).toInt64) * 31) + (r2).toInt64) * 31) + (r3).toInt64) * 31) + (r4).toInt64) * 31) + (r5).toInt64) * 31) + (r6).toInt64)), (0, .ref b0)] 1 rfl (by decide) (by decide) rfl dX3_digest_30 ?_
  refine k_goto C 11 (by decide) dX3_digest_33 ?_
  refine k_iload_n C dX3_digest_11 0 rfl ?_
  refine k_bipush C 8 (by decide) dX3_digest_12 ?_
  refine k_icmp_gt C 36 (by decide) dX3_digest_14 (fun h => absurd h (by decide)) (fun _ => ?_)
  refine k_lload_n C dX3_digest_17 1 rfl ?_
  refine k_ldc2 C q804 dX3_digest_18 ?_
  refine k_lmul C dX3_digest_21 ?_
  refine k_aload_n C dX3_digest_22 2 rfl ?_
  refine k_iload_n C dX3_digest_23 0 rfl ?_
  refine k_callV_i C (mX3_counted_6 l D cI cJ b0 b1 b2 b3 b4 b5 b6 (X.1, X.2.1, X.2.2.1, X.2.2.2.1, X.2.2.2.2.1, X.2.2.2.2.2.1, 0, X.2.2.2.2.2.2.2)) (cwV 1 C.2.2.2.2.1 (kGV q759 q761 q52 q61 q762) rfl rfl rfl ⟨rfl, hdX3_counted⟩ ⟨Nat.le_of_ble_eq_true rfl, Nat.le_of_ble_eq_true rfl⟩) [0, 1, 2, 3, 4, 5, 6] [] [0, 1, 2, 3, 4, 5, 6] [] ([(b0, cM b1 b2 b3 b4 b5 b6 (0, X.2.2.2.2.2.2.2)), (b1, cA9 cI X.1), (b2, cA2 cI X.2.1), (b3, cA2 cI X.2.2.1), (b4, cA2 cI X.2.2.2.1), (b5, cA2 cI X.2.2.2.2.1), (b6, cA9 cI X.2.2.2.2.2.1)]) rfl rfl rfl rfl (by decide) [b0, b1, b2, b3, b4, b5, b6] rfl rfl rfl rfl 0 3 rfl rfl rfl (Nat.le_of_ble_eq_true rfl) ⟨Nat.zero_le _, Nat.zero_le _⟩ rfl dX3_digest_24 ?_
  generalize er7 : fX3_counted_6 (X.1, X.2.1, X.2.2.1, X.2.2.2.1, X.2.2.2.2.1, X.2.2.2.2.2.1, 0, X.2.2.2.2.2.2.2) = r7
  refine k_i2l C dX3_digest_27 ?_
  refine k_ladd C dX3_digest_28 ?_
  refine k_lstore_n C [(1, .long ((((((((((((((1801 * 31) + (r1).toInt64) * 31) + (r2).toInt64) * 31) + (r3).toInt64) * 31) + (r4).toInt64) * 31) + (r5).toInt64) * 31) + (r6).toInt64) * 31) + (r7).toInt64)), (3, .int 6), (0, .ref b0)] (by decide) rfl dX3_digest_29 ?_
  refine k_iinc C 7 [(3, .int 7), (1, .long ((((((((((((((1801 * 31) + (r1).toInt64) * 31) + (r2).toInt64) * 31) + (r3).toInt64) * 31) + (r4).toInt64) * 31) + (r5).toInt64) * 31) + (r6).toInt64) * 31) + (r7).toInt64)), (0, .ref b0)] 1 rfl (by decide) (by decide) rfl dX3_digest_30 ?_
  refine k_goto C 11 (by decide) dX3_digest_33 ?_
  refine k_iload_n C dX3_digest_11 0 rfl ?_
  refine k_bipush C 8 (by decide) dX3_digest_12 ?_
  refine k_icmp_gt C 36 (by decide) dX3_digest_14 (fun h => absurd h (by decide)) (fun _ => ?_)
  refine k_lload_n C dX3_digest_17 1 rfl ?_
  refine k_ldc2 C q804 dX3_digest_18 ?_
  refine k_lmul C dX3_digest_21 ?_
  refine k_aload_n C dX3_digest_22 2 rfl ?_
  refine k_iload_n C dX3_digest_23 0 rfl ?_
  refine k_callV_i C (mX3_counted_7 l D cI cJ b0 b1 b2 b3 b4 b5 b6 (X.1, X.2.1, X.2.2.1, X.2.2.2.1, X.2.2.2.2.1, X.2.2.2.2.2.1, 0, X.2.2.2.2.2.2.2)) (cwV 1 C.2.2.2.2.1 (kGV q759 q761 q52 q61 q762) rfl rfl rfl ⟨rfl, hdX3_counted⟩ ⟨Nat.le_of_ble_eq_true rfl, Nat.le_of_ble_eq_true rfl⟩) [0, 1, 2, 3, 4, 5, 6] [] [0, 1, 2, 3, 4, 5, 6] [] ([(b0, cM b1 b2 b3 b4 b5 b6 (0, X.2.2.2.2.2.2.2)), (b1, cA9 cI X.1), (b2, cA2 cI X.2.1), (b3, cA2 cI X.2.2.1), (b4, cA2 cI X.2.2.2.1), (b5, cA2 cI X.2.2.2.2.1), (b6, cA9 cI X.2.2.2.2.2.1)]) rfl rfl rfl rfl (by decide) [b0, b1, b2, b3, b4, b5, b6] rfl rfl rfl rfl 0 3 rfl rfl rfl (Nat.le_of_ble_eq_true rfl) ⟨Nat.zero_le _, Nat.zero_le _⟩ rfl dX3_digest_24 ?_
  generalize er8 : fX3_counted_7 (X.1, X.2.1, X.2.2.1, X.2.2.2.1, X.2.2.2.2.1, X.2.2.2.2.2.1, 0, X.2.2.2.2.2.2.2) = r8
  refine k_i2l C dX3_digest_27 ?_
  refine k_ladd C dX3_digest_28 ?_
  refine k_lstore_n C [(1, .long ((((((((((((((((1801 * 31) + (r1).toInt64) * 31) + (r2).toInt64) * 31) + (r3).toInt64) * 31) + (r4).toInt64) * 31) + (r5).toInt64) * 31) + (r6).toInt64) * 31) + (r7).toInt64) * 31) + (r8).toInt64)), (3, .int 7), (0, .ref b0)] (by decide) rfl dX3_digest_29 ?_
  refine k_iinc C 8 [(3, .int 8), (1, .long ((((((((((((((((1801 * 31) + (r1).toInt64) * 31) + (r2).toInt64) * 31) + (r3).toInt64) * 31) + (r4).toInt64) * 31) + (r5).toInt64) * 31) + (r6).toInt64) * 31) + (r7).toInt64) * 31) + (r8).toInt64)), (0, .ref b0)] 1 rfl (by decide) (by decide) rfl dX3_digest_30 ?_
  refine k_goto C 11 (by decide) dX3_digest_33 ?_
  refine k_iload_n C dX3_digest_11 0 rfl ?_
  refine k_bipush C 8 (by decide) dX3_digest_12 ?_
  refine k_icmp_gt C 36 (by decide) dX3_digest_14 (fun h => absurd h (by decide)) (fun _ => ?_)
  refine k_lload_n C dX3_digest_17 1 rfl ?_
  refine k_ldc2 C q804 dX3_digest_18 ?_
  refine k_lmul C dX3_digest_21 ?_
  refine k_aload_n C dX3_digest_22 2 rfl ?_
  refine k_iload_n C dX3_digest_23 0 rfl ?_
  refine k_callV_i C (mX3_counted_8 l D cI cJ b0 b1 b2 b3 b4 b5 b6 (X.1, X.2.1, X.2.2.1, X.2.2.2.1, X.2.2.2.2.1, X.2.2.2.2.2.1, 0, X.2.2.2.2.2.2.2)) (cwV 1 C.2.2.2.2.1 (kGV q759 q761 q52 q61 q762) rfl rfl rfl ⟨rfl, hdX3_counted⟩ ⟨Nat.le_of_ble_eq_true rfl, Nat.le_of_ble_eq_true rfl⟩) [0, 1, 2, 3, 4, 5, 6] [] [0, 1, 2, 3, 4, 5, 6] [] ([(b0, cM b1 b2 b3 b4 b5 b6 (0, X.2.2.2.2.2.2.2)), (b1, cA9 cI X.1), (b2, cA2 cI X.2.1), (b3, cA2 cI X.2.2.1), (b4, cA2 cI X.2.2.2.1), (b5, cA2 cI X.2.2.2.2.1), (b6, cA9 cI X.2.2.2.2.2.1)]) rfl rfl rfl rfl (by decide) [b0, b1, b2, b3, b4, b5, b6] rfl rfl rfl rfl 0 3 rfl rfl rfl (Nat.le_of_ble_eq_true rfl) ⟨Nat.zero_le _, Nat.zero_le _⟩ rfl dX3_digest_24 ?_
  generalize er9 : fX3_counted_8 (X.1, X.2.1, X.2.2.1, X.2.2.2.1, X.2.2.2.2.1, X.2.2.2.2.2.1, 0, X.2.2.2.2.2.2.2) = r9
  refine k_i2l C dX3_digest_27 ?_
  refine k_ladd C dX3_digest_28 ?_
  refine k_lstore_n C [(1, .long ((((((((((((((((((1801 * 31) + (r1).toInt64) * 31) + (r2).toInt64) * 31) + (r3).toInt64) * 31) + (r4).toInt64) * 31) + (r5).toInt64) * 31) + (r6).toInt64) * 31) + (r7).toInt64) * 31) + (r8).toInt64) * 31) + (r9).toInt64)), (3, .int 8), (0, .ref b0)] (by decide) rfl dX3_digest_29 ?_
  refine k_iinc C 9 [(3, .int 9), (1, .long ((((((((((((((((((1801 * 31) + (r1).toInt64) * 31) + (r2).toInt64) * 31) + (r3).toInt64) * 31) + (r4).toInt64) * 31) + (r5).toInt64) * 31) + (r6).toInt64) * 31) + (r7).toInt64) * 31) + (r8).toInt64) * 31) + (r9).toInt64)), (0, .ref b0)] 1 rfl (by decide) (by decide) rfl dX3_digest_30 ?_
  refine k_goto C 11 (by decide) dX3_digest_33 ?_
  refine k_iload_n C dX3_digest_11 0 rfl ?_
  refine k_bipush C 8 (by decide) dX3_digest_12 ?_
  refine k_icmp_gt C 36 (by decide) dX3_digest_14 (fun _ => ?_) (fun h => absurd (by decide) h)
  refine k_iconst C 0 (by decide) dX3_digest_36 ?_
  refine k_istore_n C [(3, .int 0), (1, .long ((((((((((((((((((1801 * 31) + (r1).toInt64) * 31) + (r2).toInt64) * 31) + (r3).toInt64) * 31) + (r4).toInt64) * 31) + (r5).toInt64) * 31) + (r6).toInt64) * 31) + (r7).toInt64) * 31) + (r8).toInt64) * 31) + (r9).toInt64)), (0, .ref b0)] (by decide) rfl dX3_digest_37 ?_
  refine k_iload_n C dX3_digest_38 0 rfl ?_
  refine k_iconst C 2 (by decide) dX3_digest_39 ?_
  refine k_icmp_ge C 79 (by decide) dX3_digest_40 (fun h => absurd h (by decide)) (fun _ => ?_)
  refine k_iconst C 0 (by decide) dX3_digest_43 ?_
  refine k_istore C [(4, .int 0), (3, .int 0), (1, .long ((((((((((((((((((1801 * 31) + (r1).toInt64) * 31) + (r2).toInt64) * 31) + (r3).toInt64) * 31) + (r4).toInt64) * 31) + (r5).toInt64) * 31) + (r6).toInt64) * 31) + (r7).toInt64) * 31) + (r8).toInt64) * 31) + (r9).toInt64)), (0, .ref b0)] (by decide) rfl dX3_digest_44 ?_
  refine k_iload C dX3_digest_46 0 rfl ?_
  refine k_iconst C 3 (by decide) dX3_digest_48 ?_
  refine k_icmp_gt C 73 (by decide) dX3_digest_49 (fun h => absurd h (by decide)) (fun _ => ?_)
  refine k_lload_n C dX3_digest_52 2 rfl ?_
  refine k_ldc2 C q804 dX3_digest_53 ?_
  refine k_lmul C dX3_digest_56 ?_
  refine k_aload_n C dX3_digest_57 3 rfl ?_
  refine k_iload_n C dX3_digest_58 1 rfl ?_
  refine k_iload C dX3_digest_59 0 rfl ?_
  refine k_callV_i C (mX3_sideTold_00 l D cI cJ b0 b1 b2 b3 b4 b5 b6 (X.1, X.2.1, X.2.2.1, X.2.2.2.1, X.2.2.2.2.1, X.2.2.2.2.2.1, 0, X.2.2.2.2.2.2.2)) (cwV 2 C.2.2.2.2.1 (kGV q751 q753 q51 q61 q754) rfl rfl rfl ⟨rfl, hdX3_sideTold⟩ ⟨Nat.le_of_ble_eq_true rfl, Nat.le_of_ble_eq_true rfl⟩) [0, 1, 2, 3, 4, 5, 6] [] [0, 1, 2, 3, 4, 5, 6] [] ([(b0, cM b1 b2 b3 b4 b5 b6 (0, X.2.2.2.2.2.2.2)), (b1, cA9 cI X.1), (b2, cA2 cI X.2.1), (b3, cA2 cI X.2.2.1), (b4, cA2 cI X.2.2.2.1), (b5, cA2 cI X.2.2.2.2.1), (b6, cA9 cI X.2.2.2.2.2.1)]) rfl rfl rfl rfl (by decide) [b0, b1, b2, b3, b4, b5, b6] rfl rfl rfl rfl 0 3 rfl rfl rfl (Nat.le_of_ble_eq_true rfl) ⟨Nat.zero_le _, Nat.zero_le _⟩ rfl dX3_digest_61 ?_
  generalize er10 : fX3_sideTold_00 (X.1, X.2.1, X.2.2.1, X.2.2.2.1, X.2.2.2.2.1, X.2.2.2.2.2.1, 0, X.2.2.2.2.2.2.2) = r10
  refine k_i2l C dX3_digest_64 ?_
  refine k_ladd C dX3_digest_65 ?_
  refine k_lstore_n C [(1, .long ((((((((((((((((((((1801 * 31) + (r1).toInt64) * 31) + (r2).toInt64) * 31) + (r3).toInt64) * 31) + (r4).toInt64) * 31) + (r5).toInt64) * 31) + (r6).toInt64) * 31) + (r7).toInt64) * 31) + (r8).toInt64) * 31) + (r9).toInt64) * 31) + (r10).toInt64)), (4, .int 0), (3, .int 0), (0, .ref b0)] (by decide) rfl dX3_digest_66 ?_
  refine k_iinc C 1 [(4, .int 1), (1, .long ((((((((((((((((((((1801 * 31) + (r1).toInt64) * 31) + (r2).toInt64) * 31) + (r3).toInt64) * 31) + (r4).toInt64) * 31) + (r5).toInt64) * 31) + (r6).toInt64) * 31) + (r7).toInt64) * 31) + (r8).toInt64) * 31) + (r9).toInt64) * 31) + (r10).toInt64)), (3, .int 0), (0, .ref b0)] 1 rfl (by decide) (by decide) rfl dX3_digest_67 ?_
  refine k_goto C 46 (by decide) dX3_digest_70 ?_
  refine k_iload C dX3_digest_46 0 rfl ?_
  refine k_iconst C 3 (by decide) dX3_digest_48 ?_
  refine k_icmp_gt C 73 (by decide) dX3_digest_49 (fun h => absurd h (by decide)) (fun _ => ?_)
  refine k_lload_n C dX3_digest_52 1 rfl ?_
  refine k_ldc2 C q804 dX3_digest_53 ?_
  refine k_lmul C dX3_digest_56 ?_
  refine k_aload_n C dX3_digest_57 3 rfl ?_
  refine k_iload_n C dX3_digest_58 2 rfl ?_
  refine k_iload C dX3_digest_59 0 rfl ?_
  refine k_callV_i C (mX3_sideTold_01 l D cI cJ b0 b1 b2 b3 b4 b5 b6 (X.1, X.2.1, X.2.2.1, X.2.2.2.1, X.2.2.2.2.1, X.2.2.2.2.2.1, 0, X.2.2.2.2.2.2.2)) (cwV 2 C.2.2.2.2.1 (kGV q751 q753 q51 q61 q754) rfl rfl rfl ⟨rfl, hdX3_sideTold⟩ ⟨Nat.le_of_ble_eq_true rfl, Nat.le_of_ble_eq_true rfl⟩) [0, 1, 2, 3, 4, 5, 6] [] [0, 1, 2, 3, 4, 5, 6] [] ([(b0, cM b1 b2 b3 b4 b5 b6 (0, X.2.2.2.2.2.2.2)), (b1, cA9 cI X.1), (b2, cA2 cI X.2.1), (b3, cA2 cI X.2.2.1), (b4, cA2 cI X.2.2.2.1), (b5, cA2 cI X.2.2.2.2.1), (b6, cA9 cI X.2.2.2.2.2.1)]) rfl rfl rfl rfl (by decide) [b0, b1, b2, b3, b4, b5, b6] rfl rfl rfl rfl 0 3 rfl rfl rfl (Nat.le_of_ble_eq_true rfl) ⟨Nat.zero_le _, Nat.zero_le _⟩ rfl dX3_digest_61 ?_
  generalize er11 : fX3_sideTold_01 (X.1, X.2.1, X.2.2.1, X.2.2.2.1, X.2.2.2.2.1, X.2.2.2.2.2.1, 0, X.2.2.2.2.2.2.2) = r11
  refine k_i2l C dX3_digest_64 ?_
  refine k_ladd C dX3_digest_65 ?_
  refine k_lstore_n C [(1, .long ((((((((((((((((((((((1801 * 31) + (r1).toInt64) * 31) + (r2).toInt64) * 31) + (r3).toInt64) * 31) + (r4).toInt64) * 31) + (r5).toInt64) * 31) + (r6).toInt64) * 31) + (r7).toInt64) * 31) + (r8).toInt64) * 31) + (r9).toInt64) * 31) + (r10).toInt64) * 31) + (r11).toInt64)), (4, .int 1), (3, .int 0), (0, .ref b0)] (by decide) rfl dX3_digest_66 ?_
  refine k_iinc C 2 [(4, .int 2), (1, .long ((((((((((((((((((((((1801 * 31) + (r1).toInt64) * 31) + (r2).toInt64) * 31) + (r3).toInt64) * 31) + (r4).toInt64) * 31) + (r5).toInt64) * 31) + (r6).toInt64) * 31) + (r7).toInt64) * 31) + (r8).toInt64) * 31) + (r9).toInt64) * 31) + (r10).toInt64) * 31) + (r11).toInt64)), (3, .int 0), (0, .ref b0)] 1 rfl (by decide) (by decide) rfl dX3_digest_67 ?_
  refine k_goto C 46 (by decide) dX3_digest_70 ?_
  refine k_iload C dX3_digest_46 0 rfl ?_
  refine k_iconst C 3 (by decide) dX3_digest_48 ?_
  refine k_icmp_gt C 73 (by decide) dX3_digest_49 (fun h => absurd h (by decide)) (fun _ => ?_)
  refine k_lload_n C dX3_digest_52 1 rfl ?_
  refine k_ldc2 C q804 dX3_digest_53 ?_
  refine k_lmul C dX3_digest_56 ?_
  refine k_aload_n C dX3_digest_57 3 rfl ?_
  refine k_iload_n C dX3_digest_58 2 rfl ?_
  refine k_iload C dX3_digest_59 0 rfl ?_
  refine k_callV_i C (mX3_sideTold_02 l D cI cJ b0 b1 b2 b3 b4 b5 b6 (X.1, X.2.1, X.2.2.1, X.2.2.2.1, X.2.2.2.2.1, X.2.2.2.2.2.1, 0, X.2.2.2.2.2.2.2)) (cwV 2 C.2.2.2.2.1 (kGV q751 q753 q51 q61 q754) rfl rfl rfl ⟨rfl, hdX3_sideTold⟩ ⟨Nat.le_of_ble_eq_true rfl, Nat.le_of_ble_eq_true rfl⟩) [0, 1, 2, 3, 4, 5, 6] [] [0, 1, 2, 3, 4, 5, 6] [] ([(b0, cM b1 b2 b3 b4 b5 b6 (0, X.2.2.2.2.2.2.2)), (b1, cA9 cI X.1), (b2, cA2 cI X.2.1), (b3, cA2 cI X.2.2.1), (b4, cA2 cI X.2.2.2.1), (b5, cA2 cI X.2.2.2.2.1), (b6, cA9 cI X.2.2.2.2.2.1)]) rfl rfl rfl rfl (by decide) [b0, b1, b2, b3, b4, b5, b6] rfl rfl rfl rfl 0 3 rfl rfl rfl (Nat.le_of_ble_eq_true rfl) ⟨Nat.zero_le _, Nat.zero_le _⟩ rfl dX3_digest_61 ?_
  generalize er12 : fX3_sideTold_02 (X.1, X.2.1, X.2.2.1, X.2.2.2.1, X.2.2.2.2.1, X.2.2.2.2.2.1, 0, X.2.2.2.2.2.2.2) = r12
  refine k_i2l C dX3_digest_64 ?_
  refine k_ladd C dX3_digest_65 ?_
  refine k_lstore_n C [(1, .long ((((((((((((((((((((((((1801 * 31) + (r1).toInt64) * 31) + (r2).toInt64) * 31) + (r3).toInt64) * 31) + (r4).toInt64) * 31) + (r5).toInt64) * 31) + (r6).toInt64) * 31) + (r7).toInt64) * 31) + (r8).toInt64) * 31) + (r9).toInt64) * 31) + (r10).toInt64) * 31) + (r11).toInt64) * 31) + (r12).toInt64)), (4, .int 2), (3, .int 0), (0, .ref b0)] (by decide) rfl dX3_digest_66 ?_
  refine k_iinc C 3 [(4, .int 3), (1, .long ((((((((((((((((((((((((1801 * 31) + (r1).toInt64) * 31) + (r2).toInt64) * 31) + (r3).toInt64) * 31) + (r4).toInt64) * 31) + (r5).toInt64) * 31) + (r6).toInt64) * 31) + (r7).toInt64) * 31) + (r8).toInt64) * 31) + (r9).toInt64) * 31) + (r10).toInt64) * 31) + (r11).toInt64) * 31) + (r12).toInt64)), (3, .int 0), (0, .ref b0)] 1 rfl (by decide) (by decide) rfl dX3_digest_67 ?_
  refine k_goto C 46 (by decide) dX3_digest_70 ?_
  refine k_iload C dX3_digest_46 0 rfl ?_
  refine k_iconst C 3 (by decide) dX3_digest_48 ?_
  refine k_icmp_gt C 73 (by decide) dX3_digest_49 (fun h => absurd h (by decide)) (fun _ => ?_)
  refine k_lload_n C dX3_digest_52 1 rfl ?_
  refine k_ldc2 C q804 dX3_digest_53 ?_
  refine k_lmul C dX3_digest_56 ?_
  refine k_aload_n C dX3_digest_57 3 rfl ?_
  refine k_iload_n C dX3_digest_58 2 rfl ?_
  refine k_iload C dX3_digest_59 0 rfl ?_
  refine k_callV_i C (mX3_sideTold_03 l D cI cJ b0 b1 b2 b3 b4 b5 b6 (X.1, X.2.1, X.2.2.1, X.2.2.2.1, X.2.2.2.2.1, X.2.2.2.2.2.1, 0, X.2.2.2.2.2.2.2)) (cwV 2 C.2.2.2.2.1 (kGV q751 q753 q51 q61 q754) rfl rfl rfl ⟨rfl, hdX3_sideTold⟩ ⟨Nat.le_of_ble_eq_true rfl, Nat.le_of_ble_eq_true rfl⟩) [0, 1, 2, 3, 4, 5, 6] [] [0, 1, 2, 3, 4, 5, 6] [] ([(b0, cM b1 b2 b3 b4 b5 b6 (0, X.2.2.2.2.2.2.2)), (b1, cA9 cI X.1), (b2, cA2 cI X.2.1), (b3, cA2 cI X.2.2.1), (b4, cA2 cI X.2.2.2.1), (b5, cA2 cI X.2.2.2.2.1), (b6, cA9 cI X.2.2.2.2.2.1)]) rfl rfl rfl rfl (by decide) [b0, b1, b2, b3, b4, b5, b6] rfl rfl rfl rfl 0 3 rfl rfl rfl (Nat.le_of_ble_eq_true rfl) ⟨Nat.zero_le _, Nat.zero_le _⟩ rfl dX3_digest_61 ?_
  generalize er13 : fX3_sideTold_03 (X.1, X.2.1, X.2.2.1, X.2.2.2.1, X.2.2.2.2.1, X.2.2.2.2.2.1, 0, X.2.2.2.2.2.2.2) = r13
  refine k_i2l C dX3_digest_64 ?_
  refine k_ladd C dX3_digest_65 ?_
  refine k_lstore_n C [(1, .long ((((((((((((((((((((((((((1801 * 31) + (r1).toInt64) * 31) + (r2).toInt64) * 31) + (r3).toInt64) * 31) + (r4).toInt64) * 31) + (r5).toInt64) * 31) + (r6).toInt64) * 31) + (r7).toInt64) * 31) + (r8).toInt64) * 31) + (r9).toInt64) * 31) + (r10).toInt64) * 31) + (r11).toInt64) * 31) + (r12).toInt64) * 31) + (r13).toInt64)), (4, .int 3), (3, .int 0), (0, .ref b0)] (by decide) rfl dX3_digest_66 ?_
  refine k_iinc C 4 [(4, .int 4), (1, .long ((((((((((((((((((((((((((1801 * 31) + (r1).toInt64) * 31) + (r2).toInt64) * 31) + (r3).toInt64) * 31) + (r4).toInt64) * 31) + (r5).toInt64) * 31) + (r6).toInt64) * 31) + (r7).toInt64) * 31) + (r8).toInt64) * 31) + (r9).toInt64) * 31) + (r10).toInt64) * 31) + (r11).toInt64) * 31) + (r12).toInt64) * 31) + (r13).toInt64)), (3, .int 0), (0, .ref b0)] 1 rfl (by decide) (by decide) rfl dX3_digest_67 ?_
  refine k_goto C 46 (by decide) dX3_digest_70 ?_
  refine k_iload C dX3_digest_46 0 rfl ?_
  refine k_iconst C 3 (by decide) dX3_digest_48 ?_
  refine k_icmp_gt C 73 (by decide) dX3_digest_49 (fun _ => ?_) (fun h => absurd (by decide) h)
  refine k_iinc C 1 [(3, .int 1), (4, .int 4), (1, .long ((((((((((((((((((((((((((1801 * 31) + (r1).toInt64) * 31) + (r2).toInt64) * 31) + (r3).toInt64) * 31) + (r4).toInt64) * 31) + (r5).toInt64) * 31) + (r6).toInt64) * 31) + (r7).toInt64) * 31) + (r8).toInt64) * 31) + (r9).toInt64) * 31) + (r10).toInt64) * 31) + (r11).toInt64) * 31) + (r12).toInt64) * 31) + (r13).toInt64)), (0, .ref b0)] 2 rfl (by decide) (by decide) rfl dX3_digest_73 ?_
  refine k_goto C 38 (by decide) dX3_digest_76 ?_
  refine k_iload_n C dX3_digest_38 0 rfl ?_
  refine k_iconst C 2 (by decide) dX3_digest_39 ?_
  refine k_icmp_ge C 79 (by decide) dX3_digest_40 (fun h => absurd h (by decide)) (fun _ => ?_)
  refine k_iconst C 0 (by decide) dX3_digest_43 ?_
  refine k_istore C [(4, .int 0), (3, .int 1), (1, .long ((((((((((((((((((((((((((1801 * 31) + (r1).toInt64) * 31) + (r2).toInt64) * 31) + (r3).toInt64) * 31) + (r4).toInt64) * 31) + (r5).toInt64) * 31) + (r6).toInt64) * 31) + (r7).toInt64) * 31) + (r8).toInt64) * 31) + (r9).toInt64) * 31) + (r10).toInt64) * 31) + (r11).toInt64) * 31) + (r12).toInt64) * 31) + (r13).toInt64)), (0, .ref b0)] (by decide) rfl dX3_digest_44 ?_
  refine k_iload C dX3_digest_46 0 rfl ?_
  refine k_iconst C 3 (by decide) dX3_digest_48 ?_
  refine k_icmp_gt C 73 (by decide) dX3_digest_49 (fun h => absurd h (by decide)) (fun _ => ?_)
  refine k_lload_n C dX3_digest_52 2 rfl ?_
  refine k_ldc2 C q804 dX3_digest_53 ?_
  refine k_lmul C dX3_digest_56 ?_
  refine k_aload_n C dX3_digest_57 3 rfl ?_
  refine k_iload_n C dX3_digest_58 1 rfl ?_
  refine k_iload C dX3_digest_59 0 rfl ?_
  refine k_callV_i C (mX3_sideTold_10 l D cI cJ b0 b1 b2 b3 b4 b5 b6 (X.1, X.2.1, X.2.2.1, X.2.2.2.1, X.2.2.2.2.1, X.2.2.2.2.2.1, 0, X.2.2.2.2.2.2.2)) (cwV 2 C.2.2.2.2.1 (kGV q751 q753 q51 q61 q754) rfl rfl rfl ⟨rfl, hdX3_sideTold⟩ ⟨Nat.le_of_ble_eq_true rfl, Nat.le_of_ble_eq_true rfl⟩) [0, 1, 2, 3, 4, 5, 6] [] [0, 1, 2, 3, 4, 5, 6] [] ([(b0, cM b1 b2 b3 b4 b5 b6 (0, X.2.2.2.2.2.2.2)), (b1, cA9 cI X.1), (b2, cA2 cI X.2.1), (b3, cA2 cI X.2.2.1), (b4, cA2 cI X.2.2.2.1), (b5, cA2 cI X.2.2.2.2.1), (b6, cA9 cI X.2.2.2.2.2.1)]) rfl rfl rfl rfl (by decide) [b0, b1, b2, b3, b4, b5, b6] rfl rfl rfl rfl 0 3 rfl rfl rfl (Nat.le_of_ble_eq_true rfl) ⟨Nat.zero_le _, Nat.zero_le _⟩ rfl dX3_digest_61 ?_
  generalize er14 : fX3_sideTold_10 (X.1, X.2.1, X.2.2.1, X.2.2.2.1, X.2.2.2.2.1, X.2.2.2.2.2.1, 0, X.2.2.2.2.2.2.2) = r14
  refine k_i2l C dX3_digest_64 ?_
  refine k_ladd C dX3_digest_65 ?_
  refine k_lstore_n C [(1, .long ((((((((((((((((((((((((((((1801 * 31) + (r1).toInt64) * 31) + (r2).toInt64) * 31) + (r3).toInt64) * 31) + (r4).toInt64) * 31) + (r5).toInt64) * 31) + (r6).toInt64) * 31) + (r7).toInt64) * 31) + (r8).toInt64) * 31) + (r9).toInt64) * 31) + (r10).toInt64) * 31) + (r11).toInt64) * 31) + (r12).toInt64) * 31) + (r13).toInt64) * 31) + (r14).toInt64)), (4, .int 0), (3, .int 1), (0, .ref b0)] (by decide) rfl dX3_digest_66 ?_
  refine k_iinc C 1 [(4, .int 1), (1, .long ((((((((((((((((((((((((((((1801 * 31) + (r1).toInt64) * 31) + (r2).toInt64) * 31) + (r3).toInt64) * 31) + (r4).toInt64) * 31) + (r5).toInt64) * 31) + (r6).toInt64) * 31) + (r7).toInt64) * 31) + (r8).toInt64) * 31) + (r9).toInt64) * 31) + (r10).toInt64) * 31) + (r11).toInt64) * 31) + (r12).toInt64) * 31) + (r13).toInt64) * 31) + (r14).toInt64)), (3, .int 1), (0, .ref b0)] 1 rfl (by decide) (by decide) rfl dX3_digest_67 ?_
  refine k_goto C 46 (by decide) dX3_digest_70 ?_
  refine k_iload C dX3_digest_46 0 rfl ?_
  refine k_iconst C 3 (by decide) dX3_digest_48 ?_
  refine k_icmp_gt C 73 (by decide) dX3_digest_49 (fun h => absurd h (by decide)) (fun _ => ?_)
  refine k_lload_n C dX3_digest_52 1 rfl ?_
  refine k_ldc2 C q804 dX3_digest_53 ?_
  refine k_lmul C dX3_digest_56 ?_
  refine k_aload_n C dX3_digest_57 3 rfl ?_
  refine k_iload_n C dX3_digest_58 2 rfl ?_
  refine k_iload C dX3_digest_59 0 rfl ?_
  refine k_callV_i C (mX3_sideTold_11 l D cI cJ b0 b1 b2 b3 b4 b5 b6 (X.1, X.2.1, X.2.2.1, X.2.2.2.1, X.2.2.2.2.1, X.2.2.2.2.2.1, 0, X.2.2.2.2.2.2.2)) (cwV 2 C.2.2.2.2.1 (kGV q751 q753 q51 q61 q754) rfl rfl rfl ⟨rfl, hdX3_sideTold⟩ ⟨Nat.le_of_ble_eq_true rfl, Nat.le_of_ble_eq_true rfl⟩) [0, 1, 2, 3, 4, 5, 6] [] [0, 1, 2, 3, 4, 5, 6] [] ([(b0, cM b1 b2 b3 b4 b5 b6 (0, X.2.2.2.2.2.2.2)), (b1, cA9 cI X.1), (b2, cA2 cI X.2.1), (b3, cA2 cI X.2.2.1), (b4, cA2 cI X.2.2.2.1), (b5, cA2 cI X.2.2.2.2.1), (b6, cA9 cI X.2.2.2.2.2.1)]) rfl rfl rfl rfl (by decide) [b0, b1, b2, b3, b4, b5, b6] rfl rfl rfl rfl 0 3 rfl rfl rfl (Nat.le_of_ble_eq_true rfl) ⟨Nat.zero_le _, Nat.zero_le _⟩ rfl dX3_digest_61 ?_
  generalize er15 : fX3_sideTold_11 (X.1, X.2.1, X.2.2.1, X.2.2.2.1, X.2.2.2.2.1, X.2.2.2.2.2.1, 0, X.2.2.2.2.2.2.2) = r15
  refine k_i2l C dX3_digest_64 ?_
  refine k_ladd C dX3_digest_65 ?_
  refine k_lstore_n C [(1, .long ((((((((((((((((((((((((((((((1801 * 31) + (r1).toInt64) * 31) + (r2).toInt64) * 31) + (r3).toInt64) * 31) + (r4).toInt64) * 31) + (r5).toInt64) * 31) + (r6).toInt64) * 31) + (r7).toInt64) * 31) + (r8).toInt64) * 31) + (r9).toInt64) * 31) + (r10).toInt64) * 31) + (r11).toInt64) * 31) + (r12).toInt64) * 31) + (r13).toInt64) * 31) + (r14).toInt64) * 31) + (r15).toInt64)), (4, .int 1), (3, .int 1), (0, .ref b0)] (by decide) rfl dX3_digest_66 ?_
  refine k_iinc C 2 [(4, .int 2), (1, .long ((((((((((((((((((((((((((((((1801 * 31) + (r1).toInt64) * 31) + (r2).toInt64) * 31) + (r3).toInt64) * 31) + (r4).toInt64) * 31) + (r5).toInt64) * 31) + (r6).toInt64) * 31) + (r7).toInt64) * 31) + (r8).toInt64) * 31) + (r9).toInt64) * 31) + (r10).toInt64) * 31) + (r11).toInt64) * 31) + (r12).toInt64) * 31) + (r13).toInt64) * 31) + (r14).toInt64) * 31) + (r15).toInt64)), (3, .int 1), (0, .ref b0)] 1 rfl (by decide) (by decide) rfl dX3_digest_67 ?_
  refine k_goto C 46 (by decide) dX3_digest_70 ?_
  refine k_iload C dX3_digest_46 0 rfl ?_
  refine k_iconst C 3 (by decide) dX3_digest_48 ?_
  refine k_icmp_gt C 73 (by decide) dX3_digest_49 (fun h => absurd h (by decide)) (fun _ => ?_)
  refine k_lload_n C dX3_digest_52 1 rfl ?_
  refine k_ldc2 C q804 dX3_digest_53 ?_
  refine k_lmul C dX3_digest_56 ?_
  refine k_aload_n C dX3_digest_57 3 rfl ?_
  refine k_iload_n C dX3_digest_58 2 rfl ?_
  refine k_iload C dX3_digest_59 0 rfl ?_
  refine k_callV_i C (mX3_sideTold_12 l D cI cJ b0 b1 b2 b3 b4 b5 b6 (X.1, X.2.1, X.2.2.1, X.2.2.2.1, X.2.2.2.2.1, X.2.2.2.2.2.1, 0, X.2.2.2.2.2.2.2)) (cwV 2 C.2.2.2.2.1 (kGV q751 q753 q51 q61 q754) rfl rfl rfl ⟨rfl, hdX3_sideTold⟩ ⟨Nat.le_of_ble_eq_true rfl, Nat.le_of_ble_eq_true rfl⟩) [0, 1, 2, 3, 4, 5, 6] [] [0, 1, 2, 3, 4, 5, 6] [] ([(b0, cM b1 b2 b3 b4 b5 b6 (0, X.2.2.2.2.2.2.2)), (b1, cA9 cI X.1), (b2, cA2 cI X.2.1), (b3, cA2 cI X.2.2.1), (b4, cA2 cI X.2.2.2.1), (b5, cA2 cI X.2.2.2.2.1), (b6, cA9 cI X.2.2.2.2.2.1)]) rfl rfl rfl rfl (by decide) [b0, b1, b2, b3, b4, b5, b6] rfl rfl rfl rfl 0 3 rfl rfl rfl (Nat.le_of_ble_eq_true rfl) ⟨Nat.zero_le _, Nat.zero_le _⟩ rfl dX3_digest_61 ?_
  generalize er16 : fX3_sideTold_12 (X.1, X.2.1, X.2.2.1, X.2.2.2.1, X.2.2.2.2.1, X.2.2.2.2.2.1, 0, X.2.2.2.2.2.2.2) = r16
  refine k_i2l C dX3_digest_64 ?_
  refine k_ladd C dX3_digest_65 ?_
  refine k_lstore_n C [(1, .long ((((((((((((((((((((((((((((((((1801 * 31) + (r1).toInt64) * 31) + (r2).toInt64) * 31) + (r3).toInt64) * 31) + (r4).toInt64) * 31) + (r5).toInt64) * 31) + (r6).toInt64) * 31) + (r7).toInt64) * 31) + (r8).toInt64) * 31) + (r9).toInt64) * 31) + (r10).toInt64) * 31) + (r11).toInt64) * 31) + (r12).toInt64) * 31) + (r13).toInt64) * 31) + (r14).toInt64) * 31) + (r15).toInt64) * 31) + (r16).toInt64)), (4, .int 2), (3, .int 1), (0, .ref b0)] (by decide) rfl dX3_digest_66 ?_
  refine k_iinc C 3 [(4, .int 3), (1, .long ((((((((((((((((((((((((((((((((1801 * 31) + (r1).toInt64) * 31) + (r2).toInt64) * 31) + (r3).toInt64) * 31) + (r4).toInt64) * 31) + (r5).toInt64) * 31) + (r6).toInt64) * 31) + (r7).toInt64) * 31) + (r8).toInt64) * 31) + (r9).toInt64) * 31) + (r10).toInt64) * 31) + (r11).toInt64) * 31) + (r12).toInt64) * 31) + (r13).toInt64) * 31) + (r14).toInt64) * 31) + (r15).toInt64) * 31) + (r16).toInt64)), (3, .int 1), (0, .ref b0)] 1 rfl (by decide) (by decide) rfl dX3_digest_67 ?_
  refine k_goto C 46 (by decide) dX3_digest_70 ?_
  refine k_iload C dX3_digest_46 0 rfl ?_
  refine k_iconst C 3 (by decide) dX3_digest_48 ?_
  refine k_icmp_gt C 73 (by decide) dX3_digest_49 (fun h => absurd h (by decide)) (fun _ => ?_)
  refine k_lload_n C dX3_digest_52 1 rfl ?_
  refine k_ldc2 C q804 dX3_digest_53 ?_
  refine k_lmul C dX3_digest_56 ?_
  refine k_aload_n C dX3_digest_57 3 rfl ?_
  refine k_iload_n C dX3_digest_58 2 rfl ?_
  refine k_iload C dX3_digest_59 0 rfl ?_
  refine k_callV_i C (mX3_sideTold_13 l D cI cJ b0 b1 b2 b3 b4 b5 b6 (X.1, X.2.1, X.2.2.1, X.2.2.2.1, X.2.2.2.2.1, X.2.2.2.2.2.1, 0, X.2.2.2.2.2.2.2)) (cwV 2 C.2.2.2.2.1 (kGV q751 q753 q51 q61 q754) rfl rfl rfl ⟨rfl, hdX3_sideTold⟩ ⟨Nat.le_of_ble_eq_true rfl, Nat.le_of_ble_eq_true rfl⟩) [0, 1, 2, 3, 4, 5, 6] [] [0, 1, 2, 3, 4, 5, 6] [] ([(b0, cM b1 b2 b3 b4 b5 b6 (0, X.2.2.2.2.2.2.2)), (b1, cA9 cI X.1), (b2, cA2 cI X.2.1), (b3, cA2 cI X.2.2.1), (b4, cA2 cI X.2.2.2.1), (b5, cA2 cI X.2.2.2.2.1), (b6, cA9 cI X.2.2.2.2.2.1)]) rfl rfl rfl rfl (by decide) [b0, b1, b2, b3, b4, b5, b6] rfl rfl rfl rfl 0 3 rfl rfl rfl (Nat.le_of_ble_eq_true rfl) ⟨Nat.zero_le _, Nat.zero_le _⟩ rfl dX3_digest_61 ?_
  generalize er17 : fX3_sideTold_13 (X.1, X.2.1, X.2.2.1, X.2.2.2.1, X.2.2.2.2.1, X.2.2.2.2.2.1, 0, X.2.2.2.2.2.2.2) = r17
  refine k_i2l C dX3_digest_64 ?_
  refine k_ladd C dX3_digest_65 ?_
  refine k_lstore_n C [(1, .long ((((((((((((((((((((((((((((((((((1801 * 31) + (r1).toInt64) * 31) + (r2).toInt64) * 31) + (r3).toInt64) * 31) + (r4).toInt64) * 31) + (r5).toInt64) * 31) + (r6).toInt64) * 31) + (r7).toInt64) * 31) + (r8).toInt64) * 31) + (r9).toInt64) * 31) + (r10).toInt64) * 31) + (r11).toInt64) * 31) + (r12).toInt64) * 31) + (r13).toInt64) * 31) + (r14).toInt64) * 31) + (r15).toInt64) * 31) + (r16).toInt64) * 31) + (r17).toInt64)), (4, .int 3), (3, .int 1), (0, .ref b0)] (by decide) rfl dX3_digest_66 ?_
  refine k_iinc C 4 [(4, .int 4), (1, .long ((((((((((((((((((((((((((((((((((1801 * 31) + (r1).toInt64) * 31) + (r2).toInt64) * 31) + (r3).toInt64) * 31) + (r4).toInt64) * 31) + (r5).toInt64) * 31) + (r6).toInt64) * 31) + (r7).toInt64) * 31) + (r8).toInt64) * 31) + (r9).toInt64) * 31) + (r10).toInt64) * 31) + (r11).toInt64) * 31) + (r12).toInt64) * 31) + (r13).toInt64) * 31) + (r14).toInt64) * 31) + (r15).toInt64) * 31) + (r16).toInt64) * 31) + (r17).toInt64)), (3, .int 1), (0, .ref b0)] 1 rfl (by decide) (by decide) rfl dX3_digest_67 ?_
  refine k_goto C 46 (by decide) dX3_digest_70 ?_
  refine k_iload C dX3_digest_46 0 rfl ?_
  refine k_iconst C 3 (by decide) dX3_digest_48 ?_
  refine k_icmp_gt C 73 (by decide) dX3_digest_49 (fun _ => ?_) (fun h => absurd (by decide) h)
  refine k_iinc C 2 [(3, .int 2), (4, .int 4), (1, .long ((((((((((((((((((((((((((((((((((1801 * 31) + (r1).toInt64) * 31) + (r2).toInt64) * 31) + (r3).toInt64) * 31) + (r4).toInt64) * 31) + (r5).toInt64) * 31) + (r6).toInt64) * 31) + (r7).toInt64) * 31) + (r8).toInt64) * 31) + (r9).toInt64) * 31) + (r10).toInt64) * 31) + (r11).toInt64) * 31) + (r12).toInt64) * 31) + (r13).toInt64) * 31) + (r14).toInt64) * 31) + (r15).toInt64) * 31) + (r16).toInt64) * 31) + (r17).toInt64)), (0, .ref b0)] 2 rfl (by decide) (by decide) rfl dX3_digest_73 ?_
  refine k_goto C 38 (by decide) dX3_digest_76 ?_
  refine k_iload_n C dX3_digest_38 0 rfl ?_
  refine k_iconst C 2 (by decide) dX3_digest_39 ?_
  refine k_icmp_ge C 79 (by decide) dX3_digest_40 (fun _ => ?_) (fun h => absurd (by decide) h)
  refine k_iconst C 0 (by decide) dX3_digest_79 ?_
  refine k_istore_n C [(3, .int 0), (4, .int 4), (1, .long ((((((((((((((((((((((((((((((((((1801 * 31) + (r1).toInt64) * 31) + (r2).toInt64) * 31) + (r3).toInt64) * 31) + (r4).toInt64) * 31) + (r5).toInt64) * 31) + (r6).toInt64) * 31) + (r7).toInt64) * 31) + (r8).toInt64) * 31) + (r9).toInt64) * 31) + (r10).toInt64) * 31) + (r11).toInt64) * 31) + (r12).toInt64) * 31) + (r13).toInt64) * 31) + (r14).toInt64) * 31) + (r15).toInt64) * 31) + (r16).toInt64) * 31) + (r17).toInt64)), (0, .ref b0)] (by decide) rfl dX3_digest_80 ?_
  refine k_iload_n C dX3_digest_81 0 rfl ?_
  refine k_iconst C 5 (by decide) dX3_digest_82 ?_
  refine k_icmp_gt C 105 (by decide) dX3_digest_83 (fun h => absurd h (by decide)) (fun _ => ?_)
  refine k_lload_n C dX3_digest_86 2 rfl ?_
  refine k_ldc2 C q804 dX3_digest_87 ?_
  refine k_lmul C dX3_digest_90 ?_
  refine k_aload_n C dX3_digest_91 3 rfl ?_
  refine k_iload_n C dX3_digest_92 0 rfl ?_
  refine k_callV_i C (mX3_ballTold_0 l D cI cJ b0 b1 b2 b3 b4 b5 b6 (X.1, X.2.1, X.2.2.1, X.2.2.2.1, X.2.2.2.2.1, X.2.2.2.2.2.1, 0, X.2.2.2.2.2.2.2)) (cwV 1 C.2.2.2.2.1 (kGV q743 q745 q50 q61 q746) rfl rfl rfl ⟨rfl, hdX3_ballTold⟩ ⟨Nat.le_of_ble_eq_true rfl, Nat.le_of_ble_eq_true rfl⟩) [0, 1, 2, 3, 4, 5, 6] [] [0, 1, 2, 3, 4, 5, 6] [] ([(b0, cM b1 b2 b3 b4 b5 b6 (0, X.2.2.2.2.2.2.2)), (b1, cA9 cI X.1), (b2, cA2 cI X.2.1), (b3, cA2 cI X.2.2.1), (b4, cA2 cI X.2.2.2.1), (b5, cA2 cI X.2.2.2.2.1), (b6, cA9 cI X.2.2.2.2.2.1)]) rfl rfl rfl rfl (by decide) [b0, b1, b2, b3, b4, b5, b6] rfl rfl rfl rfl 0 3 rfl rfl rfl (Nat.le_of_ble_eq_true rfl) ⟨Nat.zero_le _, Nat.zero_le _⟩ rfl dX3_digest_93 ?_
  generalize er18 : fX3_ballTold_0 (X.1, X.2.1, X.2.2.1, X.2.2.2.1, X.2.2.2.2.1, X.2.2.2.2.2.1, 0, X.2.2.2.2.2.2.2) = r18
  refine k_i2l C dX3_digest_96 ?_
  refine k_ladd C dX3_digest_97 ?_
  refine k_lstore_n C [(1, .long ((((((((((((((((((((((((((((((((((((1801 * 31) + (r1).toInt64) * 31) + (r2).toInt64) * 31) + (r3).toInt64) * 31) + (r4).toInt64) * 31) + (r5).toInt64) * 31) + (r6).toInt64) * 31) + (r7).toInt64) * 31) + (r8).toInt64) * 31) + (r9).toInt64) * 31) + (r10).toInt64) * 31) + (r11).toInt64) * 31) + (r12).toInt64) * 31) + (r13).toInt64) * 31) + (r14).toInt64) * 31) + (r15).toInt64) * 31) + (r16).toInt64) * 31) + (r17).toInt64) * 31) + (r18).toInt64)), (3, .int 0), (4, .int 4), (0, .ref b0)] (by decide) rfl dX3_digest_98 ?_
  refine k_iinc C 1 [(3, .int 1), (1, .long ((((((((((((((((((((((((((((((((((((1801 * 31) + (r1).toInt64) * 31) + (r2).toInt64) * 31) + (r3).toInt64) * 31) + (r4).toInt64) * 31) + (r5).toInt64) * 31) + (r6).toInt64) * 31) + (r7).toInt64) * 31) + (r8).toInt64) * 31) + (r9).toInt64) * 31) + (r10).toInt64) * 31) + (r11).toInt64) * 31) + (r12).toInt64) * 31) + (r13).toInt64) * 31) + (r14).toInt64) * 31) + (r15).toInt64) * 31) + (r16).toInt64) * 31) + (r17).toInt64) * 31) + (r18).toInt64)), (4, .int 4), (0, .ref b0)] 1 rfl (by decide) (by decide) rfl dX3_digest_99 ?_
  refine k_goto C 81 (by decide) dX3_digest_102 ?_
  refine k_iload_n C dX3_digest_81 0 rfl ?_
  refine k_iconst C 5 (by decide) dX3_digest_82 ?_
  refine k_icmp_gt C 105 (by decide) dX3_digest_83 (fun h => absurd h (by decide)) (fun _ => ?_)
  refine k_lload_n C dX3_digest_86 1 rfl ?_
  refine k_ldc2 C q804 dX3_digest_87 ?_
  refine k_lmul C dX3_digest_90 ?_
  refine k_aload_n C dX3_digest_91 3 rfl ?_
  refine k_iload_n C dX3_digest_92 0 rfl ?_
  refine k_callV_i C (mX3_ballTold_1 l D cI cJ b0 b1 b2 b3 b4 b5 b6 (X.1, X.2.1, X.2.2.1, X.2.2.2.1, X.2.2.2.2.1, X.2.2.2.2.2.1, 0, X.2.2.2.2.2.2.2)) (cwV 1 C.2.2.2.2.1 (kGV q743 q745 q50 q61 q746) rfl rfl rfl ⟨rfl, hdX3_ballTold⟩ ⟨Nat.le_of_ble_eq_true rfl, Nat.le_of_ble_eq_true rfl⟩) [0, 1, 2, 3, 4, 5, 6] [] [0, 1, 2, 3, 4, 5, 6] [] ([(b0, cM b1 b2 b3 b4 b5 b6 (0, X.2.2.2.2.2.2.2)), (b1, cA9 cI X.1), (b2, cA2 cI X.2.1), (b3, cA2 cI X.2.2.1), (b4, cA2 cI X.2.2.2.1), (b5, cA2 cI X.2.2.2.2.1), (b6, cA9 cI X.2.2.2.2.2.1)]) rfl rfl rfl rfl (by decide) [b0, b1, b2, b3, b4, b5, b6] rfl rfl rfl rfl 0 3 rfl rfl rfl (Nat.le_of_ble_eq_true rfl) ⟨Nat.zero_le _, Nat.zero_le _⟩ rfl dX3_digest_93 ?_
  generalize er19 : fX3_ballTold_1 (X.1, X.2.1, X.2.2.1, X.2.2.2.1, X.2.2.2.2.1, X.2.2.2.2.2.1, 0, X.2.2.2.2.2.2.2) = r19
  refine k_i2l C dX3_digest_96 ?_
  refine k_ladd C dX3_digest_97 ?_
  refine k_lstore_n C [(1, .long ((((((((((((((((((((((((((((((((((((((1801 * 31) + (r1).toInt64) * 31) + (r2).toInt64) * 31) + (r3).toInt64) * 31) + (r4).toInt64) * 31) + (r5).toInt64) * 31) + (r6).toInt64) * 31) + (r7).toInt64) * 31) + (r8).toInt64) * 31) + (r9).toInt64) * 31) + (r10).toInt64) * 31) + (r11).toInt64) * 31) + (r12).toInt64) * 31) + (r13).toInt64) * 31) + (r14).toInt64) * 31) + (r15).toInt64) * 31) + (r16).toInt64) * 31) + (r17).toInt64) * 31) + (r18).toInt64) * 31) + (r19).toInt64)), (3, .int 1), (4, .int 4), (0, .ref b0)] (by decide) rfl dX3_digest_98 ?_
  refine k_iinc C 2 [(3, .int 2), (1, .long ((((((((((((((((((((((((((((((((((((((1801 * 31) + (r1).toInt64) * 31) + (r2).toInt64) * 31) + (r3).toInt64) * 31) + (r4).toInt64) * 31) + (r5).toInt64) * 31) + (r6).toInt64) * 31) + (r7).toInt64) * 31) + (r8).toInt64) * 31) + (r9).toInt64) * 31) + (r10).toInt64) * 31) + (r11).toInt64) * 31) + (r12).toInt64) * 31) + (r13).toInt64) * 31) + (r14).toInt64) * 31) + (r15).toInt64) * 31) + (r16).toInt64) * 31) + (r17).toInt64) * 31) + (r18).toInt64) * 31) + (r19).toInt64)), (4, .int 4), (0, .ref b0)] 1 rfl (by decide) (by decide) rfl dX3_digest_99 ?_
  refine k_goto C 81 (by decide) dX3_digest_102 ?_
  refine k_iload_n C dX3_digest_81 0 rfl ?_
  refine k_iconst C 5 (by decide) dX3_digest_82 ?_
  refine k_icmp_gt C 105 (by decide) dX3_digest_83 (fun h => absurd h (by decide)) (fun _ => ?_)
  refine k_lload_n C dX3_digest_86 1 rfl ?_
  refine k_ldc2 C q804 dX3_digest_87 ?_
  refine k_lmul C dX3_digest_90 ?_
  refine k_aload_n C dX3_digest_91 3 rfl ?_
  refine k_iload_n C dX3_digest_92 0 rfl ?_
  refine k_callV_i C (mX3_ballTold_2 l D cI cJ b0 b1 b2 b3 b4 b5 b6 (X.1, X.2.1, X.2.2.1, X.2.2.2.1, X.2.2.2.2.1, X.2.2.2.2.2.1, 0, X.2.2.2.2.2.2.2)) (cwV 1 C.2.2.2.2.1 (kGV q743 q745 q50 q61 q746) rfl rfl rfl ⟨rfl, hdX3_ballTold⟩ ⟨Nat.le_of_ble_eq_true rfl, Nat.le_of_ble_eq_true rfl⟩) [0, 1, 2, 3, 4, 5, 6] [] [0, 1, 2, 3, 4, 5, 6] [] ([(b0, cM b1 b2 b3 b4 b5 b6 (0, X.2.2.2.2.2.2.2)), (b1, cA9 cI X.1), (b2, cA2 cI X.2.1), (b3, cA2 cI X.2.2.1), (b4, cA2 cI X.2.2.2.1), (b5, cA2 cI X.2.2.2.2.1), (b6, cA9 cI X.2.2.2.2.2.1)]) rfl rfl rfl rfl (by decide) [b0, b1, b2, b3, b4, b5, b6] rfl rfl rfl rfl 0 3 rfl rfl rfl (Nat.le_of_ble_eq_true rfl) ⟨Nat.zero_le _, Nat.zero_le _⟩ rfl dX3_digest_93 ?_
  generalize er20 : fX3_ballTold_2 (X.1, X.2.1, X.2.2.1, X.2.2.2.1, X.2.2.2.2.1, X.2.2.2.2.2.1, 0, X.2.2.2.2.2.2.2) = r20
  refine k_i2l C dX3_digest_96 ?_
  refine k_ladd C dX3_digest_97 ?_
  refine k_lstore_n C [(1, .long ((((((((((((((((((((((((((((((((((((((((1801 * 31) + (r1).toInt64) * 31) + (r2).toInt64) * 31) + (r3).toInt64) * 31) + (r4).toInt64) * 31) + (r5).toInt64) * 31) + (r6).toInt64) * 31) + (r7).toInt64) * 31) + (r8).toInt64) * 31) + (r9).toInt64) * 31) + (r10).toInt64) * 31) + (r11).toInt64) * 31) + (r12).toInt64) * 31) + (r13).toInt64) * 31) + (r14).toInt64) * 31) + (r15).toInt64) * 31) + (r16).toInt64) * 31) + (r17).toInt64) * 31) + (r18).toInt64) * 31) + (r19).toInt64) * 31) + (r20).toInt64)), (3, .int 2), (4, .int 4), (0, .ref b0)] (by decide) rfl dX3_digest_98 ?_
  refine k_iinc C 3 [(3, .int 3), (1, .long ((((((((((((((((((((((((((((((((((((((((1801 * 31) + (r1).toInt64) * 31) + (r2).toInt64) * 31) + (r3).toInt64) * 31) + (r4).toInt64) * 31) + (r5).toInt64) * 31) + (r6).toInt64) * 31) + (r7).toInt64) * 31) + (r8).toInt64) * 31) + (r9).toInt64) * 31) + (r10).toInt64) * 31) + (r11).toInt64) * 31) + (r12).toInt64) * 31) + (r13).toInt64) * 31) + (r14).toInt64) * 31) + (r15).toInt64) * 31) + (r16).toInt64) * 31) + (r17).toInt64) * 31) + (r18).toInt64) * 31) + (r19).toInt64) * 31) + (r20).toInt64)), (4, .int 4), (0, .ref b0)] 1 rfl (by decide) (by decide) rfl dX3_digest_99 ?_
  refine k_goto C 81 (by decide) dX3_digest_102 ?_
  refine k_iload_n C dX3_digest_81 0 rfl ?_
  refine k_iconst C 5 (by decide) dX3_digest_82 ?_
  refine k_icmp_gt C 105 (by decide) dX3_digest_83 (fun h => absurd h (by decide)) (fun _ => ?_)
  refine k_lload_n C dX3_digest_86 1 rfl ?_
  refine k_ldc2 C q804 dX3_digest_87 ?_
  refine k_lmul C dX3_digest_90 ?_
  refine k_aload_n C dX3_digest_91 3 rfl ?_
  refine k_iload_n C dX3_digest_92 0 rfl ?_
  refine k_callV_i C (mX3_ballTold_3 l D cI cJ b0 b1 b2 b3 b4 b5 b6 (X.1, X.2.1, X.2.2.1, X.2.2.2.1, X.2.2.2.2.1, X.2.2.2.2.2.1, 0, X.2.2.2.2.2.2.2)) (cwV 1 C.2.2.2.2.1 (kGV q743 q745 q50 q61 q746) rfl rfl rfl ⟨rfl, hdX3_ballTold⟩ ⟨Nat.le_of_ble_eq_true rfl, Nat.le_of_ble_eq_true rfl⟩) [0, 1, 2, 3, 4, 5, 6] [] [0, 1, 2, 3, 4, 5, 6] [] ([(b0, cM b1 b2 b3 b4 b5 b6 (0, X.2.2.2.2.2.2.2)), (b1, cA9 cI X.1), (b2, cA2 cI X.2.1), (b3, cA2 cI X.2.2.1), (b4, cA2 cI X.2.2.2.1), (b5, cA2 cI X.2.2.2.2.1), (b6, cA9 cI X.2.2.2.2.2.1)]) rfl rfl rfl rfl (by decide) [b0, b1, b2, b3, b4, b5, b6] rfl rfl rfl rfl 0 3 rfl rfl rfl (Nat.le_of_ble_eq_true rfl) ⟨Nat.zero_le _, Nat.zero_le _⟩ rfl dX3_digest_93 ?_
  generalize er21 : fX3_ballTold_3 (X.1, X.2.1, X.2.2.1, X.2.2.2.1, X.2.2.2.2.1, X.2.2.2.2.2.1, 0, X.2.2.2.2.2.2.2) = r21
  refine k_i2l C dX3_digest_96 ?_
  refine k_ladd C dX3_digest_97 ?_
  refine k_lstore_n C [(1, .long ((((((((((((((((((((((((((((((((((((((((((1801 * 31) + (r1).toInt64) * 31) + (r2).toInt64) * 31) + (r3).toInt64) * 31) + (r4).toInt64) * 31) + (r5).toInt64) * 31) + (r6).toInt64) * 31) + (r7).toInt64) * 31) + (r8).toInt64) * 31) + (r9).toInt64) * 31) + (r10).toInt64) * 31) + (r11).toInt64) * 31) + (r12).toInt64) * 31) + (r13).toInt64) * 31) + (r14).toInt64) * 31) + (r15).toInt64) * 31) + (r16).toInt64) * 31) + (r17).toInt64) * 31) + (r18).toInt64) * 31) + (r19).toInt64) * 31) + (r20).toInt64) * 31) + (r21).toInt64)), (3, .int 3), (4, .int 4), (0, .ref b0)] (by decide) rfl dX3_digest_98 ?_
  refine k_iinc C 4 [(3, .int 4), (1, .long ((((((((((((((((((((((((((((((((((((((((((1801 * 31) + (r1).toInt64) * 31) + (r2).toInt64) * 31) + (r3).toInt64) * 31) + (r4).toInt64) * 31) + (r5).toInt64) * 31) + (r6).toInt64) * 31) + (r7).toInt64) * 31) + (r8).toInt64) * 31) + (r9).toInt64) * 31) + (r10).toInt64) * 31) + (r11).toInt64) * 31) + (r12).toInt64) * 31) + (r13).toInt64) * 31) + (r14).toInt64) * 31) + (r15).toInt64) * 31) + (r16).toInt64) * 31) + (r17).toInt64) * 31) + (r18).toInt64) * 31) + (r19).toInt64) * 31) + (r20).toInt64) * 31) + (r21).toInt64)), (4, .int 4), (0, .ref b0)] 1 rfl (by decide) (by decide) rfl dX3_digest_99 ?_
  refine k_goto C 81 (by decide) dX3_digest_102 ?_
  refine k_iload_n C dX3_digest_81 0 rfl ?_
  refine k_iconst C 5 (by decide) dX3_digest_82 ?_
  refine k_icmp_gt C 105 (by decide) dX3_digest_83 (fun h => absurd h (by decide)) (fun _ => ?_)
  refine k_lload_n C dX3_digest_86 1 rfl ?_
  refine k_ldc2 C q804 dX3_digest_87 ?_
  refine k_lmul C dX3_digest_90 ?_
  refine k_aload_n C dX3_digest_91 3 rfl ?_
  refine k_iload_n C dX3_digest_92 0 rfl ?_
  refine k_callV_i C (mX3_ballTold_4 l D cI cJ b0 b1 b2 b3 b4 b5 b6 (X.1, X.2.1, X.2.2.1, X.2.2.2.1, X.2.2.2.2.1, X.2.2.2.2.2.1, 0, X.2.2.2.2.2.2.2)) (cwV 1 C.2.2.2.2.1 (kGV q743 q745 q50 q61 q746) rfl rfl rfl ⟨rfl, hdX3_ballTold⟩ ⟨Nat.le_of_ble_eq_true rfl, Nat.le_of_ble_eq_true rfl⟩) [0, 1, 2, 3, 4, 5, 6] [] [0, 1, 2, 3, 4, 5, 6] [] ([(b0, cM b1 b2 b3 b4 b5 b6 (0, X.2.2.2.2.2.2.2)), (b1, cA9 cI X.1), (b2, cA2 cI X.2.1), (b3, cA2 cI X.2.2.1), (b4, cA2 cI X.2.2.2.1), (b5, cA2 cI X.2.2.2.2.1), (b6, cA9 cI X.2.2.2.2.2.1)]) rfl rfl rfl rfl (by decide) [b0, b1, b2, b3, b4, b5, b6] rfl rfl rfl rfl 0 3 rfl rfl rfl (Nat.le_of_ble_eq_true rfl) ⟨Nat.zero_le _, Nat.zero_le _⟩ rfl dX3_digest_93 ?_
  generalize er22 : fX3_ballTold_4 (X.1, X.2.1, X.2.2.1, X.2.2.2.1, X.2.2.2.2.1, X.2.2.2.2.2.1, 0, X.2.2.2.2.2.2.2) = r22
  refine k_i2l C dX3_digest_96 ?_
  refine k_ladd C dX3_digest_97 ?_
  refine k_lstore_n C [(1, .long ((((((((((((((((((((((((((((((((((((((((((((1801 * 31) + (r1).toInt64) * 31) + (r2).toInt64) * 31) + (r3).toInt64) * 31) + (r4).toInt64) * 31) + (r5).toInt64) * 31) + (r6).toInt64) * 31) + (r7).toInt64) * 31) + (r8).toInt64) * 31) + (r9).toInt64) * 31) + (r10).toInt64) * 31) + (r11).toInt64) * 31) + (r12).toInt64) * 31) + (r13).toInt64) * 31) + (r14).toInt64) * 31) + (r15).toInt64) * 31) + (r16).toInt64) * 31) + (r17).toInt64) * 31) + (r18).toInt64) * 31) + (r19).toInt64) * 31) + (r20).toInt64) * 31) + (r21).toInt64) * 31) + (r22).toInt64)), (3, .int 4), (4, .int 4), (0, .ref b0)] (by decide) rfl dX3_digest_98 ?_
  refine k_iinc C 5 [(3, .int 5), (1, .long ((((((((((((((((((((((((((((((((((((((((((((1801 * 31) + (r1).toInt64) * 31) + (r2).toInt64) * 31) + (r3).toInt64) * 31) + (r4).toInt64) * 31) + (r5).toInt64) * 31) + (r6).toInt64) * 31) + (r7).toInt64) * 31) + (r8).toInt64) * 31) + (r9).toInt64) * 31) + (r10).toInt64) * 31) + (r11).toInt64) * 31) + (r12).toInt64) * 31) + (r13).toInt64) * 31) + (r14).toInt64) * 31) + (r15).toInt64) * 31) + (r16).toInt64) * 31) + (r17).toInt64) * 31) + (r18).toInt64) * 31) + (r19).toInt64) * 31) + (r20).toInt64) * 31) + (r21).toInt64) * 31) + (r22).toInt64)), (4, .int 4), (0, .ref b0)] 1 rfl (by decide) (by decide) rfl dX3_digest_99 ?_
  refine k_goto C 81 (by decide) dX3_digest_102 ?_
  refine k_iload_n C dX3_digest_81 0 rfl ?_
  refine k_iconst C 5 (by decide) dX3_digest_82 ?_
  refine k_icmp_gt C 105 (by decide) dX3_digest_83 (fun h => absurd h (by decide)) (fun _ => ?_)
  refine k_lload_n C dX3_digest_86 1 rfl ?_
  refine k_ldc2 C q804 dX3_digest_87 ?_
  refine k_lmul C dX3_digest_90 ?_
  refine k_aload_n C dX3_digest_91 3 rfl ?_
  refine k_iload_n C dX3_digest_92 0 rfl ?_
  refine k_callV_i C (mX3_ballTold_5 l D cI cJ b0 b1 b2 b3 b4 b5 b6 (X.1, X.2.1, X.2.2.1, X.2.2.2.1, X.2.2.2.2.1, X.2.2.2.2.2.1, 0, X.2.2.2.2.2.2.2)) (cwV 1 C.2.2.2.2.1 (kGV q743 q745 q50 q61 q746) rfl rfl rfl ⟨rfl, hdX3_ballTold⟩ ⟨Nat.le_of_ble_eq_true rfl, Nat.le_of_ble_eq_true rfl⟩) [0, 1, 2, 3, 4, 5, 6] [] [0, 1, 2, 3, 4, 5, 6] [] ([(b0, cM b1 b2 b3 b4 b5 b6 (0, X.2.2.2.2.2.2.2)), (b1, cA9 cI X.1), (b2, cA2 cI X.2.1), (b3, cA2 cI X.2.2.1), (b4, cA2 cI X.2.2.2.1), (b5, cA2 cI X.2.2.2.2.1), (b6, cA9 cI X.2.2.2.2.2.1)]) rfl rfl rfl rfl (by decide) [b0, b1, b2, b3, b4, b5, b6] rfl rfl rfl rfl 0 3 rfl rfl rfl (Nat.le_of_ble_eq_true rfl) ⟨Nat.zero_le _, Nat.zero_le _⟩ rfl dX3_digest_93 ?_
  generalize er23 : fX3_ballTold_5 (X.1, X.2.1, X.2.2.1, X.2.2.2.1, X.2.2.2.2.1, X.2.2.2.2.2.1, 0, X.2.2.2.2.2.2.2) = r23
  refine k_i2l C dX3_digest_96 ?_
  refine k_ladd C dX3_digest_97 ?_
  refine k_lstore_n C [(1, .long ((((((((((((((((((((((((((((((((((((((((((((((1801 * 31) + (r1).toInt64) * 31) + (r2).toInt64) * 31) + (r3).toInt64) * 31) + (r4).toInt64) * 31) + (r5).toInt64) * 31) + (r6).toInt64) * 31) + (r7).toInt64) * 31) + (r8).toInt64) * 31) + (r9).toInt64) * 31) + (r10).toInt64) * 31) + (r11).toInt64) * 31) + (r12).toInt64) * 31) + (r13).toInt64) * 31) + (r14).toInt64) * 31) + (r15).toInt64) * 31) + (r16).toInt64) * 31) + (r17).toInt64) * 31) + (r18).toInt64) * 31) + (r19).toInt64) * 31) + (r20).toInt64) * 31) + (r21).toInt64) * 31) + (r22).toInt64) * 31) + (r23).toInt64)), (3, .int 5), (4, .int 4), (0, .ref b0)] (by decide) rfl dX3_digest_98 ?_
  refine k_iinc C 6 [(3, .int 6), (1, .long ((((((((((((((((((((((((((((((((((((((((((((((1801 * 31) + (r1).toInt64) * 31) + (r2).toInt64) * 31) + (r3).toInt64) * 31) + (r4).toInt64) * 31) + (r5).toInt64) * 31) + (r6).toInt64) * 31) + (r7).toInt64) * 31) + (r8).toInt64) * 31) + (r9).toInt64) * 31) + (r10).toInt64) * 31) + (r11).toInt64) * 31) + (r12).toInt64) * 31) + (r13).toInt64) * 31) + (r14).toInt64) * 31) + (r15).toInt64) * 31) + (r16).toInt64) * 31) + (r17).toInt64) * 31) + (r18).toInt64) * 31) + (r19).toInt64) * 31) + (r20).toInt64) * 31) + (r21).toInt64) * 31) + (r22).toInt64) * 31) + (r23).toInt64)), (4, .int 4), (0, .ref b0)] 1 rfl (by decide) (by decide) rfl dX3_digest_99 ?_
  refine k_goto C 81 (by decide) dX3_digest_102 ?_
  refine k_iload_n C dX3_digest_81 0 rfl ?_
  refine k_iconst C 5 (by decide) dX3_digest_82 ?_
  refine k_icmp_gt C 105 (by decide) dX3_digest_83 (fun _ => ?_) (fun h => absurd (by decide) h)
  refine k_iconst C 0 (by decide) dX3_digest_105 ?_
  refine k_istore_n C [(3, .int 0), (1, .long ((((((((((((((((((((((((((((((((((((((((((((((1801 * 31) + (r1).toInt64) * 31) + (r2).toInt64) * 31) + (r3).toInt64) * 31) + (r4).toInt64) * 31) + (r5).toInt64) * 31) + (r6).toInt64) * 31) + (r7).toInt64) * 31) + (r8).toInt64) * 31) + (r9).toInt64) * 31) + (r10).toInt64) * 31) + (r11).toInt64) * 31) + (r12).toInt64) * 31) + (r13).toInt64) * 31) + (r14).toInt64) * 31) + (r15).toInt64) * 31) + (r16).toInt64) * 31) + (r17).toInt64) * 31) + (r18).toInt64) * 31) + (r19).toInt64) * 31) + (r20).toInt64) * 31) + (r21).toInt64) * 31) + (r22).toInt64) * 31) + (r23).toInt64)), (4, .int 4), (0, .ref b0)] (by decide) rfl dX3_digest_106 ?_
  refine k_iload_n C dX3_digest_107 0 rfl ?_
  refine k_iconst C 4 (by decide) dX3_digest_108 ?_
  refine k_icmp_gt C 131 (by decide) dX3_digest_109 (fun h => absurd h (by decide)) (fun _ => ?_)
  refine k_lload_n C dX3_digest_112 1 rfl ?_
  refine k_ldc2 C q804 dX3_digest_113 ?_
  refine k_lmul C dX3_digest_116 ?_
  refine k_aload_n C dX3_digest_117 3 rfl ?_
  refine k_iload_n C dX3_digest_118 0 rfl ?_
  refine k_callV_i C (mX3_endTold_0 l D cI cJ b0 b1 b2 b3 b4 b5 b6 (X.1, X.2.1, X.2.2.1, X.2.2.2.1, X.2.2.2.2.1, X.2.2.2.2.2.1, 0, X.2.2.2.2.2.2.2) (by subst er23; subst er22; subst er21; subst er20; subst er19; subst er18; subst er17; subst er16; subst er15; subst er14; subst er13; subst er12; subst er11; subst er10; subst er9; subst er8; subst er7; subst er6; subst er5; subst er4; subst er3; subst er2; subst er1; exact hN0)) (cwV 1 C.2.2.2.2.1 (kGV q771 q773 q53 q61 q774) rfl rfl rfl ⟨rfl, hdX3_endTold⟩ ⟨Nat.le_of_ble_eq_true rfl, Nat.le_of_ble_eq_true rfl⟩) [0, 1, 2, 3, 4, 5, 6] [] [0, 1, 2, 3, 4, 5, 6] [] (wM cI b0 b1 b2 b3 b4 b5 b6 (fX3_endTold_0 (X.1, X.2.1, X.2.2.1, X.2.2.2.1, X.2.2.2.2.1, X.2.2.2.2.2.1, 0, X.2.2.2.2.2.2.2)).2) rfl rfl rfl rfl (by decide) [b0, b1, b2, b3, b4, b5, b6] rfl rfl rfl rfl 0 3 rfl rfl rfl (Nat.le_of_ble_eq_true rfl) ⟨Nat.zero_le _, Nat.zero_le _⟩ rfl dX3_digest_119 ?_
  generalize ez24 : fX3_endTold_0 (X.1, X.2.1, X.2.2.1, X.2.2.2.1, X.2.2.2.2.1, X.2.2.2.2.2.1, 0, X.2.2.2.2.2.2.2) = z24
  refine k_i2l C dX3_digest_122 ?_
  refine k_ladd C dX3_digest_123 ?_
  refine k_lstore_n C [(1, .long ((((((((((((((((((((((((((((((((((((((((((((((((1801 * 31) + (r1).toInt64) * 31) + (r2).toInt64) * 31) + (r3).toInt64) * 31) + (r4).toInt64) * 31) + (r5).toInt64) * 31) + (r6).toInt64) * 31) + (r7).toInt64) * 31) + (r8).toInt64) * 31) + (r9).toInt64) * 31) + (r10).toInt64) * 31) + (r11).toInt64) * 31) + (r12).toInt64) * 31) + (r13).toInt64) * 31) + (r14).toInt64) * 31) + (r15).toInt64) * 31) + (r16).toInt64) * 31) + (r17).toInt64) * 31) + (r18).toInt64) * 31) + (r19).toInt64) * 31) + (r20).toInt64) * 31) + (r21).toInt64) * 31) + (r22).toInt64) * 31) + (r23).toInt64) * 31) + (z24.1).toInt64)), (3, .int 0), (4, .int 4), (0, .ref b0)] (by decide) rfl dX3_digest_124 ?_
  refine k_iinc C 1 [(3, .int 1), (1, .long ((((((((((((((((((((((((((((((((((((((((((((((((1801 * 31) + (r1).toInt64) * 31) + (r2).toInt64) * 31) + (r3).toInt64) * 31) + (r4).toInt64) * 31) + (r5).toInt64) * 31) + (r6).toInt64) * 31) + (r7).toInt64) * 31) + (r8).toInt64) * 31) + (r9).toInt64) * 31) + (r10).toInt64) * 31) + (r11).toInt64) * 31) + (r12).toInt64) * 31) + (r13).toInt64) * 31) + (r14).toInt64) * 31) + (r15).toInt64) * 31) + (r16).toInt64) * 31) + (r17).toInt64) * 31) + (r18).toInt64) * 31) + (r19).toInt64) * 31) + (r20).toInt64) * 31) + (r21).toInt64) * 31) + (r22).toInt64) * 31) + (r23).toInt64) * 31) + (z24.1).toInt64)), (4, .int 4), (0, .ref b0)] 1 rfl (by decide) (by decide) rfl dX3_digest_125 ?_
  refine k_goto C 107 (by decide) dX3_digest_128 ?_
  refine k_iload_n C dX3_digest_107 0 rfl ?_
  refine k_iconst C 4 (by decide) dX3_digest_108 ?_
  refine k_icmp_gt C 131 (by decide) dX3_digest_109 (fun h => absurd h (by decide)) (fun _ => ?_)
  refine k_lload_n C dX3_digest_112 1 rfl ?_
  refine k_ldc2 C q804 dX3_digest_113 ?_
  refine k_lmul C dX3_digest_116 ?_
  refine k_aload_n C dX3_digest_117 3 rfl ?_
  refine k_iload_n C dX3_digest_118 0 rfl ?_
  refine k_callV_i C (mX3_endTold_1 l D cI cJ b0 b1 b2 b3 b4 b5 b6 z24.2 (by subst ez24; subst er23; subst er22; subst er21; subst er20; subst er19; subst er18; subst er17; subst er16; subst er15; subst er14; subst er13; subst er12; subst er11; subst er10; subst er9; subst er8; subst er7; subst er6; subst er5; subst er4; subst er3; subst er2; subst er1; exact hN1)) (cwV 1 C.2.2.2.2.1 (kGV q771 q773 q53 q61 q774) rfl rfl rfl ⟨rfl, hdX3_endTold⟩ ⟨Nat.le_of_ble_eq_true rfl, Nat.le_of_ble_eq_true rfl⟩) [0, 1, 2, 3, 4, 5, 6] [] [0, 1, 2, 3, 4, 5, 6] [] (wM cI b0 b1 b2 b3 b4 b5 b6 (fX3_endTold_1 z24.2).2) rfl rfl rfl rfl (by decide) [b0, b1, b2, b3, b4, b5, b6] rfl rfl rfl rfl 0 3 rfl rfl rfl (Nat.le_of_ble_eq_true rfl) ⟨Nat.zero_le _, Nat.zero_le _⟩ rfl dX3_digest_119 ?_
  generalize ez25 : fX3_endTold_1 z24.2 = z25
  refine k_i2l C dX3_digest_122 ?_
  refine k_ladd C dX3_digest_123 ?_
  refine k_lstore_n C [(1, .long ((((((((((((((((((((((((((((((((((((((((((((((((((1801 * 31) + (r1).toInt64) * 31) + (r2).toInt64) * 31) + (r3).toInt64) * 31) + (r4).toInt64) * 31) + (r5).toInt64) * 31) + (r6).toInt64) * 31) + (r7).toInt64) * 31) + (r8).toInt64) * 31) + (r9).toInt64) * 31) + (r10).toInt64) * 31) + (r11).toInt64) * 31) + (r12).toInt64) * 31) + (r13).toInt64) * 31) + (r14).toInt64) * 31) + (r15).toInt64) * 31) + (r16).toInt64) * 31) + (r17).toInt64) * 31) + (r18).toInt64) * 31) + (r19).toInt64) * 31) + (r20).toInt64) * 31) + (r21).toInt64) * 31) + (r22).toInt64) * 31) + (r23).toInt64) * 31) + (z24.1).toInt64) * 31) + (z25.1).toInt64)), (3, .int 1), (4, .int 4), (0, .ref b0)] (by decide) rfl dX3_digest_124 ?_
  refine k_iinc C 2 [(3, .int 2), (1, .long ((((((((((((((((((((((((((((((((((((((((((((((((((1801 * 31) + (r1).toInt64) * 31) + (r2).toInt64) * 31) + (r3).toInt64) * 31) + (r4).toInt64) * 31) + (r5).toInt64) * 31) + (r6).toInt64) * 31) + (r7).toInt64) * 31) + (r8).toInt64) * 31) + (r9).toInt64) * 31) + (r10).toInt64) * 31) + (r11).toInt64) * 31) + (r12).toInt64) * 31) + (r13).toInt64) * 31) + (r14).toInt64) * 31) + (r15).toInt64) * 31) + (r16).toInt64) * 31) + (r17).toInt64) * 31) + (r18).toInt64) * 31) + (r19).toInt64) * 31) + (r20).toInt64) * 31) + (r21).toInt64) * 31) + (r22).toInt64) * 31) + (r23).toInt64) * 31) + (z24.1).toInt64) * 31) + (z25.1).toInt64)), (4, .int 4), (0, .ref b0)] 1 rfl (by decide) (by decide) rfl dX3_digest_125 ?_
  refine k_goto C 107 (by decide) dX3_digest_128 ?_
  refine k_iload_n C dX3_digest_107 0 rfl ?_
  refine k_iconst C 4 (by decide) dX3_digest_108 ?_
  refine k_icmp_gt C 131 (by decide) dX3_digest_109 (fun h => absurd h (by decide)) (fun _ => ?_)
  refine k_lload_n C dX3_digest_112 1 rfl ?_
  refine k_ldc2 C q804 dX3_digest_113 ?_
  refine k_lmul C dX3_digest_116 ?_
  refine k_aload_n C dX3_digest_117 3 rfl ?_
  refine k_iload_n C dX3_digest_118 0 rfl ?_
  refine k_callV_i C (mX3_endTold_2 l D cI cJ b0 b1 b2 b3 b4 b5 b6 z25.2 (by subst ez25; subst ez24; subst er23; subst er22; subst er21; subst er20; subst er19; subst er18; subst er17; subst er16; subst er15; subst er14; subst er13; subst er12; subst er11; subst er10; subst er9; subst er8; subst er7; subst er6; subst er5; subst er4; subst er3; subst er2; subst er1; exact hN2)) (cwV 1 C.2.2.2.2.1 (kGV q771 q773 q53 q61 q774) rfl rfl rfl ⟨rfl, hdX3_endTold⟩ ⟨Nat.le_of_ble_eq_true rfl, Nat.le_of_ble_eq_true rfl⟩) [0, 1, 2, 3, 4, 5, 6] [] [0, 1, 2, 3, 4, 5, 6] [] (wM cI b0 b1 b2 b3 b4 b5 b6 (fX3_endTold_2 z25.2).2) rfl rfl rfl rfl (by decide) [b0, b1, b2, b3, b4, b5, b6] rfl rfl rfl rfl 0 3 rfl rfl rfl (Nat.le_of_ble_eq_true rfl) ⟨Nat.zero_le _, Nat.zero_le _⟩ rfl dX3_digest_119 ?_
  generalize ez26 : fX3_endTold_2 z25.2 = z26
  refine k_i2l C dX3_digest_122 ?_
  refine k_ladd C dX3_digest_123 ?_
  refine k_lstore_n C [(1, .long ((((((((((((((((((((((((((((((((((((((((((((((((((((1801 * 31) + (r1).toInt64) * 31) + (r2).toInt64) * 31) + (r3).toInt64) * 31) + (r4).toInt64) * 31) + (r5).toInt64) * 31) + (r6).toInt64) * 31) + (r7).toInt64) * 31) + (r8).toInt64) * 31) + (r9).toInt64) * 31) + (r10).toInt64) * 31) + (r11).toInt64) * 31) + (r12).toInt64) * 31) + (r13).toInt64) * 31) + (r14).toInt64) * 31) + (r15).toInt64) * 31) + (r16).toInt64) * 31) + (r17).toInt64) * 31) + (r18).toInt64) * 31) + (r19).toInt64) * 31) + (r20).toInt64) * 31) + (r21).toInt64) * 31) + (r22).toInt64) * 31) + (r23).toInt64) * 31) + (z24.1).toInt64) * 31) + (z25.1).toInt64) * 31) + (z26.1).toInt64)), (3, .int 2), (4, .int 4), (0, .ref b0)] (by decide) rfl dX3_digest_124 ?_
  refine k_iinc C 3 [(3, .int 3), (1, .long ((((((((((((((((((((((((((((((((((((((((((((((((((((1801 * 31) + (r1).toInt64) * 31) + (r2).toInt64) * 31) + (r3).toInt64) * 31) + (r4).toInt64) * 31) + (r5).toInt64) * 31) + (r6).toInt64) * 31) + (r7).toInt64) * 31) + (r8).toInt64) * 31) + (r9).toInt64) * 31) + (r10).toInt64) * 31) + (r11).toInt64) * 31) + (r12).toInt64) * 31) + (r13).toInt64) * 31) + (r14).toInt64) * 31) + (r15).toInt64) * 31) + (r16).toInt64) * 31) + (r17).toInt64) * 31) + (r18).toInt64) * 31) + (r19).toInt64) * 31) + (r20).toInt64) * 31) + (r21).toInt64) * 31) + (r22).toInt64) * 31) + (r23).toInt64) * 31) + (z24.1).toInt64) * 31) + (z25.1).toInt64) * 31) + (z26.1).toInt64)), (4, .int 4), (0, .ref b0)] 1 rfl (by decide) (by decide) rfl dX3_digest_125 ?_
  refine k_goto C 107 (by decide) dX3_digest_128 ?_
  refine k_iload_n C dX3_digest_107 0 rfl ?_
  refine k_iconst C 4 (by decide) dX3_digest_108 ?_
  refine k_icmp_gt C 131 (by decide) dX3_digest_109 (fun h => absurd h (by decide)) (fun _ => ?_)
  refine k_lload_n C dX3_digest_112 1 rfl ?_
  refine k_ldc2 C q804 dX3_digest_113 ?_
  refine k_lmul C dX3_digest_116 ?_
  refine k_aload_n C dX3_digest_117 3 rfl ?_
  refine k_iload_n C dX3_digest_118 0 rfl ?_
  refine k_callV_i C (mX3_endTold_3 l D cI cJ b0 b1 b2 b3 b4 b5 b6 z26.2 (by subst ez26; subst ez25; subst ez24; subst er23; subst er22; subst er21; subst er20; subst er19; subst er18; subst er17; subst er16; subst er15; subst er14; subst er13; subst er12; subst er11; subst er10; subst er9; subst er8; subst er7; subst er6; subst er5; subst er4; subst er3; subst er2; subst er1; exact hN3)) (cwV 1 C.2.2.2.2.1 (kGV q771 q773 q53 q61 q774) rfl rfl rfl ⟨rfl, hdX3_endTold⟩ ⟨Nat.le_of_ble_eq_true rfl, Nat.le_of_ble_eq_true rfl⟩) [0, 1, 2, 3, 4, 5, 6] [] [0, 1, 2, 3, 4, 5, 6] [] (wM cI b0 b1 b2 b3 b4 b5 b6 (fX3_endTold_3 z26.2).2) rfl rfl rfl rfl (by decide) [b0, b1, b2, b3, b4, b5, b6] rfl rfl rfl rfl 0 3 rfl rfl rfl (Nat.le_of_ble_eq_true rfl) ⟨Nat.zero_le _, Nat.zero_le _⟩ rfl dX3_digest_119 ?_
  generalize ez27 : fX3_endTold_3 z26.2 = z27
  refine k_i2l C dX3_digest_122 ?_
  refine k_ladd C dX3_digest_123 ?_
  refine k_lstore_n C [(1, .long ((((((((((((((((((((((((((((((((((((((((((((((((((((((1801 * 31) + (r1).toInt64) * 31) + (r2).toInt64) * 31) + (r3).toInt64) * 31) + (r4).toInt64) * 31) + (r5).toInt64) * 31) + (r6).toInt64) * 31) + (r7).toInt64) * 31) + (r8).toInt64) * 31) + (r9).toInt64) * 31) + (r10).toInt64) * 31) + (r11).toInt64) * 31) + (r12).toInt64) * 31) + (r13).toInt64) * 31) + (r14).toInt64) * 31) + (r15).toInt64) * 31) + (r16).toInt64) * 31) + (r17).toInt64) * 31) + (r18).toInt64) * 31) + (r19).toInt64) * 31) + (r20).toInt64) * 31) + (r21).toInt64) * 31) + (r22).toInt64) * 31) + (r23).toInt64) * 31) + (z24.1).toInt64) * 31) + (z25.1).toInt64) * 31) + (z26.1).toInt64) * 31) + (z27.1).toInt64)), (3, .int 3), (4, .int 4), (0, .ref b0)] (by decide) rfl dX3_digest_124 ?_
  refine k_iinc C 4 [(3, .int 4), (1, .long ((((((((((((((((((((((((((((((((((((((((((((((((((((((1801 * 31) + (r1).toInt64) * 31) + (r2).toInt64) * 31) + (r3).toInt64) * 31) + (r4).toInt64) * 31) + (r5).toInt64) * 31) + (r6).toInt64) * 31) + (r7).toInt64) * 31) + (r8).toInt64) * 31) + (r9).toInt64) * 31) + (r10).toInt64) * 31) + (r11).toInt64) * 31) + (r12).toInt64) * 31) + (r13).toInt64) * 31) + (r14).toInt64) * 31) + (r15).toInt64) * 31) + (r16).toInt64) * 31) + (r17).toInt64) * 31) + (r18).toInt64) * 31) + (r19).toInt64) * 31) + (r20).toInt64) * 31) + (r21).toInt64) * 31) + (r22).toInt64) * 31) + (r23).toInt64) * 31) + (z24.1).toInt64) * 31) + (z25.1).toInt64) * 31) + (z26.1).toInt64) * 31) + (z27.1).toInt64)), (4, .int 4), (0, .ref b0)] 1 rfl (by decide) (by decide) rfl dX3_digest_125 ?_
  refine k_goto C 107 (by decide) dX3_digest_128 ?_
  refine k_iload_n C dX3_digest_107 0 rfl ?_
  refine k_iconst C 4 (by decide) dX3_digest_108 ?_
  refine k_icmp_gt C 131 (by decide) dX3_digest_109 (fun h => absurd h (by decide)) (fun _ => ?_)
  refine k_lload_n C dX3_digest_112 1 rfl ?_
  refine k_ldc2 C q804 dX3_digest_113 ?_
  refine k_lmul C dX3_digest_116 ?_
  refine k_aload_n C dX3_digest_117 3 rfl ?_
  refine k_iload_n C dX3_digest_118 0 rfl ?_
  refine k_callV_i C (mX3_endTold_4 l D cI cJ b0 b1 b2 b3 b4 b5 b6 z27.2 (by subst ez27; subst ez26; subst ez25; subst ez24; subst er23; subst er22; subst er21; subst er20; subst er19; subst er18; subst er17; subst er16; subst er15; subst er14; subst er13; subst er12; subst er11; subst er10; subst er9; subst er8; subst er7; subst er6; subst er5; subst er4; subst er3; subst er2; subst er1; exact hN4)) (cwV 1 C.2.2.2.2.1 (kGV q771 q773 q53 q61 q774) rfl rfl rfl ⟨rfl, hdX3_endTold⟩ ⟨Nat.le_of_ble_eq_true rfl, Nat.le_of_ble_eq_true rfl⟩) [0, 1, 2, 3, 4, 5, 6] [] [0, 1, 2, 3, 4, 5, 6] [] (wM cI b0 b1 b2 b3 b4 b5 b6 (fX3_endTold_4 z27.2).2) rfl rfl rfl rfl (by decide) [b0, b1, b2, b3, b4, b5, b6] rfl rfl rfl rfl 0 3 rfl rfl rfl (Nat.le_of_ble_eq_true rfl) ⟨Nat.zero_le _, Nat.zero_le _⟩ rfl dX3_digest_119 ?_
  generalize ez28 : fX3_endTold_4 z27.2 = z28
  refine k_i2l C dX3_digest_122 ?_
  refine k_ladd C dX3_digest_123 ?_
  refine k_lstore_n C [(1, .long ((((((((((((((((((((((((((((((((((((((((((((((((((((((((1801 * 31) + (r1).toInt64) * 31) + (r2).toInt64) * 31) + (r3).toInt64) * 31) + (r4).toInt64) * 31) + (r5).toInt64) * 31) + (r6).toInt64) * 31) + (r7).toInt64) * 31) + (r8).toInt64) * 31) + (r9).toInt64) * 31) + (r10).toInt64) * 31) + (r11).toInt64) * 31) + (r12).toInt64) * 31) + (r13).toInt64) * 31) + (r14).toInt64) * 31) + (r15).toInt64) * 31) + (r16).toInt64) * 31) + (r17).toInt64) * 31) + (r18).toInt64) * 31) + (r19).toInt64) * 31) + (r20).toInt64) * 31) + (r21).toInt64) * 31) + (r22).toInt64) * 31) + (r23).toInt64) * 31) + (z24.1).toInt64) * 31) + (z25.1).toInt64) * 31) + (z26.1).toInt64) * 31) + (z27.1).toInt64) * 31) + (z28.1).toInt64)), (3, .int 4), (4, .int 4), (0, .ref b0)] (by decide) rfl dX3_digest_124 ?_
  refine k_iinc C 5 [(3, .int 5), (1, .long ((((((((((((((((((((((((((((((((((((((((((((((((((((((((1801 * 31) + (r1).toInt64) * 31) + (r2).toInt64) * 31) + (r3).toInt64) * 31) + (r4).toInt64) * 31) + (r5).toInt64) * 31) + (r6).toInt64) * 31) + (r7).toInt64) * 31) + (r8).toInt64) * 31) + (r9).toInt64) * 31) + (r10).toInt64) * 31) + (r11).toInt64) * 31) + (r12).toInt64) * 31) + (r13).toInt64) * 31) + (r14).toInt64) * 31) + (r15).toInt64) * 31) + (r16).toInt64) * 31) + (r17).toInt64) * 31) + (r18).toInt64) * 31) + (r19).toInt64) * 31) + (r20).toInt64) * 31) + (r21).toInt64) * 31) + (r22).toInt64) * 31) + (r23).toInt64) * 31) + (z24.1).toInt64) * 31) + (z25.1).toInt64) * 31) + (z26.1).toInt64) * 31) + (z27.1).toInt64) * 31) + (z28.1).toInt64)), (4, .int 4), (0, .ref b0)] 1 rfl (by decide) (by decide) rfl dX3_digest_125 ?_
  refine k_goto C 107 (by decide) dX3_digest_128 ?_
  refine k_iload_n C dX3_digest_107 0 rfl ?_
  refine k_iconst C 4 (by decide) dX3_digest_108 ?_
  refine k_icmp_gt C 131 (by decide) dX3_digest_109 (fun _ => ?_) (fun h => absurd (by decide) h)
  refine k_lload_n C dX3_digest_131 1 rfl ?_
  have hL : fX3_digest X = (((((((((((((((((((((((((((((((((((((((((((((((((((((((((1801 * 31) + (r1).toInt64) * 31) + (r2).toInt64) * 31) + (r3).toInt64) * 31) + (r4).toInt64) * 31) + (r5).toInt64) * 31) + (r6).toInt64) * 31) + (r7).toInt64) * 31) + (r8).toInt64) * 31) + (r9).toInt64) * 31) + (r10).toInt64) * 31) + (r11).toInt64) * 31) + (r12).toInt64) * 31) + (r13).toInt64) * 31) + (r14).toInt64) * 31) + (r15).toInt64) * 31) + (r16).toInt64) * 31) + (r17).toInt64) * 31) + (r18).toInt64) * 31) + (r19).toInt64) * 31) + (r20).toInt64) * 31) + (r21).toInt64) * 31) + (r22).toInt64) * 31) + (r23).toInt64) * 31) + (z24.1).toInt64) * 31) + (z25.1).toInt64) * 31) + (z26.1).toInt64) * 31) + (z27.1).toInt64) * 31) + (z28.1).toInt64), z28.2) := by subst ez28; subst ez27; subst ez26; subst ez25; subst ez24; subst er23; subst er22; subst er21; subst er20; subst er19; subst er18; subst er17; subst er16; subst er15; subst er14; subst er13; subst er12; subst er11; subst er10; subst er9; subst er8; subst er7; subst er6; subst er5; subst er4; subst er3; subst er2; subst er1; exact rfl
  exact k_lret C rfl (by rw [hL]) (by rw [hL]) dX3_digest_132
