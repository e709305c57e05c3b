/-! the ball by hand -/
/-- what holds of a match by hand, with a ball or without one -/
def wSim (cI cJ : ClassId) (z0 : Nat) (Z : Zs) (β : Option Lb) (U : va_W) : Prop :=
  (β = none ∧ ∃ z1 z2 z3 : Nat, U = wZ cI cJ z0 z1 z2 z3 .null Z) ∨ (∃ b, β = some b ∧ ∃ z1 z2 z3 z4 : Nat, U = wZ cI cJ z0 z1 z2 z3 (.ref z4) Z ++ [(z4, cL b)])
theorem wSim_none (cI cJ : ClassId) (z0 z1 z2 z3 : Nat) (Z : Zs) : wSim cI cJ z0 Z none (wZ cI cJ z0 z1 z2 z3 .null Z) := Or.inl ⟨rfl, z1, z2, z3, rfl⟩
theorem wSim_some (cI cJ : ClassId) (z0 z1 z2 z3 z4 : Nat) (Z : Zs) (b : Lb) : wSim cI cJ z0 Z (some b) (wZ cI cJ z0 z1 z2 z3 (.ref z4) Z ++ [(z4, cL b)]) := Or.inr ⟨b, rfl, z1, z2, z3, z4, rfl⟩
theorem hdX3_init : yX3_init.cls ≠ "java/lang/invoke/MethodHandle" ∧ yX3_init.cls ≠ "java/lang/invoke/VarHandle" ∧ (parseMethodDescriptor yX3_init.desc).map (fun d => d.parameters.length) = some 0 := by decide +kernel
theorem mX3_init (l : Launch) (D : va_G) (cI cJ : ClassId) (h : Nat) (b : Lb) : kCv l D cI cJ yX3_init (.code yX3_init cX3_init 1 none) { frames := 1, cells := 0, slots := 0, locals := 20 } [.ref h] [(h, cL b)] [(h, cL b)] := by
  refine fun sz => k_of (lv := [(0, .ref h)]) (by decide) sz (Nat.le_of_ble_eq_true rfl) rfl ?_
  intro p e s m args below meth c hsz C
  refine k_aload_n C dX3_init_0 0 rfl ?_
  refine k_objInit C q509 (Nat.le_of_ble_eq_true rfl) (Nat.le_of_ble_eq_true rfl) dX3_init_1 ?_
  exact k_vret C rfl rfl dX3_init_4
theorem hdX3_isFree : yX3_isFree.cls ≠ "java/lang/invoke/MethodHandle" ∧ yX3_isFree.cls ≠ "java/lang/invoke/VarHandle" ∧ (parseMethodDescriptor yX3_isFree.desc).map (fun d => d.parameters.length) = some 2 := by decide +kernel
noncomputable def fX3_isFree (p0 : Int32) (p1 : Int32) : Int32 :=
  if p0 < 0 then 0
  else (if 12 ≤ p0 then 0
    else (if 1 < p0 then 1
      else (if p1 < 10 then 1
        else (if p1 ≤ 12 then 0
          else 1))))
set_option maxHeartbeats 4000000 in
set_option maxRecDepth 100000 in
theorem mX3_isFree (l : Launch) (D : va_G) (cI cJ : ClassId) (p0 : Int32) (p1 : Int32)  : kCi l D cI cJ yX3_isFree (.code yX3_isFree cX3_isFree 2 (some .boolean)) { frames := 0, cells := 0, slots := 0, locals := 0 } [.int p0, .int p1] [] (fX3_isFree p0 p1) [] := by
  refine fun sz => k_of (lv := [(0, .int p0), (1, .int p1)]) (by decide) sz (by exact Nat.le_of_ble_eq_true rfl) rfl ?_
  intro p e s m args below meth c hsz C
  refine k_iload_n C dX3_isFree_0 0 rfl ?_
  refine k_if_lt C 31 (by decide) dX3_isFree_1 (fun c1 => ?_) (fun c1 => ?_)
  ·
    refine k_iconst C 0 (by decide) dX3_isFree_31 ?_
    have hL : fX3_isFree p0 p1 = 0 := by exact (if_pos c1).trans rfl
    exact k_zret C rfl rfl (hL.symm) rfl dX3_isFree_32
  ·
    refine k_iload_n C dX3_isFree_4 0 rfl ?_
    refine k_bipush C 12 (by decide) dX3_isFree_5 ?_
    refine k_icmp_ge C 31 (by decide) dX3_isFree_7 (fun c2 => ?_) (fun c2 => ?_)
    ·
      refine k_iconst C 0 (by decide) dX3_isFree_31 ?_
      have hL : fX3_isFree p0 p1 = 0 := by exact (if_neg c1).trans ((if_pos c2).trans rfl)
      exact k_zret C rfl rfl (hL.symm) rfl dX3_isFree_32
    ·
      refine k_iload_n C dX3_isFree_10 0 rfl ?_
      refine k_iconst C 1 (by decide) dX3_isFree_11 ?_
      refine k_icmp_gt C 27 (by decide) dX3_isFree_12 (fun c3 => ?_) (fun c3 => ?_)
      ·
        refine k_iconst C 1 (by decide) dX3_isFree_27 ?_
        refine k_goto C 32 (by decide) dX3_isFree_28 ?_
        have hL : fX3_isFree p0 p1 = 1 := by exact (if_neg c1).trans ((if_neg c2).trans ((if_pos c3).trans rfl))
        exact k_zret C rfl rfl (hL.symm) rfl dX3_isFree_32
      ·
        refine k_iload_n C dX3_isFree_15 1 rfl ?_
        refine k_bipush C 10 (by decide) dX3_isFree_16 ?_
        refine k_icmp_lt C 27 (by decide) dX3_isFree_18 (fun c4 => ?_) (fun c4 => ?_)
        ·
          refine k_iconst C 1 (by decide) dX3_isFree_27 ?_
          refine k_goto C 32 (by decide) dX3_isFree_28 ?_
          have hL : fX3_isFree p0 p1 = 1 := by exact (if_neg c1).trans ((if_neg c2).trans ((if_neg c3).trans ((if_pos c4).trans rfl)))
          exact k_zret C rfl rfl (hL.symm) rfl dX3_isFree_32
        ·
          refine k_iload_n C dX3_isFree_21 1 rfl ?_
          refine k_bipush C 12 (by decide) dX3_isFree_22 ?_
          refine k_icmp_le C 31 (by decide) dX3_isFree_24 (fun c5 => ?_) (fun c5 => ?_)
          ·
            refine k_iconst C 0 (by decide) dX3_isFree_31 ?_
            have hL : fX3_isFree p0 p1 = 0 := by exact (if_neg c1).trans ((if_neg c2).trans ((if_neg c3).trans ((if_neg c4).trans ((if_pos c5).trans rfl))))
            exact k_zret C rfl rfl (hL.symm) rfl dX3_isFree_32
          ·
            refine k_iconst C 1 (by decide) dX3_isFree_27 ?_
            refine k_goto C 32 (by decide) dX3_isFree_28 ?_
            have hL : fX3_isFree p0 p1 = 1 := by exact (if_neg c1).trans ((if_neg c2).trans ((if_neg c3).trans ((if_neg c4).trans ((if_neg c5).trans rfl))))
            exact k_zret C rfl rfl (hL.symm) rfl dX3_isFree_32

theorem hdX3_of : yX3_of.cls ≠ "java/lang/invoke/MethodHandle" ∧ yX3_of.cls ≠ "java/lang/invoke/VarHandle" ∧ (parseMethodDescriptor yX3_of.desc).map (fun d => d.parameters.length) = some 6 := by decide +kernel
noncomputable def fX3_of (p0 : Int32) (p1 : Int32) (p2 : Int32) (p3 : Int32) (p4 : Int32) (p5 : Int32) : Lb :=
  if 1 ≤ p2 then (p0, p1, p2, p3, p4, p5, 0, 0, 0, 0)
  else (p0, p1, 1, p3, p4, p5, 0, 0, 0, 0)
set_option maxHeartbeats 4000000 in
set_option maxRecDepth 100000 in
theorem mX3_of (l : Launch) (D : va_G) (cI cJ : ClassId) (p0 : Int32) (p1 : Int32) (p2 : Int32) (p3 : Int32) (p4 : Int32) (p5 : Int32) : kGr l D cI cJ yX3_of (.code yX3_of cX3_of 7 (some (.object "FivesCourtLaw$Ball"))) { frames := 2, cells := 1, slots := 10, locals := 40 } [.int p0, .int p1, .int p2, .int p3, .int p4, .int p5] [] 1 10 (fun a U => U = [(a, cL (fX3_of p0 p1 p2 p3 p4 p5))]) := by
  refine fun sz => k_ofN (lv := [(0, .int p0), (1, .int p1), (2, .int p2), (3, .int p3), (4, .int p4), (5, .int p5)]) (by decide) sz (Nat.le_of_ble_eq_true rfl) rfl ?_
  intro p e s m args below meth c hsz hnm C
  refine k_newX3 C q504 q505 q47 [.int 0, .int 0, .int 0, .int 0, .int 0, .int 0, .int 0, .int 0, .int 0, .int 0] zf10 (Nat.le_of_ble_eq_true rfl) (Nat.le_of_ble_eq_true rfl) dX3_of_0 (fun q1 => ?_)
  refine k_dup C rfl dX3_of_3 ?_
  refine k_callIO C (mX3_init l D cI cJ q1 (0, 0, 0, 0, 0, 0, 0, 0, 0, 0)) (cwI 0 C.2.2.2.2.1 (kGN q508) rfl rfl rfl (C.2.2.2.2.1 _ q47) (C.2.2.2.2.1 _ q506) (C.2.2.2.2.1 _ q507) rfl hdX3_init ⟨Nat.le_of_ble_eq_true rfl, Nat.le_of_ble_eq_true rfl⟩) [0] [] [0] [] (by decide) rfl rfl rfl (by decide) rfl rfl (Nat.le_of_ble_eq_true rfl) ⟨Nat.le_of_ble_eq_true rfl, Nat.le_of_ble_eq_true rfl⟩ dX3_of_4 ?_
  refine k_astore C [(6, .ref q1), (0, .int p0), (1, .int p1), (2, .int p2), (3, .int p3), (4, .int p4), (5, .int p5)] (by decide) rfl dX3_of_7 ?_
  refine k_aload C dX3_of_9 0 rfl ?_
  refine k_iload_n C dX3_of_11 1 rfl ?_
  refine k_putX3 C [(q1, cL (p0, 0, 0, 0, 0, 0, 0, 0, 0, 0))] 0 0 rfl rfl (by decide) q510 rfl rfl fdI rfl rfl (Nat.le_of_ble_eq_true rfl) dX3_of_12 ?_
  refine k_aload C dX3_of_15 0 rfl ?_
  refine k_iload_n C dX3_of_17 2 rfl ?_
  refine k_putX3 C [(q1, cL (p0, p1, 0, 0, 0, 0, 0, 0, 0, 0))] 0 1 rfl rfl (by decide) q512 rfl rfl fdI rfl rfl (Nat.le_of_ble_eq_true rfl) dX3_of_18 ?_
  refine k_aload C dX3_of_21 0 rfl ?_
  refine k_iload_n C dX3_of_23 3 rfl ?_
  refine k_iconst C 1 (by decide) dX3_of_24 ?_
  refine k_icmp_ge C 32 (by decide) dX3_of_25 (fun c2 => ?_) (fun c2 => ?_)
  ·
    refine k_iload_n C dX3_of_32 3 rfl ?_
    refine k_putX3 C [(q1, cL (p0, p1, p2, 0, 0, 0, 0, 0, 0, 0))] 0 2 rfl rfl (by decide) q514 rfl rfl fdI rfl rfl (Nat.le_of_ble_eq_true rfl) dX3_of_33 ?_
    refine k_aload C dX3_of_36 0 rfl ?_
    refine k_iload_n C dX3_of_38 4 rfl ?_
    refine k_putX3 C [(q1, cL (p0, p1, p2, p3, 0, 0, 0, 0, 0, 0))] 0 3 rfl rfl (by decide) q516 rfl rfl fdI rfl rfl (Nat.le_of_ble_eq_true rfl) dX3_of_39 ?_
    refine k_aload C dX3_of_42 0 rfl ?_
    refine k_iload C dX3_of_44 5 rfl ?_
    refine k_putX3 C [(q1, cL (p0, p1, p2, p3, p4, 0, 0, 0, 0, 0))] 0 4 rfl rfl (by decide) q517 rfl rfl fdI rfl rfl (Nat.le_of_ble_eq_true rfl) dX3_of_46 ?_
    refine k_aload C dX3_of_49 0 rfl ?_
    refine k_iload C dX3_of_51 6 rfl ?_
    refine k_putX3 C [(q1, cL (p0, p1, p2, p3, p4, p5, 0, 0, 0, 0))] 0 5 rfl rfl (by decide) q518 rfl rfl fdI rfl rfl (Nat.le_of_ble_eq_true rfl) dX3_of_53 ?_
    refine k_aload C dX3_of_56 0 rfl ?_
    have hL : fX3_of p0 p1 p2 p3 p4 p5 = (p0, p1, p2, p3, p4, p5, 0, 0, 0, 0) := by exact (if_pos c2).trans rfl
    refine k_widen (k' := 1) (n' := 10) (Nat.le_of_ble_eq_true rfl) (Nat.le_of_ble_eq_true rfl) ?_
    refine k_wsub (w' := [(q1, cL (p0, p1, p2, p3, p4, p5, 0, 0, 0, 0))]) [0] rfl rfl ?_
    exact k_aretG C rfl (by rw [hL]) dX3_of_58
  ·
    refine k_iconst C 1 (by decide) dX3_of_28 ?_
    refine k_goto C 33 (by decide) dX3_of_29 ?_
    refine k_putX3 C [(q1, cL (p0, p1, 1, 0, 0, 0, 0, 0, 0, 0))] 0 2 rfl rfl (by decide) q514 rfl rfl fdI rfl rfl (Nat.le_of_ble_eq_true rfl) dX3_of_33 ?_
    refine k_aload C dX3_of_36 0 rfl ?_
    refine k_iload_n C dX3_of_38 4 rfl ?_
    refine k_putX3 C [(q1, cL (p0, p1, 1, p3, 0, 0, 0, 0, 0, 0))] 0 3 rfl rfl (by decide) q516 rfl rfl fdI rfl rfl (Nat.le_of_ble_eq_true rfl) dX3_of_39 ?_
    refine k_aload C dX3_of_42 0 rfl ?_
    refine k_iload C dX3_of_44 5 rfl ?_
    refine k_putX3 C [(q1, cL (p0, p1, 1, p3, p4, 0, 0, 0, 0, 0))] 0 4 rfl rfl (by decide) q517 rfl rfl fdI rfl rfl (Nat.le_of_ble_eq_true rfl) dX3_of_46 ?_
    refine k_aload C dX3_of_49 0 rfl ?_
    refine k_iload C dX3_of_51 6 rfl ?_
    refine k_putX3 C [(q1, cL (p0, p1, 1, p3, p4, p5, 0, 0, 0, 0))] 0 5 rfl rfl (by decide) q518 rfl rfl fdI rfl rfl (Nat.le_of_ble_eq_true rfl) dX3_of_53 ?_
    refine k_aload C dX3_of_56 0 rfl ?_
    have hL : fX3_of p0 p1 p2 p3 p4 p5 = (p0, p1, 1, p3, p4, p5, 0, 0, 0, 0) := by exact (if_neg c2).trans rfl
    refine k_widen (k' := 1) (n' := 10) (Nat.le_of_ble_eq_true rfl) (Nat.le_of_ble_eq_true rfl) ?_
    refine k_wsub (w' := [(q1, cL (p0, p1, 1, p3, p4, p5, 0, 0, 0, 0))]) [0] rfl rfl ?_
    exact k_aretG C rfl (by rw [hL]) dX3_of_58

theorem hdX3_copy : yX3_copy.cls ≠ "java/lang/invoke/MethodHandle" ∧ yX3_copy.cls ≠ "java/lang/invoke/VarHandle" ∧ (parseMethodDescriptor yX3_copy.desc).map (fun d => d.parameters.length) = some 0 := by decide +kernel
noncomputable def fX3_copy (b : Lb) : Lb :=
  ((fX3_of b.1 b.2.1 1 b.2.2.2.1 b.2.2.2.2.1 b.2.2.2.2.2.1).1, (fX3_of b.1 b.2.1 1 b.2.2.2.1 b.2.2.2.2.1 b.2.2.2.2.2.1).2.1, b.2.2.1, (fX3_of b.1 b.2.1 1 b.2.2.2.1 b.2.2.2.2.1 b.2.2.2.2.2.1).2.2.2.1, (fX3_of b.1 b.2.1 1 b.2.2.2.1 b.2.2.2.2.1 b.2.2.2.2.2.1).2.2.2.2.1, (fX3_of b.1 b.2.1 1 b.2.2.2.1 b.2.2.2.2.1 b.2.2.2.2.2.1).2.2.2.2.2.1, b.2.2.2.2.2.2)
set_option maxHeartbeats 4000000 in
set_option maxRecDepth 100000 in
theorem mX3_copy (l : Launch) (D : va_G) (cI cJ : ClassId) (h : Nat) (b : Lb) : kGr l D cI cJ yX3_copy (.code yX3_copy cX3_copy 2 (some (.object "FivesCourtLaw$Ball"))) { frames := 3, cells := 1, slots := 10, locals := 66 } [.ref h] [(h, cL b)] 1 10 (fun a U => U = [(h, cL b), (a, cL (fX3_copy b))]) := by
  refine fun sz => k_ofN (lv := [(0, .ref h)]) (by decide) sz (Nat.le_of_ble_eq_true rfl) rfl ?_
  intro p e s m args below meth c hsz hnm C
  refine k_aload_n C dX3_copy_0 0 rfl ?_
  refine k_getX3 C 0 0 rfl (by decide) rfl q510 rfl dX3_copy_1 ?_
  refine k_aload_n C dX3_copy_4 0 rfl ?_
  refine k_getX3 C 0 1 rfl (by decide) rfl q512 rfl dX3_copy_5 ?_
  refine k_iconst C 1 (by decide) dX3_copy_8 ?_
  refine k_aload_n C dX3_copy_9 0 rfl ?_
  refine k_getX3 C 0 3 rfl (by decide) rfl q516 rfl dX3_copy_10 ?_
  refine k_aload_n C dX3_copy_13 0 rfl ?_
  refine k_getX3 C 0 4 rfl (by decide) rfl q517 rfl dX3_copy_14 ?_
  refine k_aload_n C dX3_copy_17 0 rfl ?_
  refine k_getX3 C 0 5 rfl (by decide) rfl q518 rfl dX3_copy_18 ?_
  refine k_callGS_r C (mX3_of l D cI cJ b.1 b.2.1 1 b.2.2.2.1 b.2.2.2.2.1 b.2.2.2.2.2.1) (va_cwS 6 C.2.2.2.2.1 (kGS q501 q502 q47 q503) rfl rfl rfl hdX3_of ⟨Nat.le_of_ble_eq_true rfl, Nat.le_of_ble_eq_true rfl⟩) [] [0] [(h, cL b)] rfl rfl rfl rfl (by decide) (Nat.le_of_ble_eq_true rfl) ⟨Nat.le_of_ble_eq_true rfl, Nat.le_of_ble_eq_true rfl⟩ rfl dX3_copy_21 (fun r1 U2 h3 => ?_)
  subst h3
  generalize ezz4 : fX3_of b.1 b.2.1 1 b.2.2.2.1 b.2.2.2.2.1 b.2.2.2.2.2.1 = zz4
  refine k_wsub (w' := [(h, cL b), (r1, cL zz4)]) [0, 1] rfl rfl ?_
  refine k_astore_n C [(1, .ref r1), (0, .ref h)] (by decide) rfl dX3_copy_24 ?_
  refine k_aload_n C dX3_copy_25 0 rfl ?_
  refine k_aload_n C dX3_copy_26 1 rfl ?_
  refine k_getX3 C 0 2 rfl (by decide) rfl q514 rfl dX3_copy_27 ?_
  refine k_putX3 C [(h, cL b), (r1, cL (zz4.1, zz4.2.1, b.2.2.1, zz4.2.2.2))] 1 2 rfl rfl (by decide) q514 rfl rfl fdI rfl rfl (Nat.le_of_ble_eq_true rfl) dX3_copy_30 ?_
  refine k_aload_n C dX3_copy_33 0 rfl ?_
  refine k_aload_n C dX3_copy_34 1 rfl ?_
  refine k_getX3 C 0 6 rfl (by decide) rfl q519 rfl dX3_copy_35 ?_
  refine k_putX3 C [(h, cL b), (r1, cL (zz4.1, zz4.2.1, b.2.2.1, zz4.2.2.2.1, zz4.2.2.2.2.1, zz4.2.2.2.2.2.1, b.2.2.2.2.2.2.1, zz4.2.2.2.2.2.2.2))] 1 6 rfl rfl (by decide) q519 rfl rfl fdI rfl rfl (Nat.le_of_ble_eq_true rfl) dX3_copy_38 ?_
  refine k_aload_n C dX3_copy_41 0 rfl ?_
  refine k_aload_n C dX3_copy_42 1 rfl ?_
  refine k_getX3 C 0 7 rfl (by decide) rfl q522 rfl dX3_copy_43 ?_
  refine k_putX3 C [(h, cL b), (r1, cL (zz4.1, zz4.2.1, b.2.2.1, zz4.2.2.2.1, zz4.2.2.2.2.1, zz4.2.2.2.2.2.1, b.2.2.2.2.2.2.1, b.2.2.2.2.2.2.2.1, zz4.2.2.2.2.2.2.2.2))] 1 7 rfl rfl (by decide) q522 rfl rfl fdI rfl rfl (Nat.le_of_ble_eq_true rfl) dX3_copy_46 ?_
  refine k_aload_n C dX3_copy_49 0 rfl ?_
  refine k_aload_n C dX3_copy_50 1 rfl ?_
  refine k_getX3 C 0 8 rfl (by decide) rfl q523 rfl dX3_copy_51 ?_
  refine k_putX3 C [(h, cL b), (r1, cL (zz4.1, zz4.2.1, b.2.2.1, zz4.2.2.2.1, zz4.2.2.2.2.1, zz4.2.2.2.2.2.1, b.2.2.2.2.2.2.1, b.2.2.2.2.2.2.2.1, b.2.2.2.2.2.2.2.2.1, zz4.2.2.2.2.2.2.2.2.2))] 1 8 rfl rfl (by decide) q523 rfl rfl fdI rfl rfl (Nat.le_of_ble_eq_true rfl) dX3_copy_54 ?_
  refine k_aload_n C dX3_copy_57 0 rfl ?_
  refine k_aload_n C dX3_copy_58 1 rfl ?_
  refine k_getX3 C 0 9 rfl (by decide) rfl q524 rfl dX3_copy_59 ?_
  refine k_putX3 C [(h, cL b), (r1, cL (zz4.1, zz4.2.1, b.2.2.1, zz4.2.2.2.1, zz4.2.2.2.2.1, zz4.2.2.2.2.2.1, b.2.2.2.2.2.2))] 1 9 rfl rfl (by decide) q524 rfl rfl fdI rfl rfl (Nat.le_of_ble_eq_true rfl) dX3_copy_62 ?_
  refine k_aload_n C dX3_copy_65 0 rfl ?_
  have hL : fX3_copy b = (zz4.1, zz4.2.1, b.2.2.1, zz4.2.2.2.1, zz4.2.2.2.2.1, zz4.2.2.2.2.2.1, b.2.2.2.2.2.2) := by subst ezz4; exact rfl
  refine k_widen (k' := 1) (n' := 10) (Nat.le_of_ble_eq_true rfl) (Nat.le_of_ble_eq_true rfl) ?_
  refine k_wsub (w' := [(h, cL b), (r1, cL (zz4.1, zz4.2.1, b.2.2.1, zz4.2.2.2.1, zz4.2.2.2.2.1, zz4.2.2.2.2.2.1, b.2.2.2.2.2.2))]) [0, 1] rfl rfl ?_
  exact k_aretG C rfl (by rw [hL]) dX3_copy_66

theorem copy_eq (b : Lb) : fX3_copy b = b := by
  unfold fX3_copy fX3_of
  rw [if_pos (show (1 : Int32) ≤ 1 from by decide)]
theorem mX3_copyB (l : Launch) (D : va_G) (cI cJ : ClassId) (h : Nat) (b : Lb) : kGr l D cI cJ yX3_copy (.code yX3_copy cX3_copy 2 (some (.object "FivesCourtLaw$Ball"))) { frames := 3, cells := 1, slots := 10, locals := 66 } [.ref h] [(h, cL b)] 1 10 (fun a U => U = [(h, cL b), (a, cL b)]) := by
  have h9 := mX3_copy l D cI cJ h b
  rw [copy_eq] at h9
  exact h9
theorem hdX3_told : yX3_told.cls ≠ "java/lang/invoke/MethodHandle" ∧ yX3_told.cls ≠ "java/lang/invoke/VarHandle" ∧ (parseMethodDescriptor yX3_told.desc).map (fun d => d.parameters.length) = some 1 := by decide +kernel
noncomputable def fX3_told_0 (b : Lb) : Int32 :=
  b.1
set_option maxHeartbeats 4000000 in
set_option maxRecDepth 100000 in
theorem mX3_told_0 (l : Launch) (D : va_G) (cI cJ : ClassId) (h : Nat) (b : Lb) : kGi l D cI cJ yX3_told (.code yX3_told cX3_told 3 (some .int)) { frames := 0, cells := 1, slots := 9, locals := 0 } [.ref h, .int 0] [(h, cL b)] 1 9 (fun r U => r = fX3_told_0 b ∧ U = [(h, cL b)]) := by
  refine fun sz => k_ofN (lv := [(0, .ref h), (1, .int 0)]) (by decide) sz (Nat.le_of_ble_eq_true rfl) rfl ?_
  intro p e s m args below meth c hsz hnm C
  refine k_bipush C 9 (by decide) dX3_told_0 ?_
  refine k_newI C 9 (ar9 (0, 0, 0, 0, 0, 0, 0, 0, 0)) zf9 (by decide) (by decide) (by decide) (Nat.le_of_ble_eq_true rfl) (Nat.le_of_ble_eq_true rfl) dX3_told_2 (fun q1 => ?_)
  refine k_dup C rfl dX3_told_4 ?_
  refine k_iconst C 0 (by decide) dX3_told_5 ?_
  refine k_aload_n C dX3_told_6 0 rfl ?_
  refine k_getX3 C 0 0 rfl (by decide) rfl q510 rfl dX3_told_7 ?_
  refine k_iast C [(h, cL b), (q1, cA9 cI (b.1, 0, 0, 0, 0, 0, 0, 0, 0))] 1 rfl vi9_0 (ar9 (b.1, 0, 0, 0, 0, 0, 0, 0, 0)) (ar9_s0 _ _) rfl dX3_told_10 ?_
  refine k_dup C rfl dX3_told_11 ?_
  refine k_iconst C 1 (by decide) dX3_told_12 ?_
  refine k_aload_n C dX3_told_13 0 rfl ?_
  refine k_getX3 C 0 1 rfl (by decide) rfl q512 rfl dX3_told_14 ?_
  refine k_iast C [(h, cL b), (q1, cA9 cI (b.1, b.2.1, 0, 0, 0, 0, 0, 0, 0))] 1 rfl vi9_1 (ar9 (b.1, b.2.1, 0, 0, 0, 0, 0, 0, 0)) (ar9_s1 _ _) rfl dX3_told_17 ?_
  refine k_dup C rfl dX3_told_18 ?_
  refine k_iconst C 2 (by decide) dX3_told_19 ?_
  refine k_aload_n C dX3_told_20 0 rfl ?_
  refine k_getX3 C 0 2 rfl (by decide) rfl q514 rfl dX3_told_21 ?_
  refine k_iast C [(h, cL b), (q1, cA9 cI (b.1, b.2.1, b.2.2.1, 0, 0, 0, 0, 0, 0))] 1 rfl vi9_2 (ar9 (b.1, b.2.1, b.2.2.1, 0, 0, 0, 0, 0, 0)) (ar9_s2 _ _) rfl dX3_told_24 ?_
  refine k_dup C rfl dX3_told_25 ?_
  refine k_iconst C 3 (by decide) dX3_told_26 ?_
  refine k_aload_n C dX3_told_27 0 rfl ?_
  refine k_getX3 C 0 3 rfl (by decide) rfl q516 rfl dX3_told_28 ?_
  refine k_iast C [(h, cL b), (q1, cA9 cI (b.1, b.2.1, b.2.2.1, b.2.2.2.1, 0, 0, 0, 0, 0))] 1 rfl vi9_3 (ar9 (b.1, b.2.1, b.2.2.1, b.2.2.2.1, 0, 0, 0, 0, 0)) (ar9_s3 _ _) rfl dX3_told_31 ?_
  refine k_dup C rfl dX3_told_32 ?_
  refine k_iconst C 4 (by decide) dX3_told_33 ?_
  refine k_aload_n C dX3_told_34 0 rfl ?_
  refine k_getX3 C 0 4 rfl (by decide) rfl q517 rfl dX3_told_35 ?_
  refine k_iast C [(h, cL b), (q1, cA9 cI (b.1, b.2.1, b.2.2.1, b.2.2.2.1, b.2.2.2.2.1, 0, 0, 0, 0))] 1 rfl vi9_4 (ar9 (b.1, b.2.1, b.2.2.1, b.2.2.2.1, b.2.2.2.2.1, 0, 0, 0, 0)) (ar9_s4 _ _) rfl dX3_told_38 ?_
  refine k_dup C rfl dX3_told_39 ?_
  refine k_iconst C 5 (by decide) dX3_told_40 ?_
  refine k_aload_n C dX3_told_41 0 rfl ?_
  refine k_getX3 C 0 5 rfl (by decide) rfl q518 rfl dX3_told_42 ?_
  refine k_iast C [(h, cL b), (q1, cA9 cI (b.1, b.2.1, b.2.2.1, b.2.2.2.1, b.2.2.2.2.1, b.2.2.2.2.2.1, 0, 0, 0))] 1 rfl vi9_5 (ar9 (b.1, b.2.1, b.2.2.1, b.2.2.2.1, b.2.2.2.2.1, b.2.2.2.2.2.1, 0, 0, 0)) (ar9_s5 _ _) rfl dX3_told_45 ?_
  refine k_dup C rfl dX3_told_46 ?_
  refine k_bipush C 6 (by decide) dX3_told_47 ?_
  refine k_aload_n C dX3_told_49 0 rfl ?_
  refine k_getX3 C 0 6 rfl (by decide) rfl q519 rfl dX3_told_50 ?_
  refine k_iast C [(h, cL b), (q1, cA9 cI (b.1, b.2.1, b.2.2.1, b.2.2.2.1, b.2.2.2.2.1, b.2.2.2.2.2.1, b.2.2.2.2.2.2.1, 0, 0))] 1 rfl vi9_6 (ar9 (b.1, b.2.1, b.2.2.1, b.2.2.2.1, b.2.2.2.2.1, b.2.2.2.2.2.1, b.2.2.2.2.2.2.1, 0, 0)) (ar9_s6 _ _) rfl dX3_told_53 ?_
  refine k_dup C rfl dX3_told_54 ?_
  refine k_bipush C 7 (by decide) dX3_told_55 ?_
  refine k_aload_n C dX3_told_57 0 rfl ?_
  refine k_getX3 C 0 7 rfl (by decide) rfl q522 rfl dX3_told_58 ?_
  refine k_iast C [(h, cL b), (q1, cA9 cI (b.1, b.2.1, b.2.2.1, b.2.2.2.1, b.2.2.2.2.1, b.2.2.2.2.2.1, b.2.2.2.2.2.2.1, b.2.2.2.2.2.2.2.1, 0))] 1 rfl vi9_7 (ar9 (b.1, b.2.1, b.2.2.1, b.2.2.2.1, b.2.2.2.2.1, b.2.2.2.2.2.1, b.2.2.2.2.2.2.1, b.2.2.2.2.2.2.2.1, 0)) (ar9_s7 _ _) rfl dX3_told_61 ?_
  refine k_dup C rfl dX3_told_62 ?_
  refine k_bipush C 8 (by decide) dX3_told_63 ?_
  refine k_aload_n C dX3_told_65 0 rfl ?_
  refine k_getX3 C 0 8 rfl (by decide) rfl q523 rfl dX3_told_66 ?_
  refine k_iast C [(h, cL b), (q1, cA9 cI (b.1, b.2.1, b.2.2.1, b.2.2.2.1, b.2.2.2.2.1, b.2.2.2.2.2.1, b.2.2.2.2.2.2.1, b.2.2.2.2.2.2.2.1, b.2.2.2.2.2.2.2.2.1))] 1 rfl vi9_8 (ar9 (b.1, b.2.1, b.2.2.1, b.2.2.2.1, b.2.2.2.2.1, b.2.2.2.2.2.1, b.2.2.2.2.2.2.1, b.2.2.2.2.2.2.2.1, b.2.2.2.2.2.2.2.2.1)) (ar9_s8 _ _) rfl dX3_told_69 ?_
  refine k_astore_n C [(2, .ref q1), (0, .ref h), (1, .int 0)] (by decide) rfl dX3_told_70 ?_
  refine k_aload_n C dX3_told_71 0 rfl ?_
  refine k_iload_n C dX3_told_72 2 rfl ?_
  refine k_iald C 1 rfl vi9_0 (ar9_l0 _) dX3_told_73 ?_
  have hL : fX3_told_0 b = b.1 := by exact rfl
  refine k_widen (k' := 1) (n' := 9) (Nat.le_of_ble_eq_true rfl) (Nat.le_of_ble_eq_true rfl) ?_
  refine k_wsub (w' := [(h, cL b)]) [0] rfl rfl ?_
  exact k_iretG C rfl (by rw [hL]; exact ⟨rfl, rfl⟩) dX3_told_74

noncomputable def fX3_told_1 (b : Lb) : Int32 :=
  b.2.1
set_option maxHeartbeats 4000000 in
set_option maxRecDepth 100000 in
theorem mX3_told_1 (l : Launch) (D : va_G) (cI cJ : ClassId) (h : Nat) (b : Lb) : kGi l D cI cJ yX3_told (.code yX3_told cX3_told 3 (some .int)) { frames := 0, cells := 1, slots := 9, locals := 0 } [.ref h, .int 1] [(h, cL b)] 1 9 (fun r U => r = fX3_told_1 b ∧ U = [(h, cL b)]) := by
  refine fun sz => k_ofN (lv := [(0, .ref h), (1, .int 1)]) (by decide) sz (Nat.le_of_ble_eq_true rfl) rfl ?_
  intro p e s m args below meth c hsz hnm C
  refine k_bipush C 9 (by decide) dX3_told_0 ?_
  refine k_newI C 9 (ar9 (0, 0, 0, 0, 0, 0, 0, 0, 0)) zf9 (by decide) (by decide) (by decide) (Nat.le_of_ble_eq_true rfl) (Nat.le_of_ble_eq_true rfl) dX3_told_2 (fun q1 => ?_)
  refine k_dup C rfl dX3_told_4 ?_
  refine k_iconst C 0 (by decide) dX3_told_5 ?_
  refine k_aload_n C dX3_told_6 0 rfl ?_
  refine k_getX3 C 0 0 rfl (by decide) rfl q510 rfl dX3_told_7 ?_
  refine k_iast C [(h, cL b), (q1, cA9 cI (b.1, 0, 0, 0, 0, 0, 0, 0, 0))] 1 rfl vi9_0 (ar9 (b.1, 0, 0, 0, 0, 0, 0, 0, 0)) (ar9_s0 _ _) rfl dX3_told_10 ?_
  refine k_dup C rfl dX3_told_11 ?_
  refine k_iconst C 1 (by decide) dX3_told_12 ?_
  refine k_aload_n C dX3_told_13 0 rfl ?_
  refine k_getX3 C 0 1 rfl (by decide) rfl q512 rfl dX3_told_14 ?_
  refine k_iast C [(h, cL b), (q1, cA9 cI (b.1, b.2.1, 0, 0, 0, 0, 0, 0, 0))] 1 rfl vi9_1 (ar9 (b.1, b.2.1, 0, 0, 0, 0, 0, 0, 0)) (ar9_s1 _ _) rfl dX3_told_17 ?_
  refine k_dup C rfl dX3_told_18 ?_
  refine k_iconst C 2 (by decide) dX3_told_19 ?_
  refine k_aload_n C dX3_told_20 0 rfl ?_
  refine k_getX3 C 0 2 rfl (by decide) rfl q514 rfl dX3_told_21 ?_
  refine k_iast C [(h, cL b), (q1, cA9 cI (b.1, b.2.1, b.2.2.1, 0, 0, 0, 0, 0, 0))] 1 rfl vi9_2 (ar9 (b.1, b.2.1, b.2.2.1, 0, 0, 0, 0, 0, 0)) (ar9_s2 _ _) rfl dX3_told_24 ?_
  refine k_dup C rfl dX3_told_25 ?_
  refine k_iconst C 3 (by decide) dX3_told_26 ?_
  refine k_aload_n C dX3_told_27 0 rfl ?_
  refine k_getX3 C 0 3 rfl (by decide) rfl q516 rfl dX3_told_28 ?_
  refine k_iast C [(h, cL b), (q1, cA9 cI (b.1, b.2.1, b.2.2.1, b.2.2.2.1, 0, 0, 0, 0, 0))] 1 rfl vi9_3 (ar9 (b.1, b.2.1, b.2.2.1, b.2.2.2.1, 0, 0, 0, 0, 0)) (ar9_s3 _ _) rfl dX3_told_31 ?_
  refine k_dup C rfl dX3_told_32 ?_
  refine k_iconst C 4 (by decide) dX3_told_33 ?_
  refine k_aload_n C dX3_told_34 0 rfl ?_
  refine k_getX3 C 0 4 rfl (by decide) rfl q517 rfl dX3_told_35 ?_
  refine k_iast C [(h, cL b), (q1, cA9 cI (b.1, b.2.1, b.2.2.1, b.2.2.2.1, b.2.2.2.2.1, 0, 0, 0, 0))] 1 rfl vi9_4 (ar9 (b.1, b.2.1, b.2.2.1, b.2.2.2.1, b.2.2.2.2.1, 0, 0, 0, 0)) (ar9_s4 _ _) rfl dX3_told_38 ?_
  refine k_dup C rfl dX3_told_39 ?_
  refine k_iconst C 5 (by decide) dX3_told_40 ?_
  refine k_aload_n C dX3_told_41 0 rfl ?_
  refine k_getX3 C 0 5 rfl (by decide) rfl q518 rfl dX3_told_42 ?_
  refine k_iast C [(h, cL b), (q1, cA9 cI (b.1, b.2.1, b.2.2.1, b.2.2.2.1, b.2.2.2.2.1, b.2.2.2.2.2.1, 0, 0, 0))] 1 rfl vi9_5 (ar9 (b.1, b.2.1, b.2.2.1, b.2.2.2.1, b.2.2.2.2.1, b.2.2.2.2.2.1, 0, 0, 0)) (ar9_s5 _ _) rfl dX3_told_45 ?_
  refine k_dup C rfl dX3_told_46 ?_
  refine k_bipush C 6 (by decide) dX3_told_47 ?_
  refine k_aload_n C dX3_told_49 0 rfl ?_
  refine k_getX3 C 0 6 rfl (by decide) rfl q519 rfl dX3_told_50 ?_
  refine k_iast C [(h, cL b), (q1, cA9 cI (b.1, b.2.1, b.2.2.1, b.2.2.2.1, b.2.2.2.2.1, b.2.2.2.2.2.1, b.2.2.2.2.2.2.1, 0, 0))] 1 rfl vi9_6 (ar9 (b.1, b.2.1, b.2.2.1, b.2.2.2.1, b.2.2.2.2.1, b.2.2.2.2.2.1, b.2.2.2.2.2.2.1, 0, 0)) (ar9_s6 _ _) rfl dX3_told_53 ?_
  refine k_dup C rfl dX3_told_54 ?_
  refine k_bipush C 7 (by decide) dX3_told_55 ?_
  refine k_aload_n C dX3_told_57 0 rfl ?_
  refine k_getX3 C 0 7 rfl (by decide) rfl q522 rfl dX3_told_58 ?_
  refine k_iast C [(h, cL b), (q1, cA9 cI (b.1, b.2.1, b.2.2.1, b.2.2.2.1, b.2.2.2.2.1, b.2.2.2.2.2.1, b.2.2.2.2.2.2.1, b.2.2.2.2.2.2.2.1, 0))] 1 rfl vi9_7 (ar9 (b.1, b.2.1, b.2.2.1, b.2.2.2.1, b.2.2.2.2.1, b.2.2.2.2.2.1, b.2.2.2.2.2.2.1, b.2.2.2.2.2.2.2.1, 0)) (ar9_s7 _ _) rfl dX3_told_61 ?_
  refine k_dup C rfl dX3_told_62 ?_
  refine k_bipush C 8 (by decide) dX3_told_63 ?_
  refine k_aload_n C dX3_told_65 0 rfl ?_
  refine k_getX3 C 0 8 rfl (by decide) rfl q523 rfl dX3_told_66 ?_
  refine k_iast C [(h, cL b), (q1, cA9 cI (b.1, b.2.1, b.2.2.1, b.2.2.2.1, b.2.2.2.2.1, b.2.2.2.2.2.1, b.2.2.2.2.2.2.1, b.2.2.2.2.2.2.2.1, b.2.2.2.2.2.2.2.2.1))] 1 rfl vi9_8 (ar9 (b.1, b.2.1, b.2.2.1, b.2.2.2.1, b.2.2.2.2.1, b.2.2.2.2.2.1, b.2.2.2.2.2.2.1, b.2.2.2.2.2.2.2.1, b.2.2.2.2.2.2.2.2.1)) (ar9_s8 _ _) rfl dX3_told_69 ?_
  refine k_astore_n C [(2, .ref q1), (0, .ref h), (1, .int 1)] (by decide) rfl dX3_told_70 ?_
  refine k_aload_n C dX3_told_71 0 rfl ?_
  refine k_iload_n C dX3_told_72 2 rfl ?_
  refine k_iald C 1 rfl vi9_1 (ar9_l1 _) dX3_told_73 ?_
  have hL : fX3_told_1 b = b.2.1 := by exact rfl
  refine k_widen (k' := 1) (n' := 9) (Nat.le_of_ble_eq_true rfl) (Nat.le_of_ble_eq_true rfl) ?_
  refine k_wsub (w' := [(h, cL b)]) [0] rfl rfl ?_
  exact k_iretG C rfl (by rw [hL]; exact ⟨rfl, rfl⟩) dX3_told_74

noncomputable def fX3_told_2 (b : Lb) : Int32 :=
  b.2.2.1
set_option maxHeartbeats 4000000 in
set_option maxRecDepth 100000 in
theorem mX3_told_2 (l : Launch) (D : va_G) (cI cJ : ClassId) (h : Nat) (b : Lb) : kGi l D cI cJ yX3_told (.code yX3_told cX3_told 3 (some .int)) { frames := 0, cells := 1, slots := 9, locals := 0 } [.ref h, .int 2] [(h, cL b)] 1 9 (fun r U => r = fX3_told_2 b ∧ U = [(h, cL b)]) := by
  refine fun sz => k_ofN (lv := [(0, .ref h), (1, .int 2)]) (by decide) sz (Nat.le_of_ble_eq_true rfl) rfl ?_
  intro p e s m args below meth c hsz hnm C
  refine k_bipush C 9 (by decide) dX3_told_0 ?_
  refine k_newI C 9 (ar9 (0, 0, 0, 0, 0, 0, 0, 0, 0)) zf9 (by decide) (by decide) (by decide) (Nat.le_of_ble_eq_true rfl) (Nat.le_of_ble_eq_true rfl) dX3_told_2 (fun q1 => ?_)
  refine k_dup C rfl dX3_told_4 ?_
  refine k_iconst C 0 (by decide) dX3_told_5 ?_
  refine k_aload_n C dX3_told_6 0 rfl ?_
  refine k_getX3 C 0 0 rfl (by decide) rfl q510 rfl dX3_told_7 ?_
  refine k_iast C [(h, cL b), (q1, cA9 cI (b.1, 0, 0, 0, 0, 0, 0, 0, 0))] 1 rfl vi9_0 (ar9 (b.1, 0, 0, 0, 0, 0, 0, 0, 0)) (ar9_s0 _ _) rfl dX3_told_10 ?_
  refine k_dup C rfl dX3_told_11 ?_
  refine k_iconst C 1 (by decide) dX3_told_12 ?_
  refine k_aload_n C dX3_told_13 0 rfl ?_
  refine k_getX3 C 0 1 rfl (by decide) rfl q512 rfl dX3_told_14 ?_
  refine k_iast C [(h, cL b), (q1, cA9 cI (b.1, b.2.1, 0, 0, 0, 0, 0, 0, 0))] 1 rfl vi9_1 (ar9 (b.1, b.2.1, 0, 0, 0, 0, 0, 0, 0)) (ar9_s1 _ _) rfl dX3_told_17 ?_
  refine k_dup C rfl dX3_told_18 ?_
  refine k_iconst C 2 (by decide) dX3_told_19 ?_
  refine k_aload_n C dX3_told_20 0 rfl ?_
  refine k_getX3 C 0 2 rfl (by decide) rfl q514 rfl dX3_told_21 ?_
  refine k_iast C [(h, cL b), (q1, cA9 cI (b.1, b.2.1, b.2.2.1, 0, 0, 0, 0, 0, 0))] 1 rfl vi9_2 (ar9 (b.1, b.2.1, b.2.2.1, 0, 0, 0, 0, 0, 0)) (ar9_s2 _ _) rfl dX3_told_24 ?_
  refine k_dup C rfl dX3_told_25 ?_
  refine k_iconst C 3 (by decide) dX3_told_26 ?_
  refine k_aload_n C dX3_told_27 0 rfl ?_
  refine k_getX3 C 0 3 rfl (by decide) rfl q516 rfl dX3_told_28 ?_
  refine k_iast C [(h, cL b), (q1, cA9 cI (b.1, b.2.1, b.2.2.1, b.2.2.2.1, 0, 0, 0, 0, 0))] 1 rfl vi9_3 (ar9 (b.1, b.2.1, b.2.2.1, b.2.2.2.1, 0, 0, 0, 0, 0)) (ar9_s3 _ _) rfl dX3_told_31 ?_
  refine k_dup C rfl dX3_told_32 ?_
  refine k_iconst C 4 (by decide) dX3_told_33 ?_
  refine k_aload_n C dX3_told_34 0 rfl ?_
  refine k_getX3 C 0 4 rfl (by decide) rfl q517 rfl dX3_told_35 ?_
  refine k_iast C [(h, cL b), (q1, cA9 cI (b.1, b.2.1, b.2.2.1, b.2.2.2.1, b.2.2.2.2.1, 0, 0, 0, 0))] 1 rfl vi9_4 (ar9 (b.1, b.2.1, b.2.2.1, b.2.2.2.1, b.2.2.2.2.1, 0, 0, 0, 0)) (ar9_s4 _ _) rfl dX3_told_38 ?_
  refine k_dup C rfl dX3_told_39 ?_
  refine k_iconst C 5 (by decide) dX3_told_40 ?_
  refine k_aload_n C dX3_told_41 0 rfl ?_
  refine k_getX3 C 0 5 rfl (by decide) rfl q518 rfl dX3_told_42 ?_
  refine k_iast C [(h, cL b), (q1, cA9 cI (b.1, b.2.1, b.2.2.1, b.2.2.2.1, b.2.2.2.2.1, b.2.2.2.2.2.1, 0, 0, 0))] 1 rfl vi9_5 (ar9 (b.1, b.2.1, b.2.2.1, b.2.2.2.1, b.2.2.2.2.1, b.2.2.2.2.2.1, 0, 0, 0)) (ar9_s5 _ _) rfl dX3_told_45 ?_
  refine k_dup C rfl dX3_told_46 ?_
  refine k_bipush C 6 (by decide) dX3_told_47 ?_
  refine k_aload_n C dX3_told_49 0 rfl ?_
  refine k_getX3 C 0 6 rfl (by decide) rfl q519 rfl dX3_told_50 ?_
  refine k_iast C [(h, cL b), (q1, cA9 cI (b.1, b.2.1, b.2.2.1, b.2.2.2.1, b.2.2.2.2.1, b.2.2.2.2.2.1, b.2.2.2.2.2.2.1, 0, 0))] 1 rfl vi9_6 (ar9 (b.1, b.2.1, b.2.2.1, b.2.2.2.1, b.2.2.2.2.1, b.2.2.2.2.2.1, b.2.2.2.2.2.2.1, 0, 0)) (ar9_s6 _ _) rfl dX3_told_53 ?_
  refine k_dup C rfl dX3_told_54 ?_
  refine k_bipush C 7 (by decide) dX3_told_55 ?_
  refine k_aload_n C dX3_told_57 0 rfl ?_
  refine k_getX3 C 0 7 rfl (by decide) rfl q522 rfl dX3_told_58 ?_
  refine k_iast C [(h, cL b), (q1, cA9 cI (b.1, b.2.1, b.2.2.1, b.2.2.2.1, b.2.2.2.2.1, b.2.2.2.2.2.1, b.2.2.2.2.2.2.1, b.2.2.2.2.2.2.2.1, 0))] 1 rfl vi9_7 (ar9 (b.1, b.2.1, b.2.2.1, b.2.2.2.1, b.2.2.2.2.1, b.2.2.2.2.2.1, b.2.2.2.2.2.2.1, b.2.2.2.2.2.2.2.1, 0)) (ar9_s7 _ _) rfl dX3_told_61 ?_
  refine k_dup C rfl dX3_told_62 ?_
  refine k_bipush C 8 (by decide) dX3_told_63 ?_
  refine k_aload_n C dX3_told_65 0 rfl ?_
  refine k_getX3 C 0 8 rfl (by decide) rfl q523 rfl dX3_told_66 ?_
  refine k_iast C [(h, cL b), (q1, cA9 cI (b.1, b.2.1, b.2.2.1, b.2.2.2.1, b.2.2.2.2.1, b.2.2.2.2.2.1, b.2.2.2.2.2.2.1, b.2.2.2.2.2.2.2.1, b.2.2.2.2.2.2.2.2.1))] 1 rfl vi9_8 (ar9 (b.1, b.2.1, b.2.2.1, b.2.2.2.1, b.2.2.2.2.1, b.2.2.2.2.2.1, b.2.2.2.2.2.2.1, b.2.2.2.2.2.2.2.1, b.2.2.2.2.2.2.2.2.1)) (ar9_s8 _ _) rfl dX3_told_69 ?_
  refine k_astore_n C [(2, .ref q1), (0, .ref h), (1, .int 2)] (by decide) rfl dX3_told_70 ?_
  refine k_aload_n C dX3_told_71 0 rfl ?_
  refine k_iload_n C dX3_told_72 2 rfl ?_
  refine k_iald C 1 rfl vi9_2 (ar9_l2 _) dX3_told_73 ?_
  have hL : fX3_told_2 b = b.2.2.1 := by exact rfl
  refine k_widen (k' := 1) (n' := 9) (Nat.le_of_ble_eq_true rfl) (Nat.le_of_ble_eq_true rfl) ?_
  refine k_wsub (w' := [(h, cL b)]) [0] rfl rfl ?_
  exact k_iretG C rfl (by rw [hL]; exact ⟨rfl, rfl⟩) dX3_told_74

noncomputable def fX3_told_3 (b : Lb) : Int32 :=
  b.2.2.2.1
set_option maxHeartbeats 4000000 in
set_option maxRecDepth 100000 in
theorem mX3_told_3 (l : Launch) (D : va_G) (cI cJ : ClassId) (h : Nat) (b : Lb) : kGi l D cI cJ yX3_told (.code yX3_told cX3_told 3 (some .int)) { frames := 0, cells := 1, slots := 9, locals := 0 } [.ref h, .int 3] [(h, cL b)] 1 9 (fun r U => r = fX3_told_3 b ∧ U = [(h, cL b)]) := by
  refine fun sz => k_ofN (lv := [(0, .ref h), (1, .int 3)]) (by decide) sz (Nat.le_of_ble_eq_true rfl) rfl ?_
  intro p e s m args below meth c hsz hnm C
  refine k_bipush C 9 (by decide) dX3_told_0 ?_
  refine k_newI C 9 (ar9 (0, 0, 0, 0, 0, 0, 0, 0, 0)) zf9 (by decide) (by decide) (by decide) (Nat.le_of_ble_eq_true rfl) (Nat.le_of_ble_eq_true rfl) dX3_told_2 (fun q1 => ?_)
  refine k_dup C rfl dX3_told_4 ?_
  refine k_iconst C 0 (by decide) dX3_told_5 ?_
  refine k_aload_n C dX3_told_6 0 rfl ?_
  refine k_getX3 C 0 0 rfl (by decide) rfl q510 rfl dX3_told_7 ?_
  refine k_iast C [(h, cL b), (q1, cA9 cI (b.1, 0, 0, 0, 0, 0, 0, 0, 0))] 1 rfl vi9_0 (ar9 (b.1, 0, 0, 0, 0, 0, 0, 0, 0)) (ar9_s0 _ _) rfl dX3_told_10 ?_
  refine k_dup C rfl dX3_told_11 ?_
  refine k_iconst C 1 (by decide) dX3_told_12 ?_
  refine k_aload_n C dX3_told_13 0 rfl ?_
  refine k_getX3 C 0 1 rfl (by decide) rfl q512 rfl dX3_told_14 ?_
  refine k_iast C [(h, cL b), (q1, cA9 cI (b.1, b.2.1, 0, 0, 0, 0, 0, 0, 0))] 1 rfl vi9_1 (ar9 (b.1, b.2.1, 0, 0, 0, 0, 0, 0, 0)) (ar9_s1 _ _) rfl dX3_told_17 ?_
  refine k_dup C rfl dX3_told_18 ?_
  refine k_iconst C 2 (by decide) dX3_told_19 ?_
  refine k_aload_n C dX3_told_20 0 rfl ?_
  refine k_getX3 C 0 2 rfl (by decide) rfl q514 rfl dX3_told_21 ?_
  refine k_iast C [(h, cL b), (q1, cA9 cI (b.1, b.2.1, b.2.2.1, 0, 0, 0, 0, 0, 0))] 1 rfl vi9_2 (ar9 (b.1, b.2.1, b.2.2.1, 0, 0, 0, 0, 0, 0)) (ar9_s2 _ _) rfl dX3_told_24 ?_
  refine k_dup C rfl dX3_told_25 ?_
  refine k_iconst C 3 (by decide) dX3_told_26 ?_
  refine k_aload_n C dX3_told_27 0 rfl ?_
  refine k_getX3 C 0 3 rfl (by decide) rfl q516 rfl dX3_told_28 ?_
  refine k_iast C [(h, cL b), (q1, cA9 cI (b.1, b.2.1, b.2.2.1, b.2.2.2.1, 0, 0, 0, 0, 0))] 1 rfl vi9_3 (ar9 (b.1, b.2.1, b.2.2.1, b.2.2.2.1, 0, 0, 0, 0, 0)) (ar9_s3 _ _) rfl dX3_told_31 ?_
  refine k_dup C rfl dX3_told_32 ?_
  refine k_iconst C 4 (by decide) dX3_told_33 ?_
  refine k_aload_n C dX3_told_34 0 rfl ?_
  refine k_getX3 C 0 4 rfl (by decide) rfl q517 rfl dX3_told_35 ?_
  refine k_iast C [(h, cL b), (q1, cA9 cI (b.1, b.2.1, b.2.2.1, b.2.2.2.1, b.2.2.2.2.1, 0, 0, 0, 0))] 1 rfl vi9_4 (ar9 (b.1, b.2.1, b.2.2.1, b.2.2.2.1, b.2.2.2.2.1, 0, 0, 0, 0)) (ar9_s4 _ _) rfl dX3_told_38 ?_
  refine k_dup C rfl dX3_told_39 ?_
  refine k_iconst C 5 (by decide) dX3_told_40 ?_
  refine k_aload_n C dX3_told_41 0 rfl ?_
  refine k_getX3 C 0 5 rfl (by decide) rfl q518 rfl dX3_told_42 ?_
  refine k_iast C [(h, cL b), (q1, cA9 cI (b.1, b.2.1, b.2.2.1, b.2.2.2.1, b.2.2.2.2.1, b.2.2.2.2.2.1, 0, 0, 0))] 1 rfl vi9_5 (ar9 (b.1, b.2.1, b.2.2.1, b.2.2.2.1, b.2.2.2.2.1, b.2.2.2.2.2.1, 0, 0, 0)) (ar9_s5 _ _) rfl dX3_told_45 ?_
  refine k_dup C rfl dX3_told_46 ?_
  refine k_bipush C 6 (by decide) dX3_told_47 ?_
  refine k_aload_n C dX3_told_49 0 rfl ?_
  refine k_getX3 C 0 6 rfl (by decide) rfl q519 rfl dX3_told_50 ?_
  refine k_iast C [(h, cL b), (q1, cA9 cI (b.1, b.2.1, b.2.2.1, b.2.2.2.1, b.2.2.2.2.1, b.2.2.2.2.2.1, b.2.2.2.2.2.2.1, 0, 0))] 1 rfl vi9_6 (ar9 (b.1, b.2.1, b.2.2.1, b.2.2.2.1, b.2.2.2.2.1, b.2.2.2.2.2.1, b.2.2.2.2.2.2.1, 0, 0)) (ar9_s6 _ _) rfl dX3_told_53 ?_
  refine k_dup C rfl dX3_told_54 ?_
  refine k_bipush C 7 (by decide) dX3_told_55 ?_
  refine k_aload_n C dX3_told_57 0 rfl ?_
  refine k_getX3 C 0 7 rfl (by decide) rfl q522 rfl dX3_told_58 ?_
  refine k_iast C [(h, cL b), (q1, cA9 cI (b.1, b.2.1, b.2.2.1, b.2.2.2.1, b.2.2.2.2.1, b.2.2.2.2.2.1, b.2.2.2.2.2.2.1, b.2.2.2.2.2.2.2.1, 0))] 1 rfl vi9_7 (ar9 (b.1, b.2.1, b.2.2.1, b.2.2.2.1, b.2.2.2.2.1, b.2.2.2.2.2.1, b.2.2.2.2.2.2.1, b.2.2.2.2.2.2.2.1, 0)) (ar9_s7 _ _) rfl dX3_told_61 ?_
  refine k_dup C rfl dX3_told_62 ?_
  refine k_bipush C 8 (by decide) dX3_told_63 ?_
  refine k_aload_n C dX3_told_65 0 rfl ?_
  refine k_getX3 C 0 8 rfl (by decide) rfl q523 rfl dX3_told_66 ?_
  refine k_iast C [(h, cL b), (q1, cA9 cI (b.1, b.2.1, b.2.2.1, b.2.2.2.1, b.2.2.2.2.1, b.2.2.2.2.2.1, b.2.2.2.2.2.2.1, b.2.2.2.2.2.2.2.1, b.2.2.2.2.2.2.2.2.1))] 1 rfl vi9_8 (ar9 (b.1, b.2.1, b.2.2.1, b.2.2.2.1, b.2.2.2.2.1, b.2.2.2.2.2.1, b.2.2.2.2.2.2.1, b.2.2.2.2.2.2.2.1, b.2.2.2.2.2.2.2.2.1)) (ar9_s8 _ _) rfl dX3_told_69 ?_
  refine k_astore_n C [(2, .ref q1), (0, .ref h), (1, .int 3)] (by decide) rfl dX3_told_70 ?_
  refine k_aload_n C dX3_told_71 0 rfl ?_
  refine k_iload_n C dX3_told_72 2 rfl ?_
  refine k_iald C 1 rfl vi9_3 (ar9_l3 _) dX3_told_73 ?_
  have hL : fX3_told_3 b = b.2.2.2.1 := by exact rfl
  refine k_widen (k' := 1) (n' := 9) (Nat.le_of_ble_eq_true rfl) (Nat.le_of_ble_eq_true rfl) ?_
  refine k_wsub (w' := [(h, cL b)]) [0] rfl rfl ?_
  exact k_iretG C rfl (by rw [hL]; exact ⟨rfl, rfl⟩) dX3_told_74

noncomputable def fX3_told_4 (b : Lb) : Int32 :=
  b.2.2.2.2.1
set_option maxHeartbeats 4000000 in
set_option maxRecDepth 100000 in
theorem mX3_told_4 (l : Launch) (D : va_G) (cI cJ : ClassId) (h : Nat) (b : Lb) : kGi l D cI cJ yX3_told (.code yX3_told cX3_told 3 (some .int)) { frames := 0, cells := 1, slots := 9, locals := 0 } [.ref h, .int 4] [(h, cL b)] 1 9 (fun r U => r = fX3_told_4 b ∧ U = [(h, cL b)]) := by
  refine fun sz => k_ofN (lv := [(0, .ref h), (1, .int 4)]) (by decide) sz (Nat.le_of_ble_eq_true rfl) rfl ?_
  intro p e s m args below meth c hsz hnm C
  refine k_bipush C 9 (by decide) dX3_told_0 ?_
  refine k_newI C 9 (ar9 (0, 0, 0, 0, 0, 0, 0, 0, 0)) zf9 (by decide) (by decide) (by decide) (Nat.le_of_ble_eq_true rfl) (Nat.le_of_ble_eq_true rfl) dX3_told_2 (fun q1 => ?_)
  refine k_dup C rfl dX3_told_4 ?_
  refine k_iconst C 0 (by decide) dX3_told_5 ?_
  refine k_aload_n C dX3_told_6 0 rfl ?_
  refine k_getX3 C 0 0 rfl (by decide) rfl q510 rfl dX3_told_7 ?_
  refine k_iast C [(h, cL b), (q1, cA9 cI (b.1, 0, 0, 0, 0, 0, 0, 0, 0))] 1 rfl vi9_0 (ar9 (b.1, 0, 0, 0, 0, 0, 0, 0, 0)) (ar9_s0 _ _) rfl dX3_told_10 ?_
  refine k_dup C rfl dX3_told_11 ?_
  refine k_iconst C 1 (by decide) dX3_told_12 ?_
  refine k_aload_n C dX3_told_13 0 rfl ?_
  refine k_getX3 C 0 1 rfl (by decide) rfl q512 rfl dX3_told_14 ?_
  refine k_iast C [(h, cL b), (q1, cA9 cI (b.1, b.2.1, 0, 0, 0, 0, 0, 0, 0))] 1 rfl vi9_1 (ar9 (b.1, b.2.1, 0, 0, 0, 0, 0, 0, 0)) (ar9_s1 _ _) rfl dX3_told_17 ?_
  refine k_dup C rfl dX3_told_18 ?_
  refine k_iconst C 2 (by decide) dX3_told_19 ?_
  refine k_aload_n C dX3_told_20 0 rfl ?_
  refine k_getX3 C 0 2 rfl (by decide) rfl q514 rfl dX3_told_21 ?_
  refine k_iast C [(h, cL b), (q1, cA9 cI (b.1, b.2.1, b.2.2.1, 0, 0, 0, 0, 0, 0))] 1 rfl vi9_2 (ar9 (b.1, b.2.1, b.2.2.1, 0, 0, 0, 0, 0, 0)) (ar9_s2 _ _) rfl dX3_told_24 ?_
  refine k_dup C rfl dX3_told_25 ?_
  refine k_iconst C 3 (by decide) dX3_told_26 ?_
  refine k_aload_n C dX3_told_27 0 rfl ?_
  refine k_getX3 C 0 3 rfl (by decide) rfl q516 rfl dX3_told_28 ?_
  refine k_iast C [(h, cL b), (q1, cA9 cI (b.1, b.2.1, b.2.2.1, b.2.2.2.1, 0, 0, 0, 0, 0))] 1 rfl vi9_3 (ar9 (b.1, b.2.1, b.2.2.1, b.2.2.2.1, 0, 0, 0, 0, 0)) (ar9_s3 _ _) rfl dX3_told_31 ?_
  refine k_dup C rfl dX3_told_32 ?_
  refine k_iconst C 4 (by decide) dX3_told_33 ?_
  refine k_aload_n C dX3_told_34 0 rfl ?_
  refine k_getX3 C 0 4 rfl (by decide) rfl q517 rfl dX3_told_35 ?_
  refine k_iast C [(h, cL b), (q1, cA9 cI (b.1, b.2.1, b.2.2.1, b.2.2.2.1, b.2.2.2.2.1, 0, 0, 0, 0))] 1 rfl vi9_4 (ar9 (b.1, b.2.1, b.2.2.1, b.2.2.2.1, b.2.2.2.2.1, 0, 0, 0, 0)) (ar9_s4 _ _) rfl dX3_told_38 ?_
  refine k_dup C rfl dX3_told_39 ?_
  refine k_iconst C 5 (by decide) dX3_told_40 ?_
  refine k_aload_n C dX3_told_41 0 rfl ?_
  refine k_getX3 C 0 5 rfl (by decide) rfl q518 rfl dX3_told_42 ?_
  refine k_iast C [(h, cL b), (q1, cA9 cI (b.1, b.2.1, b.2.2.1, b.2.2.2.1, b.2.2.2.2.1, b.2.2.2.2.2.1, 0, 0, 0))] 1 rfl vi9_5 (ar9 (b.1, b.2.1, b.2.2.1, b.2.2.2.1, b.2.2.2.2.1, b.2.2.2.2.2.1, 0, 0, 0)) (ar9_s5 _ _) rfl dX3_told_45 ?_
  refine k_dup C rfl dX3_told_46 ?_
  refine k_bipush C 6 (by decide) dX3_told_47 ?_
  refine k_aload_n C dX3_told_49 0 rfl ?_
  refine k_getX3 C 0 6 rfl (by decide) rfl q519 rfl dX3_told_50 ?_
  refine k_iast C [(h, cL b), (q1, cA9 cI (b.1, b.2.1, b.2.2.1, b.2.2.2.1, b.2.2.2.2.1, b.2.2.2.2.2.1, b.2.2.2.2.2.2.1, 0, 0))] 1 rfl vi9_6 (ar9 (b.1, b.2.1, b.2.2.1, b.2.2.2.1, b.2.2.2.2.1, b.2.2.2.2.2.1, b.2.2.2.2.2.2.1, 0, 0)) (ar9_s6 _ _) rfl dX3_told_53 ?_
  refine k_dup C rfl dX3_told_54 ?_
  refine k_bipush C 7 (by decide) dX3_told_55 ?_
  refine k_aload_n C dX3_told_57 0 rfl ?_
  refine k_getX3 C 0 7 rfl (by decide) rfl q522 rfl dX3_told_58 ?_
  refine k_iast C [(h, cL b), (q1, cA9 cI (b.1, b.2.1, b.2.2.1, b.2.2.2.1, b.2.2.2.2.1, b.2.2.2.2.2.1, b.2.2.2.2.2.2.1, b.2.2.2.2.2.2.2.1, 0))] 1 rfl vi9_7 (ar9 (b.1, b.2.1, b.2.2.1, b.2.2.2.1, b.2.2.2.2.1, b.2.2.2.2.2.1, b.2.2.2.2.2.2.1, b.2.2.2.2.2.2.2.1, 0)) (ar9_s7 _ _) rfl dX3_told_61 ?_
  refine k_dup C rfl dX3_told_62 ?_
  refine k_bipush C 8 (by decide) dX3_told_63 ?_
  refine k_aload_n C dX3_told_65 0 rfl ?_
  refine k_getX3 C 0 8 rfl (by decide) rfl q523 rfl dX3_told_66 ?_
  refine k_iast C [(h, cL b), (q1, cA9 cI (b.1, b.2.1, b.2.2.1, b.2.2.2.1, b.2.2.2.2.1, b.2.2.2.2.2.1, b.2.2.2.2.2.2.1, b.2.2.2.2.2.2.2.1, b.2.2.2.2.2.2.2.2.1))] 1 rfl vi9_8 (ar9 (b.1, b.2.1, b.2.2.1, b.2.2.2.1, b.2.2.2.2.1, b.2.2.2.2.2.1, b.2.2.2.2.2.2.1, b.2.2.2.2.2.2.2.1, b.2.2.2.2.2.2.2.2.1)) (ar9_s8 _ _) rfl dX3_told_69 ?_
  refine k_astore_n C [(2, .ref q1), (0, .ref h), (1, .int 4)] (by decide) rfl dX3_told_70 ?_
  refine k_aload_n C dX3_told_71 0 rfl ?_
  refine k_iload_n C dX3_told_72 2 rfl ?_
  refine k_iald C 1 rfl vi9_4 (ar9_l4 _) dX3_told_73 ?_
  have hL : fX3_told_4 b = b.2.2.2.2.1 := by exact rfl
  refine k_widen (k' := 1) (n' := 9) (Nat.le_of_ble_eq_true rfl) (Nat.le_of_ble_eq_true rfl) ?_
  refine k_wsub (w' := [(h, cL b)]) [0] rfl rfl ?_
  exact k_iretG C rfl (by rw [hL]; exact ⟨rfl, rfl⟩) dX3_told_74

noncomputable def fX3_told_5 (b : Lb) : Int32 :=
  b.2.2.2.2.2.1
set_option maxHeartbeats 4000000 in
set_option maxRecDepth 100000 in
theorem mX3_told_5 (l : Launch) (D : va_G) (cI cJ : ClassId) (h : Nat) (b : Lb) : kGi l D cI cJ yX3_told (.code yX3_told cX3_told 3 (some .int)) { frames := 0, cells := 1, slots := 9, locals := 0 } [.ref h, .int 5] [(h, cL b)] 1 9 (fun r U => r = fX3_told_5 b ∧ U = [(h, cL b)]) := by
  refine fun sz => k_ofN (lv := [(0, .ref h), (1, .int 5)]) (by decide) sz (Nat.le_of_ble_eq_true rfl) rfl ?_
  intro p e s m args below meth c hsz hnm C
  refine k_bipush C 9 (by decide) dX3_told_0 ?_
  refine k_newI C 9 (ar9 (0, 0, 0, 0, 0, 0, 0, 0, 0)) zf9 (by decide) (by decide) (by decide) (Nat.le_of_ble_eq_true rfl) (Nat.le_of_ble_eq_true rfl) dX3_told_2 (fun q1 => ?_)
  refine k_dup C rfl dX3_told_4 ?_
  refine k_iconst C 0 (by decide) dX3_told_5 ?_
  refine k_aload_n C dX3_told_6 0 rfl ?_
  refine k_getX3 C 0 0 rfl (by decide) rfl q510 rfl dX3_told_7 ?_
  refine k_iast C [(h, cL b), (q1, cA9 cI (b.1, 0, 0, 0, 0, 0, 0, 0, 0))] 1 rfl vi9_0 (ar9 (b.1, 0, 0, 0, 0, 0, 0, 0, 0)) (ar9_s0 _ _) rfl dX3_told_10 ?_
  refine k_dup C rfl dX3_told_11 ?_
  refine k_iconst C 1 (by decide) dX3_told_12 ?_
  refine k_aload_n C dX3_told_13 0 rfl ?_
  refine k_getX3 C 0 1 rfl (by decide) rfl q512 rfl dX3_told_14 ?_
  refine k_iast C [(h, cL b), (q1, cA9 cI (b.1, b.2.1, 0, 0, 0, 0, 0, 0, 0))] 1 rfl vi9_1 (ar9 (b.1, b.2.1, 0, 0, 0, 0, 0, 0, 0)) (ar9_s1 _ _) rfl dX3_told_17 ?_
  refine k_dup C rfl dX3_told_18 ?_
  refine k_iconst C 2 (by decide) dX3_told_19 ?_
  refine k_aload_n C dX3_told_20 0 rfl ?_
  refine k_getX3 C 0 2 rfl (by decide) rfl q514 rfl dX3_told_21 ?_
  refine k_iast C [(h, cL b), (q1, cA9 cI (b.1, b.2.1, b.2.2.1, 0, 0, 0, 0, 0, 0))] 1 rfl vi9_2 (ar9 (b.1, b.2.1, b.2.2.1, 0, 0, 0, 0, 0, 0)) (ar9_s2 _ _) rfl dX3_told_24 ?_
  refine k_dup C rfl dX3_told_25 ?_
  refine k_iconst C 3 (by decide) dX3_told_26 ?_
  refine k_aload_n C dX3_told_27 0 rfl ?_
  refine k_getX3 C 0 3 rfl (by decide) rfl q516 rfl dX3_told_28 ?_
  refine k_iast C [(h, cL b), (q1, cA9 cI (b.1, b.2.1, b.2.2.1, b.2.2.2.1, 0, 0, 0, 0, 0))] 1 rfl vi9_3 (ar9 (b.1, b.2.1, b.2.2.1, b.2.2.2.1, 0, 0, 0, 0, 0)) (ar9_s3 _ _) rfl dX3_told_31 ?_
  refine k_dup C rfl dX3_told_32 ?_
  refine k_iconst C 4 (by decide) dX3_told_33 ?_
  refine k_aload_n C dX3_told_34 0 rfl ?_
  refine k_getX3 C 0 4 rfl (by decide) rfl q517 rfl dX3_told_35 ?_
  refine k_iast C [(h, cL b), (q1, cA9 cI (b.1, b.2.1, b.2.2.1, b.2.2.2.1, b.2.2.2.2.1, 0, 0, 0, 0))] 1 rfl vi9_4 (ar9 (b.1, b.2.1, b.2.2.1, b.2.2.2.1, b.2.2.2.2.1, 0, 0, 0, 0)) (ar9_s4 _ _) rfl dX3_told_38 ?_
  refine k_dup C rfl dX3_told_39 ?_
  refine k_iconst C 5 (by decide) dX3_told_40 ?_
  refine k_aload_n C dX3_told_41 0 rfl ?_
  refine k_getX3 C 0 5 rfl (by decide) rfl q518 rfl dX3_told_42 ?_
  refine k_iast C [(h, cL b), (q1, cA9 cI (b.1, b.2.1, b.2.2.1, b.2.2.2.1, b.2.2.2.2.1, b.2.2.2.2.2.1, 0, 0, 0))] 1 rfl vi9_5 (ar9 (b.1, b.2.1, b.2.2.1, b.2.2.2.1, b.2.2.2.2.1, b.2.2.2.2.2.1, 0, 0, 0)) (ar9_s5 _ _) rfl dX3_told_45 ?_
  refine k_dup C rfl dX3_told_46 ?_
  refine k_bipush C 6 (by decide) dX3_told_47 ?_
  refine k_aload_n C dX3_told_49 0 rfl ?_
  refine k_getX3 C 0 6 rfl (by decide) rfl q519 rfl dX3_told_50 ?_
  refine k_iast C [(h, cL b), (q1, cA9 cI (b.1, b.2.1, b.2.2.1, b.2.2.2.1, b.2.2.2.2.1, b.2.2.2.2.2.1, b.2.2.2.2.2.2.1, 0, 0))] 1 rfl vi9_6 (ar9 (b.1, b.2.1, b.2.2.1, b.2.2.2.1, b.2.2.2.2.1, b.2.2.2.2.2.1, b.2.2.2.2.2.2.1, 0, 0)) (ar9_s6 _ _) rfl dX3_told_53 ?_
  refine k_dup C rfl dX3_told_54 ?_
  refine k_bipush C 7 (by decide) dX3_told_55 ?_
  refine k_aload_n C dX3_told_57 0 rfl ?_
  refine k_getX3 C 0 7 rfl (by decide) rfl q522 rfl dX3_told_58 ?_
  refine k_iast C [(h, cL b), (q1, cA9 cI (b.1, b.2.1, b.2.2.1, b.2.2.2.1, b.2.2.2.2.1, b.2.2.2.2.2.1, b.2.2.2.2.2.2.1, b.2.2.2.2.2.2.2.1, 0))] 1 rfl vi9_7 (ar9 (b.1, b.2.1, b.2.2.1, b.2.2.2.1, b.2.2.2.2.1, b.2.2.2.2.2.1, b.2.2.2.2.2.2.1, b.2.2.2.2.2.2.2.1, 0)) (ar9_s7 _ _) rfl dX3_told_61 ?_
  refine k_dup C rfl dX3_told_62 ?_
  refine k_bipush C 8 (by decide) dX3_told_63 ?_
  refine k_aload_n C dX3_told_65 0 rfl ?_
  refine k_getX3 C 0 8 rfl (by decide) rfl q523 rfl dX3_told_66 ?_
  refine k_iast C [(h, cL b), (q1, cA9 cI (b.1, b.2.1, b.2.2.1, b.2.2.2.1, b.2.2.2.2.1, b.2.2.2.2.2.1, b.2.2.2.2.2.2.1, b.2.2.2.2.2.2.2.1, b.2.2.2.2.2.2.2.2.1))] 1 rfl vi9_8 (ar9 (b.1, b.2.1, b.2.2.1, b.2.2.2.1, b.2.2.2.2.1, b.2.2.2.2.2.1, b.2.2.2.2.2.2.1, b.2.2.2.2.2.2.2.1, b.2.2.2.2.2.2.2.2.1)) (ar9_s8 _ _) rfl dX3_told_69 ?_
  refine k_astore_n C [(2, .ref q1), (0, .ref h), (1, .int 5)] (by decide) rfl dX3_told_70 ?_
  refine k_aload_n C dX3_told_71 0 rfl ?_
  refine k_iload_n C dX3_told_72 2 rfl ?_
  refine k_iald C 1 rfl vi9_5 (ar9_l5 _) dX3_told_73 ?_
  have hL : fX3_told_5 b = b.2.2.2.2.2.1 := by exact rfl
  refine k_widen (k' := 1) (n' := 9) (Nat.le_of_ble_eq_true rfl) (Nat.le_of_ble_eq_true rfl) ?_
  refine k_wsub (w' := [(h, cL b)]) [0] rfl rfl ?_
  exact k_iretG C rfl (by rw [hL]; exact ⟨rfl, rfl⟩) dX3_told_74
