/-! the ball by hand: a moment -/
theorem hdX3_go : yX3_go.cls ≠ "java/lang/invoke/MethodHandle" ∧ yX3_go.cls ≠ "java/lang/invoke/VarHandle" ∧ (parseMethodDescriptor yX3_go.desc).map (fun d => d.parameters.length) = some 0 := by decide +kernel
noncomputable def LX3_go (n : Nat) (tag : Nat) (n0 : Int32) (i0 : Int32) (b : Lb) : Option (Int32 × Lb) := match n with
  | 0 => none
  | n + 1 => match tag with
    | 0 =>
      if n0 ≤ i0 then (if 0 ≤ b.2.2.2.2.1 then LX3_go n 1 b.2.2.2.2.1 0 b
        else LX3_go n 1 (-b.2.2.2.2.1) 0 b)
      else (if b.2.2.2.1 ≤ 0 then (if (fX3_isFree (b.1 - 1) b.2.1) = 0 then LX3_go n 0 n0 (i0 + 1) (b.1, b.2.1, b.2.2.1, (-b.2.2.2.1), b.2.2.2.2.1, b.2.2.2.2.2.1, b.2.2.2.2.2.2.1, b.2.2.2.2.2.2.2.1, (b.2.2.2.2.2.2.2.2.1 + 1), b.2.2.2.2.2.2.2.2.2)
          else LX3_go n 0 n0 (i0 + 1) ((b.1 - 1), b.2))
        else (if (fX3_isFree (b.1 + 1) b.2.1) = 0 then LX3_go n 0 n0 (i0 + 1) (b.1, b.2.1, b.2.2.1, (-b.2.2.2.1), b.2.2.2.2.1, b.2.2.2.2.2.1, b.2.2.2.2.2.2.1, b.2.2.2.2.2.2.2.1, (b.2.2.2.2.2.2.2.2.1 + 1), b.2.2.2.2.2.2.2.2.2)
          else LX3_go n 0 n0 (i0 + 1) ((b.1 + 1), b.2)))
    | _ =>
      if n0 ≤ i0 then (if 1 ≤ (b.2.2.1 + b.2.2.2.2.2.1) then some (0, (b.1, b.2.1, (b.2.2.1 + b.2.2.2.2.2.1), b.2.2.2.1, b.2.2.2.2.1, (b.2.2.2.2.2.1 - 1), b.2.2.2.2.2.2))
        else (if 0 ≤ (b.2.2.2.2.2.1 - 1) then some (0, (b.1, b.2.1, (b.2.2.1 + b.2.2.2.2.2.1), b.2.2.2.1, b.2.2.2.2.1, (b.2.2.2.2.2.1 - 1), b.2.2.2.2.2.2))
          else (if b.2.2.2.2.2.2.1 = 0 then some (1, (b.1, b.2.1, 0, b.2.2.2.1, b.2.2.2.2.1, ((0 - (b.2.2.2.2.2.1 - 1)) / 2), b.2.2.2.2.2.2.1, (b.2.2.2.2.2.2.2.1 + 1), b.2.2.2.2.2.2.2.2))
            else (if (b.2.2.2.2.2.2.2.1 + 1) ≤ 1 then some (0, (b.1, b.2.1, 0, b.2.2.2.1, b.2.2.2.2.1, ((0 - (b.2.2.2.2.2.1 - 1)) / 2), b.2.2.2.2.2.2.1, (b.2.2.2.2.2.2.2.1 + 1), b.2.2.2.2.2.2.2.2))
              else some (3, (b.1, b.2.1, 0, b.2.2.2.1, b.2.2.2.2.1, ((0 - (b.2.2.2.2.2.1 - 1)) / 2), b.2.2.2.2.2.2.1, (b.2.2.2.2.2.2.2.1 + 1), b.2.2.2.2.2.2.2.2))))))
      else (if b.2.2.2.2.1 ≤ 0 then (if (b.2.1 - 1) ≤ 29 then (if 0 ≤ (b.2.1 - 1) then (if (fX3_isFree b.1 (b.2.1 - 1)) = 0 then LX3_go n 1 n0 (i0 + 1) (b.1, b.2.1, b.2.2.1, b.2.2.2.1, (-b.2.2.2.2.1), b.2.2.2.2.2.1, b.2.2.2.2.2.2.1, b.2.2.2.2.2.2.2.1, (b.2.2.2.2.2.2.2.2.1 + 1), b.2.2.2.2.2.2.2.2.2)
              else LX3_go n 1 n0 (i0 + 1) (b.1, (b.2.1 - 1), b.2.2))
            else (if 3 < b.2.2.1 then LX3_go n 1 n0 (i0 + 1) (b.1, b.2.1, b.2.2.1, b.2.2.2.1, (-b.2.2.2.2.1), b.2.2.2.2.2.1, (b.2.2.2.2.2.2.1 + 1), b.2.2.2.2.2.2.2)
              else some (1, (b.1, b.2.1, b.2.2.1, b.2.2.2.1, (-b.2.2.2.2.1), b.2.2.2.2.2.1, (b.2.2.2.2.2.2.1 + 1), b.2.2.2.2.2.2.2))))
          else (if b.2.2.2.2.2.2.2.1 = 0 then some (2, b)
            else some (3, b)))
        else (if (b.2.1 + 1) ≤ 29 then (if 0 ≤ (b.2.1 + 1) then (if (fX3_isFree b.1 (b.2.1 + 1)) = 0 then LX3_go n 1 n0 (i0 + 1) (b.1, b.2.1, b.2.2.1, b.2.2.2.1, (-b.2.2.2.2.1), b.2.2.2.2.2.1, b.2.2.2.2.2.2.1, b.2.2.2.2.2.2.2.1, (b.2.2.2.2.2.2.2.2.1 + 1), b.2.2.2.2.2.2.2.2.2)
              else LX3_go n 1 n0 (i0 + 1) (b.1, (b.2.1 + 1), b.2.2))
            else (if 3 < b.2.2.1 then LX3_go n 1 n0 (i0 + 1) (b.1, b.2.1, b.2.2.1, b.2.2.2.1, (-b.2.2.2.2.1), b.2.2.2.2.2.1, (b.2.2.2.2.2.2.1 + 1), b.2.2.2.2.2.2.2)
              else some (1, (b.1, b.2.1, b.2.2.1, b.2.2.2.1, (-b.2.2.2.2.1), b.2.2.2.2.2.1, (b.2.2.2.2.2.2.1 + 1), b.2.2.2.2.2.2.2))))
          else (if b.2.2.2.2.2.2.2.1 = 0 then some (2, b)
            else some (3, b))))
set_option maxHeartbeats 4000000 in
set_option maxRecDepth 100000 in
theorem lX3_go {p : Program} {e : Env} {s : State} {m : MethodId} {args : Array Value} {below : List Frame} {meth : Method} {c : Code} {A : Nat → Prop} (l : Launch) {D : va_G} {cI cJ : ClassId} (h : Nat)  (C : kCx p s m args meth c RX3 cX3_go 4 (some .int) D cI cJ A) : ∀ (n : Nat), (∀ (n0 : Int32) (i0 : Int32) (b : Lb) (res : Int32 × Lb), LX3_go n 0 n0 i0 b = some res → kW p l e { frames := 1, cells := 0, slots := 0, locals := 21 } s m args below meth c D A 4 0 0 (MQ below (va_Qi (fun (r : Int32) (_ : Unit) => r = res.1) (fun _ t => va_P D kCl [(h, cL res.2)] t.heap) A) args s 0 0 A) [(h, cL b)] 32 [(0, .ref h), (1, .int n0), (2, .int i0)] []) ∧ (∀ (n0 : Int32) (i0 : Int32) (b : Lb) (res : Int32 × Lb), LX3_go n 1 n0 i0 b = some res → kW p l e { frames := 1, cells := 0, slots := 0, locals := 21 } s m args below meth c D A 4 0 0 (MQ below (va_Qi (fun (r : Int32) (_ : Unit) => r = res.1) (fun _ t => va_P D kCl [(h, cL res.2)] t.heap) A) args s 0 0 A) [(h, cL b)] 126 [(0, .ref h), (1, .int n0), (2, .int i0)] []) := by
  intro n
  induction n with
  | zero => exact ⟨fun _ _ _ _ hr => absurd hr (fun h => nomatch h), fun _ _ _ _ hr => absurd hr (fun h => nomatch h)⟩
  | succ n ih =>
    refine ⟨?_, ?_⟩
    · intro n0 i0 b res hr
      refine k_iload_n C dX3_go_32 2 rfl ?_
      refine k_iload_n C dX3_go_33 1 rfl ?_
      refine k_icmp_ge C 104 (by decide) dX3_go_34 (fun c2 => ?_) (fun c2 => ?_)
      ·
        refine k_aload_n C dX3_go_104 0 rfl ?_
        refine k_getX3 C 0 4 rfl (by decide) rfl q517 rfl dX3_go_105 ?_
        refine k_if_ge C 119 (by decide) dX3_go_108 (fun c3 => ?_) (fun c3 => ?_)
        ·
          refine k_aload_n C dX3_go_119 0 rfl ?_
          refine k_getX3 C 0 4 rfl (by decide) rfl q517 rfl dX3_go_120 ?_
          refine k_istore_n C [(1, .int b.2.2.2.2.1), (0, .ref h), (2, .int i0)] (by decide) rfl dX3_go_123 ?_
          refine k_iconst C 0 (by decide) dX3_go_124 ?_
          refine k_istore_n C [(2, .int 0), (1, .int b.2.2.2.2.1), (0, .ref h)] (by decide) rfl dX3_go_125 ?_
          have hL : LX3_go (n + 1) 0 n0 i0 b = LX3_go n 1 b.2.2.2.2.1 0 b := by exact (if_pos c2).trans ((if_pos c3).trans rfl)
          refine k_sub [2, 1, 0] rfl ?_
          exact ih.2 b.2.2.2.2.1 0 b res (hL.symm.trans hr)
        ·
          refine k_aload_n C dX3_go_111 0 rfl ?_
          refine k_getX3 C 0 4 rfl (by decide) rfl q517 rfl dX3_go_112 ?_
          refine k_ineg C dX3_go_115 ?_
          refine k_goto C 123 (by decide) dX3_go_116 ?_
          refine k_istore_n C [(1, .int (-b.2.2.2.2.1)), (0, .ref h), (2, .int i0)] (by decide) rfl dX3_go_123 ?_
          refine k_iconst C 0 (by decide) dX3_go_124 ?_
          refine k_istore_n C [(2, .int 0), (1, .int (-b.2.2.2.2.1)), (0, .ref h)] (by decide) rfl dX3_go_125 ?_
          have hL : LX3_go (n + 1) 0 n0 i0 b = LX3_go n 1 (-b.2.2.2.2.1) 0 b := by exact (if_pos c2).trans ((if_neg c3).trans rfl)
          refine k_sub [2, 1, 0] rfl ?_
          exact ih.2 (-b.2.2.2.2.1) 0 b res (hL.symm.trans hr)
      ·
        refine k_aload_n C dX3_go_37 0 rfl ?_
        refine k_getX3 C 0 3 rfl (by decide) rfl q516 rfl dX3_go_38 ?_
        refine k_if_le C 53 (by decide) dX3_go_41 (fun c4 => ?_) (fun c4 => ?_)
        ·
          refine k_aload_n C dX3_go_53 0 rfl ?_
          refine k_getX3 C 0 0 rfl (by decide) rfl q510 rfl dX3_go_54 ?_
          refine k_iconst C 1 (by decide) dX3_go_57 ?_
          refine k_isub C dX3_go_58 ?_
          refine k_istore_n C [(3, .int (b.1 - 1)), (0, .ref h), (1, .int n0), (2, .int i0)] (by decide) rfl dX3_go_59 ?_
          refine k_iload_n C dX3_go_60 0 rfl ?_
          refine k_aload_n C dX3_go_61 1 rfl ?_
          refine k_getX3 C 0 1 rfl (by decide) rfl q512 rfl dX3_go_62 ?_
          refine k_callS_i C (mX3_isFree l D cI cJ (b.1 - 1) b.2.1) (va_cwS 2 C.2.2.2.2.1 (kGS q550 q551 q47 q552) rfl rfl rfl hdX3_isFree ⟨Nat.le_of_ble_eq_true rfl, Nat.le_of_ble_eq_true rfl⟩) [] [0] [0] [(h, cL b)] ([(h, cL b)]) rfl rfl rfl rfl (by decide) [] rfl rfl rfl rfl (Nat.le_of_ble_eq_true rfl) ⟨Nat.zero_le _, Nat.zero_le _⟩ rfl dX3_go_65 ?_
          generalize er5 : fX3_isFree (b.1 - 1) b.2.1 = r5
          refine k_if_eq C 79 (by decide) dX3_go_68 (fun c6 => ?_) (fun c6 => ?_)
          ·
            refine k_aload_n C dX3_go_79 1 rfl ?_
            refine k_aload_n C dX3_go_80 1 rfl ?_
            refine k_getX3 C 0 3 rfl (by decide) rfl q516 rfl dX3_go_81 ?_
            refine k_ineg C dX3_go_84 ?_
            refine k_putX3 C [(h, cL (b.1, b.2.1, b.2.2.1, (-b.2.2.2.1), b.2.2.2.2))] 0 3 rfl rfl (by decide) q516 rfl rfl fdI rfl rfl (Nat.le_of_ble_eq_true rfl) dX3_go_85 ?_
            refine k_aload_n C dX3_go_88 1 rfl ?_
            refine k_dup C rfl dX3_go_89 ?_
            refine k_getX3 C 0 8 rfl (by decide) rfl q523 rfl dX3_go_90 ?_
            refine k_iconst C 1 (by decide) dX3_go_93 ?_
            refine k_iadd C dX3_go_94 ?_
            refine k_putX3 C [(h, cL (b.1, b.2.1, b.2.2.1, (-b.2.2.2.1), b.2.2.2.2.1, b.2.2.2.2.2.1, b.2.2.2.2.2.2.1, b.2.2.2.2.2.2.2.1, (b.2.2.2.2.2.2.2.2.1 + 1), b.2.2.2.2.2.2.2.2.2))] 0 8 rfl rfl (by decide) q523 rfl rfl fdI rfl rfl (Nat.le_of_ble_eq_true rfl) dX3_go_95 ?_
            refine k_iinc C (i0 + 1) [(2, .int (i0 + 1)), (3, .int (b.1 - 1)), (0, .ref h), (1, .int n0)] 3 rfl rfl (by decide) rfl dX3_go_98 ?_
            refine k_goto C 32 (by decide) dX3_go_101 ?_
            have hL : LX3_go (n + 1) 0 n0 i0 b = LX3_go n 0 n0 (i0 + 1) (b.1, b.2.1, b.2.2.1, (-b.2.2.2.1), b.2.2.2.2.1, b.2.2.2.2.2.1, b.2.2.2.2.2.2.1, b.2.2.2.2.2.2.2.1, (b.2.2.2.2.2.2.2.2.1 + 1), b.2.2.2.2.2.2.2.2.2) := by subst er5; exact (if_neg c2).trans ((if_pos c4).trans ((if_pos c6).trans rfl))
            refine k_sub [2, 3, 0] rfl ?_
            exact ih.1 n0 (i0 + 1) (b.1, b.2.1, b.2.2.1, (-b.2.2.2.1), b.2.2.2.2.1, b.2.2.2.2.2.1, b.2.2.2.2.2.2.1, b.2.2.2.2.2.2.2.1, (b.2.2.2.2.2.2.2.2.1 + 1), b.2.2.2.2.2.2.2.2.2) res (hL.symm.trans hr)
          ·
            refine k_aload_n C dX3_go_71 1 rfl ?_
            refine k_iload_n C dX3_go_72 0 rfl ?_
            refine k_putX3 C [(h, cL ((b.1 - 1), b.2))] 0 0 rfl rfl (by decide) q510 rfl rfl fdI rfl rfl (Nat.le_of_ble_eq_true rfl) dX3_go_73 ?_
            refine k_goto C 98 (by decide) dX3_go_76 ?_
            refine k_iinc C (i0 + 1) [(2, .int (i0 + 1)), (3, .int (b.1 - 1)), (0, .ref h), (1, .int n0)] 3 rfl rfl (by decide) rfl dX3_go_98 ?_
            refine k_goto C 32 (by decide) dX3_go_101 ?_
            have hL : LX3_go (n + 1) 0 n0 i0 b = LX3_go n 0 n0 (i0 + 1) ((b.1 - 1), b.2) := by subst er5; exact (if_neg c2).trans ((if_pos c4).trans ((if_neg c6).trans rfl))
            refine k_sub [2, 3, 0] rfl ?_
            exact ih.1 n0 (i0 + 1) ((b.1 - 1), b.2) res (hL.symm.trans hr)
        ·
          refine k_aload_n C dX3_go_44 0 rfl ?_
          refine k_getX3 C 0 0 rfl (by decide) rfl q510 rfl dX3_go_45 ?_
          refine k_iconst C 1 (by decide) dX3_go_48 ?_
          refine k_iadd C dX3_go_49 ?_
          refine k_goto C 59 (by decide) dX3_go_50 ?_
          refine k_istore_n C [(3, .int (b.1 + 1)), (0, .ref h), (1, .int n0), (2, .int i0)] (by decide) rfl dX3_go_59 ?_
          refine k_iload_n C dX3_go_60 0 rfl ?_
          refine k_aload_n C dX3_go_61 1 rfl ?_
          refine k_getX3 C 0 1 rfl (by decide) rfl q512 rfl dX3_go_62 ?_
          refine k_callS_i C (mX3_isFree l D cI cJ (b.1 + 1) b.2.1) (va_cwS 2 C.2.2.2.2.1 (kGS q550 q551 q47 q552) rfl rfl rfl hdX3_isFree ⟨Nat.le_of_ble_eq_true rfl, Nat.le_of_ble_eq_true rfl⟩) [] [0] [0] [(h, cL b)] ([(h, cL b)]) rfl rfl rfl rfl (by decide) [] rfl rfl rfl rfl (Nat.le_of_ble_eq_true rfl) ⟨Nat.zero_le _, Nat.zero_le _⟩ rfl dX3_go_65 ?_
          generalize er7 : fX3_isFree (b.1 + 1) b.2.1 = r7
          refine k_if_eq C 79 (by decide) dX3_go_68 (fun c8 => ?_) (fun c8 => ?_)
          ·
            refine k_aload_n C dX3_go_79 1 rfl ?_
            refine k_aload_n C dX3_go_80 1 rfl ?_
            refine k_getX3 C 0 3 rfl (by decide) rfl q516 rfl dX3_go_81 ?_
            refine k_ineg C dX3_go_84 ?_
            refine k_putX3 C [(h, cL (b.1, b.2.1, b.2.2.1, (-b.2.2.2.1), b.2.2.2.2))] 0 3 rfl rfl (by decide) q516 rfl rfl fdI rfl rfl (Nat.le_of_ble_eq_true rfl) dX3_go_85 ?_
            refine k_aload_n C dX3_go_88 1 rfl ?_
            refine k_dup C rfl dX3_go_89 ?_
            refine k_getX3 C 0 8 rfl (by decide) rfl q523 rfl dX3_go_90 ?_
            refine k_iconst C 1 (by decide) dX3_go_93 ?_
            refine k_iadd C dX3_go_94 ?_
            refine k_putX3 C [(h, cL (b.1, b.2.1, b.2.2.1, (-b.2.2.2.1), b.2.2.2.2.1, b.2.2.2.2.2.1, b.2.2.2.2.2.2.1, b.2.2.2.2.2.2.2.1, (b.2.2.2.2.2.2.2.2.1 + 1), b.2.2.2.2.2.2.2.2.2))] 0 8 rfl rfl (by decide) q523 rfl rfl fdI rfl rfl (Nat.le_of_ble_eq_true rfl) dX3_go_95 ?_
            refine k_iinc C (i0 + 1) [(2, .int (i0 + 1)), (3, .int (b.1 + 1)), (0, .ref h), (1, .int n0)] 3 rfl rfl (by decide) rfl dX3_go_98 ?_
            refine k_goto C 32 (by decide) dX3_go_101 ?_
            have hL : LX3_go (n + 1) 0 n0 i0 b = LX3_go n 0 n0 (i0 + 1) (b.1, b.2.1, b.2.2.1, (-b.2.2.2.1), b.2.2.2.2.1, b.2.2.2.2.2.1, b.2.2.2.2.2.2.1, b.2.2.2.2.2.2.2.1, (b.2.2.2.2.2.2.2.2.1 + 1), b.2.2.2.2.2.2.2.2.2) := by subst er7; exact (if_neg c2).trans ((if_neg c4).trans ((if_pos c8).trans rfl))
            refine k_sub [2, 3, 0] rfl ?_
            exact ih.1 n0 (i0 + 1) (b.1, b.2.1, b.2.2.1, (-b.2.2.2.1), b.2.2.2.2.1, b.2.2.2.2.2.1, b.2.2.2.2.2.2.1, b.2.2.2.2.2.2.2.1, (b.2.2.2.2.2.2.2.2.1 + 1), b.2.2.2.2.2.2.2.2.2) res (hL.symm.trans hr)
          ·
            refine k_aload_n C dX3_go_71 1 rfl ?_
            refine k_iload_n C dX3_go_72 0 rfl ?_
            refine k_putX3 C [(h, cL ((b.1 + 1), b.2))] 0 0 rfl rfl (by decide) q510 rfl rfl fdI rfl rfl (Nat.le_of_ble_eq_true rfl) dX3_go_73 ?_
            refine k_goto C 98 (by decide) dX3_go_76 ?_
            refine k_iinc C (i0 + 1) [(2, .int (i0 + 1)), (3, .int (b.1 + 1)), (0, .ref h), (1, .int n0)] 3 rfl rfl (by decide) rfl dX3_go_98 ?_
            refine k_goto C 32 (by decide) dX3_go_101 ?_
            have hL : LX3_go (n + 1) 0 n0 i0 b = LX3_go n 0 n0 (i0 + 1) ((b.1 + 1), b.2) := by subst er7; exact (if_neg c2).trans ((if_neg c4).trans ((if_neg c8).trans rfl))
            refine k_sub [2, 3, 0] rfl ?_
            exact ih.1 n0 (i0 + 1) ((b.1 + 1), b.2) res (hL.symm.trans hr)
    · intro n0 i0 b res hr
      refine k_iload_n C dX3_go_126 2 rfl ?_
      refine k_iload_n C dX3_go_127 1 rfl ?_
      refine k_icmp_ge C 250 (by decide) dX3_go_128 (fun c9 => ?_) (fun c9 => ?_)
      ·
        refine k_aload_n C dX3_go_250 0 rfl ?_
        refine k_dup C rfl dX3_go_251 ?_
        refine k_getX3 C 0 2 rfl (by decide) rfl q514 rfl dX3_go_252 ?_
        refine k_aload_n C dX3_go_255 0 rfl ?_
        refine k_getX3 C 0 5 rfl (by decide) rfl q518 rfl dX3_go_256 ?_
        refine k_iadd C dX3_go_259 ?_
        refine k_putX3 C [(h, cL (b.1, b.2.1, (b.2.2.1 + b.2.2.2.2.2.1), b.2.2.2))] 0 2 rfl rfl (by decide) q514 rfl rfl fdI rfl rfl (Nat.le_of_ble_eq_true rfl) dX3_go_260 ?_
        refine k_aload_n C dX3_go_263 0 rfl ?_
        refine k_dup C rfl dX3_go_264 ?_
        refine k_getX3 C 0 5 rfl (by decide) rfl q518 rfl dX3_go_265 ?_
        refine k_iconst C 1 (by decide) dX3_go_268 ?_
        refine k_isub C dX3_go_269 ?_
        refine k_putX3 C [(h, cL (b.1, b.2.1, (b.2.2.1 + b.2.2.2.2.2.1), b.2.2.2.1, b.2.2.2.2.1, (b.2.2.2.2.2.1 - 1), b.2.2.2.2.2.2))] 0 5 rfl rfl (by decide) q518 rfl rfl fdI rfl rfl (Nat.le_of_ble_eq_true rfl) dX3_go_270 ?_
        refine k_aload_n C dX3_go_273 0 rfl ?_
        refine k_getX3 C 0 2 rfl (by decide) rfl q514 rfl dX3_go_274 ?_
        refine k_iconst C 1 (by decide) dX3_go_277 ?_
        refine k_icmp_ge C 334 (by decide) dX3_go_278 (fun c10 => ?_) (fun c10 => ?_)
        ·
          refine k_iconst C 0 (by decide) dX3_go_334 ?_
          have hL : LX3_go (n + 1) 1 n0 i0 b = some (0, (b.1, b.2.1, (b.2.2.1 + b.2.2.2.2.2.1), b.2.2.2.1, b.2.2.2.2.1, (b.2.2.2.2.2.1 - 1), b.2.2.2.2.2.2)) := by exact (if_pos c9).trans ((if_pos c10).trans rfl)
          obtain rfl := Option.some.inj (hL.symm.trans hr)
          exact k_iret C rfl rfl rfl dX3_go_335
        ·
          refine k_aload_n C dX3_go_281 0 rfl ?_
          refine k_getX3 C 0 5 rfl (by decide) rfl q518 rfl dX3_go_282 ?_
          refine k_if_ge C 334 (by decide) dX3_go_285 (fun c11 => ?_) (fun c11 => ?_)
          ·
            refine k_iconst C 0 (by decide) dX3_go_334 ?_
            have hL : LX3_go (n + 1) 1 n0 i0 b = some (0, (b.1, b.2.1, (b.2.2.1 + b.2.2.2.2.2.1), b.2.2.2.1, b.2.2.2.2.1, (b.2.2.2.2.2.1 - 1), b.2.2.2.2.2.2)) := by exact (if_pos c9).trans ((if_neg c10).trans ((if_pos c11).trans rfl))
            obtain rfl := Option.some.inj (hL.symm.trans hr)
            exact k_iret C rfl rfl rfl dX3_go_335
          ·
            refine k_aload_n C dX3_go_288 0 rfl ?_
            refine k_iconst C 0 (by decide) dX3_go_289 ?_
            refine k_putX3 C [(h, cL (b.1, b.2.1, 0, b.2.2.2.1, b.2.2.2.2.1, (b.2.2.2.2.2.1 - 1), b.2.2.2.2.2.2))] 0 2 rfl rfl (by decide) q514 rfl rfl fdI rfl rfl (Nat.le_of_ble_eq_true rfl) dX3_go_290 ?_
            refine k_aload_n C dX3_go_293 0 rfl ?_
            refine k_iconst C 0 (by decide) dX3_go_294 ?_
            refine k_aload_n C dX3_go_295 0 rfl ?_
            refine k_getX3 C 0 5 rfl (by decide) rfl q518 rfl dX3_go_296 ?_
            refine k_isub C dX3_go_299 ?_
            refine k_iconst C 2 (by decide) dX3_go_300 ?_
            refine k_idiv C (by decide) dX3_go_301 ?_
            refine k_putX3 C [(h, cL (b.1, b.2.1, 0, b.2.2.2.1, b.2.2.2.2.1, ((0 - (b.2.2.2.2.2.1 - 1)) / 2), b.2.2.2.2.2.2))] 0 5 rfl rfl (by decide) q518 rfl rfl fdI rfl rfl (Nat.le_of_ble_eq_true rfl) dX3_go_302 ?_
            refine k_aload_n C dX3_go_305 0 rfl ?_
            refine k_dup C rfl dX3_go_306 ?_
            refine k_getX3 C 0 7 rfl (by decide) rfl q522 rfl dX3_go_307 ?_
            refine k_iconst C 1 (by decide) dX3_go_310 ?_
            refine k_iadd C dX3_go_311 ?_
            refine k_putX3 C [(h, cL (b.1, b.2.1, 0, b.2.2.2.1, b.2.2.2.2.1, ((0 - (b.2.2.2.2.2.1 - 1)) / 2), b.2.2.2.2.2.2.1, (b.2.2.2.2.2.2.2.1 + 1), b.2.2.2.2.2.2.2.2))] 0 7 rfl rfl (by decide) q522 rfl rfl fdI rfl rfl (Nat.le_of_ble_eq_true rfl) dX3_go_312 ?_
            refine k_aload_n C dX3_go_315 0 rfl ?_
            refine k_getX3 C 0 6 rfl (by decide) rfl q519 rfl dX3_go_316 ?_
            refine k_if_ne C 324 (by decide) dX3_go_319 (fun c12 => ?_) (fun c12 => ?_)
            ·
              refine k_aload_n C dX3_go_324 0 rfl ?_
              refine k_getX3 C 0 7 rfl (by decide) rfl q522 rfl dX3_go_325 ?_
              refine k_iconst C 1 (by decide) dX3_go_328 ?_
              refine k_icmp_le C 334 (by decide) dX3_go_329 (fun c13 => ?_) (fun c13 => ?_)
              ·
                refine k_iconst C 0 (by decide) dX3_go_334 ?_
                have hL : LX3_go (n + 1) 1 n0 i0 b = some (0, (b.1, b.2.1, 0, b.2.2.2.1, b.2.2.2.2.1, ((0 - (b.2.2.2.2.2.1 - 1)) / 2), b.2.2.2.2.2.2.1, (b.2.2.2.2.2.2.2.1 + 1), b.2.2.2.2.2.2.2.2)) := by exact (if_pos c9).trans ((if_neg c10).trans ((if_neg c11).trans ((if_neg c12).trans ((if_pos c13).trans rfl))))
                obtain rfl := Option.some.inj (hL.symm.trans hr)
                exact k_iret C rfl rfl rfl dX3_go_335
              ·
                refine k_iconst C 3 (by decide) dX3_go_332 ?_
                have hL : LX3_go (n + 1) 1 n0 i0 b = some (3, (b.1, b.2.1, 0, b.2.2.2.1, b.2.2.2.2.1, ((0 - (b.2.2.2.2.2.1 - 1)) / 2), b.2.2.2.2.2.2.1, (b.2.2.2.2.2.2.2.1 + 1), b.2.2.2.2.2.2.2.2)) := by exact (if_pos c9).trans ((if_neg c10).trans ((if_neg c11).trans ((if_neg c12).trans ((if_neg c13).trans rfl))))
                obtain rfl := Option.some.inj (hL.symm.trans hr)
                exact k_iret C rfl rfl rfl dX3_go_333
            ·
              refine k_iconst C 1 (by decide) dX3_go_322 ?_
              have hL : LX3_go (n + 1) 1 n0 i0 b = some (1, (b.1, b.2.1, 0, b.2.2.2.1, b.2.2.2.2.1, ((0 - (b.2.2.2.2.2.1 - 1)) / 2), b.2.2.2.2.2.2.1, (b.2.2.2.2.2.2.2.1 + 1), b.2.2.2.2.2.2.2.2)) := by exact (if_pos c9).trans ((if_neg c10).trans ((if_neg c11).trans ((if_pos c12).trans rfl)))
              obtain rfl := Option.some.inj (hL.symm.trans hr)
              exact k_iret C rfl rfl rfl dX3_go_323
      ·
        refine k_aload_n C dX3_go_131 0 rfl ?_
        refine k_getX3 C 0 4 rfl (by decide) rfl q517 rfl dX3_go_132 ?_
        refine k_if_le C 147 (by decide) dX3_go_135 (fun c14 => ?_) (fun c14 => ?_)
        ·
          refine k_aload_n C dX3_go_147 0 rfl ?_
          refine k_getX3 C 0 1 rfl (by decide) rfl q512 rfl dX3_go_148 ?_
          refine k_iconst C 1 (by decide) dX3_go_151 ?_
          refine k_isub C dX3_go_152 ?_
          refine k_istore_n C [(3, .int (b.2.1 - 1)), (0, .ref h), (1, .int n0), (2, .int i0)] (by decide) rfl dX3_go_153 ?_
          refine k_iload_n C dX3_go_154 0 rfl ?_
          refine k_bipush C 29 (by decide) dX3_go_155 ?_
          refine k_icmp_le C 173 (by decide) dX3_go_157 (fun c15 => ?_) (fun c15 => ?_)
          ·
            refine k_iload_n C dX3_go_173 0 rfl ?_
            refine k_if_ge C 206 (by decide) dX3_go_174 (fun c16 => ?_) (fun c16 => ?_)
            ·
              refine k_aload_n C dX3_go_206 1 rfl ?_
              refine k_getX3 C 0 0 rfl (by decide) rfl q510 rfl dX3_go_207 ?_
              refine k_iload_n C dX3_go_210 0 rfl ?_
              refine k_callS_i C (mX3_isFree l D cI cJ b.1 (b.2.1 - 1)) (va_cwS 2 C.2.2.2.2.1 (kGS q550 q551 q47 q552) rfl rfl rfl hdX3_isFree ⟨Nat.le_of_ble_eq_true rfl, Nat.le_of_ble_eq_true rfl⟩) [] [0] [0] [(h, cL b)] ([(h, cL b)]) rfl rfl rfl rfl (by decide) [] rfl rfl rfl rfl (Nat.le_of_ble_eq_true rfl) ⟨Nat.zero_le _, Nat.zero_le _⟩ rfl dX3_go_211 ?_
              generalize er17 : fX3_isFree b.1 (b.2.1 - 1) = r17
              refine k_if_eq C 225 (by decide) dX3_go_214 (fun c18 => ?_) (fun c18 => ?_)
              ·
                refine k_aload_n C dX3_go_225 1 rfl ?_
                refine k_aload_n C dX3_go_226 1 rfl ?_
                refine k_getX3 C 0 4 rfl (by decide) rfl q517 rfl dX3_go_227 ?_
                refine k_ineg C dX3_go_230 ?_
                refine k_putX3 C [(h, cL (b.1, b.2.1, b.2.2.1, b.2.2.2.1, (-b.2.2.2.2.1), b.2.2.2.2.2))] 0 4 rfl rfl (by decide) q517 rfl rfl fdI rfl rfl (Nat.le_of_ble_eq_true rfl) dX3_go_231 ?_
                refine k_aload_n C dX3_go_234 1 rfl ?_
                refine k_dup C rfl dX3_go_235 ?_
                refine k_getX3 C 0 8 rfl (by decide) rfl q523 rfl dX3_go_236 ?_
                refine k_iconst C 1 (by decide) dX3_go_239 ?_
                refine k_iadd C dX3_go_240 ?_
                refine k_putX3 C [(h, cL (b.1, b.2.1, b.2.2.1, b.2.2.2.1, (-b.2.2.2.2.1), b.2.2.2.2.2.1, b.2.2.2.2.2.2.1, b.2.2.2.2.2.2.2.1, (b.2.2.2.2.2.2.2.2.1 + 1), b.2.2.2.2.2.2.2.2.2))] 0 8 rfl rfl (by decide) q523 rfl rfl fdI rfl rfl (Nat.le_of_ble_eq_true rfl) dX3_go_241 ?_
                refine k_iinc C (i0 + 1) [(2, .int (i0 + 1)), (3, .int (b.2.1 - 1)), (0, .ref h), (1, .int n0)] 3 rfl rfl (by decide) rfl dX3_go_244 ?_
                refine k_goto C 126 (by decide) dX3_go_247 ?_
                have hL : LX3_go (n + 1) 1 n0 i0 b = LX3_go n 1 n0 (i0 + 1) (b.1, b.2.1, b.2.2.1, b.2.2.2.1, (-b.2.2.2.2.1), b.2.2.2.2.2.1, b.2.2.2.2.2.2.1, b.2.2.2.2.2.2.2.1, (b.2.2.2.2.2.2.2.2.1 + 1), b.2.2.2.2.2.2.2.2.2) := by subst er17; exact (if_neg c9).trans ((if_pos c14).trans ((if_pos c15).trans ((if_pos c16).trans ((if_pos c18).trans rfl))))
                refine k_sub [2, 3, 0] rfl ?_
                exact ih.2 n0 (i0 + 1) (b.1, b.2.1, b.2.2.1, b.2.2.2.1, (-b.2.2.2.2.1), b.2.2.2.2.2.1, b.2.2.2.2.2.2.1, b.2.2.2.2.2.2.2.1, (b.2.2.2.2.2.2.2.2.1 + 1), b.2.2.2.2.2.2.2.2.2) res (hL.symm.trans hr)
              ·
                refine k_aload_n C dX3_go_217 1 rfl ?_
                refine k_iload_n C dX3_go_218 0 rfl ?_
                refine k_putX3 C [(h, cL (b.1, (b.2.1 - 1), b.2.2))] 0 1 rfl rfl (by decide) q512 rfl rfl fdI rfl rfl (Nat.le_of_ble_eq_true rfl) dX3_go_219 ?_
                refine k_goto C 244 (by decide) dX3_go_222 ?_
                refine k_iinc C (i0 + 1) [(2, .int (i0 + 1)), (3, .int (b.2.1 - 1)), (0, .ref h), (1, .int n0)] 3 rfl rfl (by decide) rfl dX3_go_244 ?_
                refine k_goto C 126 (by decide) dX3_go_247 ?_
                have hL : LX3_go (n + 1) 1 n0 i0 b = LX3_go n 1 n0 (i0 + 1) (b.1, (b.2.1 - 1), b.2.2) := by subst er17; exact (if_neg c9).trans ((if_pos c14).trans ((if_pos c15).trans ((if_pos c16).trans ((if_neg c18).trans rfl))))
                refine k_sub [2, 3, 0] rfl ?_
                exact ih.2 n0 (i0 + 1) (b.1, (b.2.1 - 1), b.2.2) res (hL.symm.trans hr)
            ·
              refine k_aload_n C dX3_go_177 1 rfl ?_
              refine k_aload_n C dX3_go_178 1 rfl ?_
              refine k_getX3 C 0 4 rfl (by decide) rfl q517 rfl dX3_go_179 ?_
              refine k_ineg C dX3_go_182 ?_
              refine k_putX3 C [(h, cL (b.1, b.2.1, b.2.2.1, b.2.2.2.1, (-b.2.2.2.2.1), b.2.2.2.2.2))] 0 4 rfl rfl (by decide) q517 rfl rfl fdI rfl rfl (Nat.le_of_ble_eq_true rfl) dX3_go_183 ?_
              refine k_aload_n C dX3_go_186 1 rfl ?_
              refine k_dup C rfl dX3_go_187 ?_
              refine k_getX3 C 0 6 rfl (by decide) rfl q519 rfl dX3_go_188 ?_
              refine k_iconst C 1 (by decide) dX3_go_191 ?_
              refine k_iadd C dX3_go_192 ?_
              refine k_putX3 C [(h, cL (b.1, b.2.1, b.2.2.1, b.2.2.2.1, (-b.2.2.2.2.1), b.2.2.2.2.2.1, (b.2.2.2.2.2.2.1 + 1), b.2.2.2.2.2.2.2))] 0 6 rfl rfl (by decide) q519 rfl rfl fdI rfl rfl (Nat.le_of_ble_eq_true rfl) dX3_go_193 ?_
              refine k_aload_n C dX3_go_196 1 rfl ?_
              refine k_getX3 C 0 2 rfl (by decide) rfl q514 rfl dX3_go_197 ?_
              refine k_iconst C 3 (by decide) dX3_go_200 ?_
              refine k_icmp_gt C 244 (by decide) dX3_go_201 (fun c19 => ?_) (fun c19 => ?_)
              ·
                refine k_iinc C (i0 + 1) [(2, .int (i0 + 1)), (3, .int (b.2.1 - 1)), (0, .ref h), (1, .int n0)] 3 rfl rfl (by decide) rfl dX3_go_244 ?_
                refine k_goto C 126 (by decide) dX3_go_247 ?_
                have hL : LX3_go (n + 1) 1 n0 i0 b = LX3_go n 1 n0 (i0 + 1) (b.1, b.2.1, b.2.2.1, b.2.2.2.1, (-b.2.2.2.2.1), b.2.2.2.2.2.1, (b.2.2.2.2.2.2.1 + 1), b.2.2.2.2.2.2.2) := by exact (if_neg c9).trans ((if_pos c14).trans ((if_pos c15).trans ((if_neg c16).trans ((if_pos c19).trans rfl))))
                refine k_sub [2, 3, 0] rfl ?_
                exact ih.2 n0 (i0 + 1) (b.1, b.2.1, b.2.2.1, b.2.2.2.1, (-b.2.2.2.2.1), b.2.2.2.2.2.1, (b.2.2.2.2.2.2.1 + 1), b.2.2.2.2.2.2.2) res (hL.symm.trans hr)
              ·
                refine k_iconst C 1 (by decide) dX3_go_204 ?_
                have hL : LX3_go (n + 1) 1 n0 i0 b = some (1, (b.1, b.2.1, b.2.2.1, b.2.2.2.1, (-b.2.2.2.2.1), b.2.2.2.2.2.1, (b.2.2.2.2.2.2.1 + 1), b.2.2.2.2.2.2.2)) := by exact (if_neg c9).trans ((if_pos c14).trans ((if_pos c15).trans ((if_neg c16).trans ((if_neg c19).trans rfl))))
                obtain rfl := Option.some.inj (hL.symm.trans hr)
                exact k_iret C rfl rfl rfl dX3_go_205
          ·
            refine k_aload_n C dX3_go_160 1 rfl ?_
            refine k_getX3 C 0 7 rfl (by decide) rfl q522 rfl dX3_go_161 ?_
            refine k_if_ne C 171 (by decide) dX3_go_164 (fun c20 => ?_) (fun c20 => ?_)
            ·
              refine k_iconst C 3 (by decide) dX3_go_171 ?_
              have hL : LX3_go (n + 1) 1 n0 i0 b = some (3, b) := by exact (if_neg c9).trans ((if_pos c14).trans ((if_neg c15).trans ((if_neg c20).trans rfl)))
              obtain rfl := Option.some.inj (hL.symm.trans hr)
              exact k_iret C rfl rfl rfl dX3_go_172
            ·
              refine k_iconst C 2 (by decide) dX3_go_167 ?_
              refine k_goto C 172 (by decide) dX3_go_168 ?_
              have hL : LX3_go (n + 1) 1 n0 i0 b = some (2, b) := by exact (if_neg c9).trans ((if_pos c14).trans ((if_neg c15).trans ((if_pos c20).trans rfl)))
              obtain rfl := Option.some.inj (hL.symm.trans hr)
              exact k_iret C rfl rfl rfl dX3_go_172
        ·
          refine k_aload_n C dX3_go_138 0 rfl ?_
          refine k_getX3 C 0 1 rfl (by decide) rfl q512 rfl dX3_go_139 ?_
          refine k_iconst C 1 (by decide) dX3_go_142 ?_
          refine k_iadd C dX3_go_143 ?_
          refine k_goto C 153 (by decide) dX3_go_144 ?_
          refine k_istore_n C [(3, .int (b.2.1 + 1)), (0, .ref h), (1, .int n0), (2, .int i0)] (by decide) rfl dX3_go_153 ?_
          refine k_iload_n C dX3_go_154 0 rfl ?_
          refine k_bipush C 29 (by decide) dX3_go_155 ?_
          refine k_icmp_le C 173 (by decide) dX3_go_157 (fun c21 => ?_) (fun c21 => ?_)
          ·
            refine k_iload_n C dX3_go_173 0 rfl ?_
            refine k_if_ge C 206 (by decide) dX3_go_174 (fun c22 => ?_) (fun c22 => ?_)
            ·
              refine k_aload_n C dX3_go_206 1 rfl ?_
              refine k_getX3 C 0 0 rfl (by decide) rfl q510 rfl dX3_go_207 ?_
              refine k_iload_n C dX3_go_210 0 rfl ?_
              refine k_callS_i C (mX3_isFree l D cI cJ b.1 (b.2.1 + 1)) (va_cwS 2 C.2.2.2.2.1 (kGS q550 q551 q47 q552) rfl rfl rfl hdX3_isFree ⟨Nat.le_of_ble_eq_true rfl, Nat.le_of_ble_eq_true rfl⟩) [] [0] [0] [(h, cL b)] ([(h, cL b)]) rfl rfl rfl rfl (by decide) [] rfl rfl rfl rfl (Nat.le_of_ble_eq_true rfl) ⟨Nat.zero_le _, Nat.zero_le _⟩ rfl dX3_go_211 ?_
              generalize er23 : fX3_isFree b.1 (b.2.1 + 1) = r23
              refine k_if_eq C 225 (by decide) dX3_go_214 (fun c24 => ?_) (fun c24 => ?_)
              ·
                refine k_aload_n C dX3_go_225 1 rfl ?_
                refine k_aload_n C dX3_go_226 1 rfl ?_
                refine k_getX3 C 0 4 rfl (by decide) rfl q517 rfl dX3_go_227 ?_
                refine k_ineg C dX3_go_230 ?_
                refine k_putX3 C [(h, cL (b.1, b.2.1, b.2.2.1, b.2.2.2.1, (-b.2.2.2.2.1), b.2.2.2.2.2))] 0 4 rfl rfl (by decide) q517 rfl rfl fdI rfl rfl (Nat.le_of_ble_eq_true rfl) dX3_go_231 ?_
                refine k_aload_n C dX3_go_234 1 rfl ?_
                refine k_dup C rfl dX3_go_235 ?_
                refine k_getX3 C 0 8 rfl (by decide) rfl q523 rfl dX3_go_236 ?_
                refine k_iconst C 1 (by decide) dX3_go_239 ?_
                refine k_iadd C dX3_go_240 ?_
                refine k_putX3 C [(h, cL (b.1, b.2.1, b.2.2.1, b.2.2.2.1, (-b.2.2.2.2.1), b.2.2.2.2.2.1, b.2.2.2.2.2.2.1, b.2.2.2.2.2.2.2.1, (b.2.2.2.2.2.2.2.2.1 + 1), b.2.2.2.2.2.2.2.2.2))] 0 8 rfl rfl (by decide) q523 rfl rfl fdI rfl rfl (Nat.le_of_ble_eq_true rfl) dX3_go_241 ?_
                refine k_iinc C (i0 + 1) [(2, .int (i0 + 1)), (3, .int (b.2.1 + 1)), (0, .ref h), (1, .int n0)] 3 rfl rfl (by decide) rfl dX3_go_244 ?_
                refine k_goto C 126 (by decide) dX3_go_247 ?_
                have hL : LX3_go (n + 1) 1 n0 i0 b = LX3_go n 1 n0 (i0 + 1) (b.1, b.2.1, b.2.2.1, b.2.2.2.1, (-b.2.2.2.2.1), b.2.2.2.2.2.1, b.2.2.2.2.2.2.1, b.2.2.2.2.2.2.2.1, (b.2.2.2.2.2.2.2.2.1 + 1), b.2.2.2.2.2.2.2.2.2) := by subst er23; exact (if_neg c9).trans ((if_neg c14).trans ((if_pos c21).trans ((if_pos c22).trans ((if_pos c24).trans rfl))))
                refine k_sub [2, 3, 0] rfl ?_
                exact ih.2 n0 (i0 + 1) (b.1, b.2.1, b.2.2.1, b.2.2.2.1, (-b.2.2.2.2.1), b.2.2.2.2.2.1, b.2.2.2.2.2.2.1, b.2.2.2.2.2.2.2.1, (b.2.2.2.2.2.2.2.2.1 + 1), b.2.2.2.2.2.2.2.2.2) res (hL.symm.trans hr)
              ·
                refine k_aload_n C dX3_go_217 1 rfl ?_
                refine k_iload_n C dX3_go_218 0 rfl ?_
                refine k_putX3 C [(h, cL (b.1, (b.2.1 + 1), b.2.2))] 0 1 rfl rfl (by decide) q512 rfl rfl fdI rfl rfl (Nat.le_of_ble_eq_true rfl) dX3_go_219 ?_
                refine k_goto C 244 (by decide) dX3_go_222 ?_
                refine k_iinc C (i0 + 1) [(2, .int (i0 + 1)), (3, .int (b.2.1 + 1)), (0, .ref h), (1, .int n0)] 3 rfl rfl (by decide) rfl dX3_go_244 ?_
                refine k_goto C 126 (by decide) dX3_go_247 ?_
                have hL : LX3_go (n + 1) 1 n0 i0 b = LX3_go n 1 n0 (i0 + 1) (b.1, (b.2.1 + 1), b.2.2) := by subst er23; exact (if_neg c9).trans ((if_neg c14).trans ((if_pos c21).trans ((if_pos c22).trans ((if_neg c24).trans rfl))))
                refine k_sub [2, 3, 0] rfl ?_
                exact ih.2 n0 (i0 + 1) (b.1, (b.2.1 + 1), b.2.2) res (hL.symm.trans hr)
            ·
              refine k_aload_n C dX3_go_177 1 rfl ?_
              refine k_aload_n C dX3_go_178 1 rfl ?_
              refine k_getX3 C 0 4 rfl (by decide) rfl q517 rfl dX3_go_179 ?_
              refine k_ineg C dX3_go_182 ?_
              refine k_putX3 C [(h, cL (b.1, b.2.1, b.2.2.1, b.2.2.2.1, (-b.2.2.2.2.1), b.2.2.2.2.2))] 0 4 rfl rfl (by decide) q517 rfl rfl fdI rfl rfl (Nat.le_of_ble_eq_true rfl) dX3_go_183 ?_
              refine k_aload_n C dX3_go_186 1 rfl ?_
              refine k_dup C rfl dX3_go_187 ?_
              refine k_getX3 C 0 6 rfl (by decide) rfl q519 rfl dX3_go_188 ?_
              refine k_iconst C 1 (by decide) dX3_go_191 ?_
              refine k_iadd C dX3_go_192 ?_
              refine k_putX3 C [(h, cL (b.1, b.2.1, b.2.2.1, b.2.2.2.1, (-b.2.2.2.2.1), b.2.2.2.2.2.1, (b.2.2.2.2.2.2.1 + 1), b.2.2.2.2.2.2.2))] 0 6 rfl rfl (by decide) q519 rfl rfl fdI rfl rfl (Nat.le_of_ble_eq_true rfl) dX3_go_193 ?_
              refine k_aload_n C dX3_go_196 1 rfl ?_
              refine k_getX3 C 0 2 rfl (by decide) rfl q514 rfl dX3_go_197 ?_
              refine k_iconst C 3 (by decide) dX3_go_200 ?_
              refine k_icmp_gt C 244 (by decide) dX3_go_201 (fun c25 => ?_) (fun c25 => ?_)
              ·
                refine k_iinc C (i0 + 1) [(2, .int (i0 + 1)), (3, .int (b.2.1 + 1)), (0, .ref h), (1, .int n0)] 3 rfl rfl (by decide) rfl dX3_go_244 ?_
                refine k_goto C 126 (by decide) dX3_go_247 ?_
                have hL : LX3_go (n + 1) 1 n0 i0 b = LX3_go n 1 n0 (i0 + 1) (b.1, b.2.1, b.2.2.1, b.2.2.2.1, (-b.2.2.2.2.1), b.2.2.2.2.2.1, (b.2.2.2.2.2.2.1 + 1), b.2.2.2.2.2.2.2) := by exact (if_neg c9).trans ((if_neg c14).trans ((if_pos c21).trans ((if_neg c22).trans ((if_pos c25).trans rfl))))
                refine k_sub [2, 3, 0] rfl ?_
                exact ih.2 n0 (i0 + 1) (b.1, b.2.1, b.2.2.1, b.2.2.2.1, (-b.2.2.2.2.1), b.2.2.2.2.2.1, (b.2.2.2.2.2.2.1 + 1), b.2.2.2.2.2.2.2) res (hL.symm.trans hr)
              ·
                refine k_iconst C 1 (by decide) dX3_go_204 ?_
                have hL : LX3_go (n + 1) 1 n0 i0 b = some (1, (b.1, b.2.1, b.2.2.1, b.2.2.2.1, (-b.2.2.2.2.1), b.2.2.2.2.2.1, (b.2.2.2.2.2.2.1 + 1), b.2.2.2.2.2.2.2)) := by exact (if_neg c9).trans ((if_neg c14).trans ((if_pos c21).trans ((if_neg c22).trans ((if_neg c25).trans rfl))))
                obtain rfl := Option.some.inj (hL.symm.trans hr)
                exact k_iret C rfl rfl rfl dX3_go_205
          ·
            refine k_aload_n C dX3_go_160 1 rfl ?_
            refine k_getX3 C 0 7 rfl (by decide) rfl q522 rfl dX3_go_161 ?_
            refine k_if_ne C 171 (by decide) dX3_go_164 (fun c26 => ?_) (fun c26 => ?_)
            ·
              refine k_iconst C 3 (by decide) dX3_go_171 ?_
              have hL : LX3_go (n + 1) 1 n0 i0 b = some (3, b) := by exact (if_neg c9).trans ((if_neg c14).trans ((if_neg c21).trans ((if_neg c26).trans rfl)))
              obtain rfl := Option.some.inj (hL.symm.trans hr)
              exact k_iret C rfl rfl rfl dX3_go_172
            ·
              refine k_iconst C 2 (by decide) dX3_go_167 ?_
              refine k_goto C 172 (by decide) dX3_go_168 ?_
              have hL : LX3_go (n + 1) 1 n0 i0 b = some (2, b) := by exact (if_neg c9).trans ((if_neg c14).trans ((if_neg c21).trans ((if_pos c26).trans rfl)))
              obtain rfl := Option.some.inj (hL.symm.trans hr)
              exact k_iret C rfl rfl rfl dX3_go_172
noncomputable def FX3_go (b : Lb) : Option (Int32 × Lb) :=
  if 0 ≤ b.2.2.2.1 then LX3_go 4294967300 0 b.2.2.2.1 0 (b.1, b.2.1, b.2.2.1, b.2.2.2.1, b.2.2.2.2.1, b.2.2.2.2.2.1, b.2.2.2.2.2.2.1, b.2.2.2.2.2.2.2.1, b.2.2.2.2.2.2.2.2.1, (b.2.2.2.2.2.2.2.2.2 + 1))
  else LX3_go 4294967300 0 (-b.2.2.2.1) 0 (b.1, b.2.1, b.2.2.1, b.2.2.2.1, b.2.2.2.2.1, b.2.2.2.2.2.1, b.2.2.2.2.2.2.1, b.2.2.2.2.2.2.2.1, b.2.2.2.2.2.2.2.2.1, (b.2.2.2.2.2.2.2.2.2 + 1))
set_option maxHeartbeats 4000000 in
set_option maxRecDepth 100000 in
theorem moX3_go (l : Launch) (D : va_G) (cI cJ : ClassId) (h : Nat)  (b : Lb) (res : Int32 × Lb) (hr : FX3_go b = some res) : kCi l D cI cJ yX3_go (.code yX3_go cX3_go 4 (some .int)) { frames := 1, cells := 0, slots := 0, locals := 21 } [.ref h] [(h, cL b)] res.1 [(h, cL res.2)] := by
  refine fun sz => k_of (lv := [(0, .ref h)]) (by decide) sz (Nat.le_of_ble_eq_true rfl) rfl ?_
  intro p e s m args below meth c hsz C
  refine k_aload_n C dX3_go_0 0 rfl ?_
  refine k_dup C rfl dX3_go_1 ?_
  refine k_getX3 C 0 9 rfl (by decide) rfl q524 rfl dX3_go_2 ?_
  refine k_iconst C 1 (by decide) dX3_go_5 ?_
  refine k_iadd C dX3_go_6 ?_
  refine k_putX3 C [(h, cL (b.1, b.2.1, b.2.2.1, b.2.2.2.1, b.2.2.2.2.1, b.2.2.2.2.2.1, b.2.2.2.2.2.2.1, b.2.2.2.2.2.2.2.1, b.2.2.2.2.2.2.2.2.1, (b.2.2.2.2.2.2.2.2.2 + 1)))] 0 9 rfl rfl (by decide) q524 rfl rfl fdI rfl rfl (Nat.le_of_ble_eq_true rfl) dX3_go_7 ?_
  refine k_aload_n C dX3_go_10 0 rfl ?_
  refine k_getX3 C 0 3 rfl (by decide) rfl q516 rfl dX3_go_11 ?_
  refine k_if_ge C 25 (by decide) dX3_go_14 (fun c1 => ?_) (fun c1 => ?_)
  ·
    refine k_aload_n C dX3_go_25 0 rfl ?_
    refine k_getX3 C 0 3 rfl (by decide) rfl q516 rfl dX3_go_26 ?_
    refine k_istore_n C [(1, .int b.2.2.2.1), (0, .ref h)] (by decide) rfl dX3_go_29 ?_
    refine k_iconst C 0 (by decide) dX3_go_30 ?_
    refine k_istore_n C [(2, .int 0), (1, .int b.2.2.2.1), (0, .ref h)] (by decide) rfl dX3_go_31 ?_
    have hL : FX3_go b = LX3_go 4294967300 0 b.2.2.2.1 0 (b.1, b.2.1, b.2.2.1, b.2.2.2.1, b.2.2.2.2.1, b.2.2.2.2.2.1, b.2.2.2.2.2.2.1, b.2.2.2.2.2.2.2.1, b.2.2.2.2.2.2.2.2.1, (b.2.2.2.2.2.2.2.2.2 + 1)) := by exact (if_pos c1).trans rfl
    refine k_sub [2, 1, 0] rfl ?_
    exact (lX3_go l h C 4294967300).1 b.2.2.2.1 0 (b.1, b.2.1, b.2.2.1, b.2.2.2.1, b.2.2.2.2.1, b.2.2.2.2.2.1, b.2.2.2.2.2.2.1, b.2.2.2.2.2.2.2.1, b.2.2.2.2.2.2.2.2.1, (b.2.2.2.2.2.2.2.2.2 + 1)) res (hL.symm.trans hr)
  ·
    refine k_aload_n C dX3_go_17 0 rfl ?_
    refine k_getX3 C 0 3 rfl (by decide) rfl q516 rfl dX3_go_18 ?_
    refine k_ineg C dX3_go_21 ?_
    refine k_goto C 29 (by decide) dX3_go_22 ?_
    refine k_istore_n C [(1, .int (-b.2.2.2.1)), (0, .ref h)] (by decide) rfl dX3_go_29 ?_
    refine k_iconst C 0 (by decide) dX3_go_30 ?_
    refine k_istore_n C [(2, .int 0), (1, .int (-b.2.2.2.1)), (0, .ref h)] (by decide) rfl dX3_go_31 ?_
    have hL : FX3_go b = LX3_go 4294967300 0 (-b.2.2.2.1) 0 (b.1, b.2.1, b.2.2.1, b.2.2.2.1, b.2.2.2.2.1, b.2.2.2.2.2.1, b.2.2.2.2.2.2.1, b.2.2.2.2.2.2.2.1, b.2.2.2.2.2.2.2.2.1, (b.2.2.2.2.2.2.2.2.2 + 1)) := by exact (if_neg c1).trans rfl
    refine k_sub [2, 1, 0] rfl ?_
    exact (lX3_go l h C 4294967300).1 (-b.2.2.2.1) 0 (b.1, b.2.1, b.2.2.1, b.2.2.2.1, b.2.2.2.2.1, b.2.2.2.2.2.1, b.2.2.2.2.2.2.1, b.2.2.2.2.2.2.2.1, b.2.2.2.2.2.2.2.2.1, (b.2.2.2.2.2.2.2.2.2 + 1)) res (hL.symm.trans hr)

theorem tX3_go : ∀ (n : Nat), (∀ (n0 i0 : Int32) (b : Lb), (n0.toInt - i0.toInt).toNat + 2147483649 < n → (LX3_go n 0 n0 i0 b).isSome = true) ∧ (∀ (n0 i0 : Int32) (b : Lb), (n0.toInt - i0.toInt).toNat < n → (LX3_go n 1 n0 i0 b).isSome = true) := by
  intro n
  induction n with
  | zero => exact ⟨fun n0 i0 b h => absurd h (Nat.not_lt_zero _), fun n0 i0 b h => absurd h (Nat.not_lt_zero _)⟩
  | succ n ih =>
    obtain ⟨i1, i2⟩ := ih
    refine ⟨fun n0 i0 b h => ?_, fun n0 i0 b h => ?_⟩
    · unfold LX3_go
      show (if n0 ≤ i0 then (_ : Option (Int32 × Lb)) else _).isSome = true
      by_cases c : n0 ≤ i0
      · rw [if_pos c]
        have h0 : ((0 : Int32)).toInt = 0 := by decide
        split
        · have h2 := Int32.toInt_lt b.2.2.2.2.1
          exact i2 _ _ _ (by rw [h0]; omega)
        · have h2 := Int32.toInt_lt (-b.2.2.2.2.1)
          exact i2 _ _ _ (by rw [h0]; omega)
      · rw [if_neg c]
        have hs : (n0.toInt - (i0 + 1).toInt).toNat + 2147483649 < n := by
          have := kinc (n := (n0.toInt - i0.toInt).toNat) c (by omega)
          omega
        (repeat' split) <;> exact i1 _ _ _ hs
    · unfold LX3_go
      show (if n0 ≤ i0 then (_ : Option (Int32 × Lb)) else _).isSome = true
      by_cases c : n0 ≤ i0
      · rw [if_pos c]
        (repeat' split) <;> rfl
      · rw [if_neg c]
        have hs := kinc c h
        (repeat' split) <;> first | rfl | exact i2 _ _ _ hs
theorem tX3_goF (b : Lb) : (FX3_go b).isSome = true := by
  have h0 : ((0 : Int32)).toInt = 0 := by decide
  unfold FX3_go
  split
  · have h2 := Int32.toInt_lt b.2.2.2.1
    exact (tX3_go _).1 _ _ _ (by rw [h0]; omega)
  · have h2 := Int32.toInt_lt (-b.2.2.2.1)
    exact (tX3_go _).1 _ _ _ (by rw [h0]; omega)
noncomputable def fX3_go (b : Lb) : Int32 × Lb := @Classical.epsilon (Int32 × Lb) ⟨(0, b)⟩ (fun r => FX3_go b = some r)
theorem mX3_go (l : Launch) (D : va_G) (cI cJ : ClassId) (h : Nat)  (b : Lb)  : kCi l D cI cJ yX3_go (.code yX3_go cX3_go 4 (some .int)) { frames := 1, cells := 0, slots := 0, locals := 21 } [.ref h] [(h, cL b)] (fX3_go b).1 [(h, cL (fX3_go b).2)] :=
  moX3_go l D cI cJ h b _ (kSome ((0, b)) (tX3_goF _))

theorem hdX3_go_ : yX3_go_.cls ≠ "java/lang/invoke/MethodHandle" ∧ yX3_go_.cls ≠ "java/lang/invoke/VarHandle" ∧ (parseMethodDescriptor yX3_go_.desc).map (fun d => d.parameters.length) = some 1 := by decide +kernel
noncomputable def LX3_go_ (n : Nat) (p0 : Int32) (i0 : Int32) (b : Lb) : Option (Int32 × Lb) := match n with
  | 0 => none
  | n + 1 =>
    if p0 ≤ i0 then some (0, b)
    else (if (fX3_go b).1 ≤ 0 then LX3_go_ n p0 (i0 + 1) (fX3_go b).2
      else some ((fX3_go b).1, (fX3_go b).2))
set_option maxHeartbeats 4000000 in
set_option maxRecDepth 100000 in
theorem lX3_go_ {p : Program} {e : Env} {s : State} {m : MethodId} {args : Array Value} {below : List Frame} {meth : Method} {c : Code} {A : Nat → Prop} (l : Launch) {D : va_G} {cI cJ : ClassId} (h : Nat) (p0 : Int32) (C : kCx p s m args meth c RX3 cX3_go_ 4 (some .int) D cI cJ A) : ∀ (n : Nat), ∀ (i0 : Int32) (b : Lb) (res : Int32 × Lb), LX3_go_ n p0 i0 b = some res → kW p l e { frames := 2, cells := 0, slots := 0, locals := 44 } s m args below meth c D A 4 0 0 (MQ below (va_Qi (fun (r : Int32) (_ : Unit) => r = res.1) (fun _ t => va_P D kCl [(h, cL res.2)] t.heap) A) args s 0 0 A) [(h, cL b)] 2 [(0, .ref h), (1, .int p0), (2, .int i0)] [] := by
  intro n
  induction n with
  | zero => intro i0 b res hr; exact absurd hr (fun h => nomatch h)
  | succ n ih =>
    intro i0 b res hr
    refine k_iload_n C dX3_go__2 2 rfl ?_
    refine k_iload_n C dX3_go__3 1 rfl ?_
    refine k_icmp_ge C 24 (by decide) dX3_go__4 (fun c1 => ?_) (fun c1 => ?_)
    ·
      refine k_iconst C 0 (by decide) dX3_go__24 ?_
      have hL : LX3_go_ (n + 1) p0 i0 b = some (0, b) := by exact (if_pos c1).trans rfl
      obtain rfl := Option.some.inj (hL.symm.trans hr)
      exact k_iret C rfl rfl rfl dX3_go__25
    ·
      refine k_aload_n C dX3_go__7 0 rfl ?_
      refine k_callV_i C (mX3_go l D cI cJ h b) (cwV 0 C.2.2.2.2.1 (kGV q651 q547 q548 q47 q549) rfl rfl rfl ⟨rfl, hdX3_go⟩ ⟨Nat.le_of_ble_eq_true rfl, Nat.le_of_ble_eq_true rfl⟩) [0] [] [0] [] ([(h, cL (fX3_go b).2)]) rfl rfl rfl rfl (by decide) [h] rfl rfl rfl rfl 0 3 rfl rfl rfl (Nat.le_of_ble_eq_true rfl) ⟨Nat.zero_le _, Nat.zero_le _⟩ rfl dX3_go__8 ?_
      generalize ezz2 : fX3_go b = zz2
      refine k_istore_n C [(3, .int zz2.1), (0, .ref h), (1, .int p0), (2, .int i0)] (by decide) rfl dX3_go__11 ?_
      refine k_iload_n C dX3_go__12 0 rfl ?_
      refine k_if_le C 18 (by decide) dX3_go__13 (fun c3 => ?_) (fun c3 => ?_)
      ·
        refine k_iinc C (i0 + 1) [(2, .int (i0 + 1)), (3, .int zz2.1), (0, .ref h), (1, .int p0)] 3 rfl rfl (by decide) rfl dX3_go__18 ?_
        refine k_goto C 2 (by decide) dX3_go__21 ?_
        have hL : LX3_go_ (n + 1) p0 i0 b = LX3_go_ n p0 (i0 + 1) zz2.2 := by subst ezz2; exact (if_neg c1).trans ((if_pos c3).trans rfl)
        refine k_sub [2, 3, 0] rfl ?_
        exact ih (i0 + 1) zz2.2 res (hL.symm.trans hr)
      ·
        refine k_iload_n C dX3_go__16 0 rfl ?_
        have hL : LX3_go_ (n + 1) p0 i0 b = some (zz2.1, zz2.2) := by subst ezz2; exact (if_neg c1).trans ((if_neg c3).trans rfl)
        obtain rfl := Option.some.inj (hL.symm.trans hr)
        exact k_iret C rfl rfl rfl dX3_go__17
noncomputable def FX3_go_ (p0 : Int32) (b : Lb) : Option (Int32 × Lb) :=
  LX3_go_ 2147483649 p0 0 b
set_option maxHeartbeats 4000000 in
set_option maxRecDepth 100000 in
theorem moX3_go_ (l : Launch) (D : va_G) (cI cJ : ClassId) (h : Nat) (p0 : Int32) (b : Lb) (res : Int32 × Lb) (hr : FX3_go_ p0 b = some res) : kCi l D cI cJ yX3_go_ (.code yX3_go_ cX3_go_ 4 (some .int)) { frames := 2, cells := 0, slots := 0, locals := 44 } [.ref h, .int p0] [(h, cL b)] res.1 [(h, cL res.2)] := by
  refine fun sz => k_of (lv := [(0, .ref h), (1, .int p0)]) (by decide) sz (Nat.le_of_ble_eq_true rfl) rfl ?_
  intro p e s m args below meth c hsz C
  refine k_iconst C 0 (by decide) dX3_go__0 ?_
  refine k_istore_n C [(2, .int 0), (0, .ref h), (1, .int p0)] (by decide) rfl dX3_go__1 ?_
  have hL : FX3_go_ p0 b = LX3_go_ 2147483649 p0 0 b := by exact rfl
  refine k_sub [1, 2, 0] rfl ?_
  exact (lX3_go_ l h p0 C 2147483649) 0 b res (hL.symm.trans hr)

theorem tX3_go_ : ∀ (n : Nat) (p0 i0 : Int32) (b : Lb), (p0.toInt - i0.toInt).toNat < n → (LX3_go_ n p0 i0 b).isSome = true := by
  intro n
  induction n with
  | zero => intro n0 i0 b h; exact absurd h (Nat.not_lt_zero _)
  | succ n ih =>
    intro n0 i0 b h
    unfold LX3_go_
    by_cases c : n0 ≤ i0
    · rw [if_pos c]; rfl
    · rw [if_neg c]
      have hs := kinc c h
      (repeat' split) <;> first | rfl | exact ih _ _ _ hs
noncomputable def fX3_go_ (p0 : Int32) (b : Lb) : Int32 × Lb := @Classical.epsilon (Int32 × Lb) ⟨(0, b)⟩ (fun r => FX3_go_ p0 b = some r)
theorem mX3_go_ (l : Launch) (D : va_G) (cI cJ : ClassId) (h : Nat) (p0 : Int32) (b : Lb)  : kCi l D cI cJ yX3_go_ (.code yX3_go_ cX3_go_ 4 (some .int)) { frames := 2, cells := 0, slots := 0, locals := 44 } [.ref h, .int p0] [(h, cL b)] (fX3_go_ p0 b).1 [(h, cL (fX3_go_ p0 b).2)] :=
  moX3_go_ l D cI cJ h p0 b _ (kSome ((0, b)) (tX3_go_ _ _ _ _ (kfuel _ _ rfl)))
