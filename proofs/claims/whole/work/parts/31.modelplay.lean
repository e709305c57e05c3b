/-! the reference: playing -/
theorem hdX3_finish : yX3_finish.cls ≠ "java/lang/invoke/MethodHandle" ∧ yX3_finish.cls ≠ "java/lang/invoke/VarHandle" ∧ (parseMethodDescriptor yX3_finish.desc).map (fun d => d.parameters.length) = some 0 := by decide +kernel
noncomputable def LX3_finish (n : Nat) (i0 : Int32) (X : Mo) : Option (Int32 × Mo) := match n with
  | 0 => none
  | n + 1 =>
    if i0 = 0 then LX3_finish n ((fX3_moment X).1) (fX3_moment X).2
    else some (i0, X)
set_option maxHeartbeats 4000000 in
set_option maxRecDepth 100000 in
theorem lX3_finish {p : Program} {e : Env} {s : State} {m : MethodId} {args : Array Value} {below : List Frame} {meth : Method} {c : Code} {A : Nat → Prop} (l : Launch) {D : va_G} {cI cJ : ClassId} (b0 b1 b2 b3 b4 b5 b6 : Nat)  (C : kCx p s m args meth c RX3 cX3_finish 2 (some .int) D cI cJ A) : ∀ (n : Nat), ∀ (i0 : Int32) (X : Mo) (res : Int32 × Mo), LX3_finish n i0 X = some res → kW p l e { frames := 4, cells := 0, slots := 0, locals := 87 } s m args below meth c D A 2 0 0 (MQ below (va_Qi (fun (r : Int32) (_ : Unit) => r = res.1) (fun _ t => va_P D kCl (wM cI b0 b1 b2 b3 b4 b5 b6 res.2) t.heap) A) args s 0 0 A) (wM cI b0 b1 b2 b3 b4 b5 b6 X) 2 [(0, .ref b0), (1, .int i0)] [] := by
  intro n
  induction n with
  | zero => intro i0 X res hr; exact absurd hr (fun h => nomatch h)
  | succ n ih =>
    intro i0 X res hr
    refine k_iload_n C dX3_finish_2 1 rfl ?_
    refine k_if_ne C 14 (by decide) dX3_finish_3 (fun c1 => ?_) (fun c1 => ?_)
    ·
      refine k_iload_n C dX3_finish_14 1 rfl ?_
      have hL : LX3_finish (n + 1) i0 X = some (i0, X) := by exact (if_neg c1).trans rfl
      obtain rfl := Option.some.inj (hL.symm.trans hr)
      exact k_iret C rfl rfl rfl dX3_finish_15
    ·
      refine k_aload_n C dX3_finish_6 0 rfl ?_
      refine k_callV_i C (mX3_moment l D cI cJ b0 b1 b2 b3 b4 b5 b6 X) (cwV 0 C.2.2.2.2.1 (kGV q676 q678 q40 q61 q679) rfl rfl rfl ⟨rfl, hdX3_moment⟩ ⟨Nat.le_of_ble_eq_true rfl, Nat.le_of_ble_eq_true rfl⟩) [0, 1, 2, 3, 4, 5, 6] [] [0, 1, 2, 3, 4, 5, 6] [] (wM cI b0 b1 b2 b3 b4 b5 b6 (fX3_moment X).2) rfl rfl rfl rfl (by decide) [b0, b1, b2, b3, b4, b5, b6] rfl rfl rfl rfl 0 3 rfl rfl rfl (Nat.le_of_ble_eq_true rfl) ⟨Nat.zero_le _, Nat.zero_le _⟩ rfl dX3_finish_7 ?_
      generalize ez2 : fX3_moment X = z2
      refine k_istore_n C [(1, .int z2.1), (0, .ref b0)] (by decide) rfl dX3_finish_10 ?_
      refine k_goto C 2 (by decide) dX3_finish_11 ?_
      have hL : LX3_finish (n + 1) i0 X = LX3_finish n z2.1 z2.2 := by subst ez2; exact (if_pos c1).trans rfl
      refine k_sub [1, 0] rfl ?_
      exact ih z2.1 z2.2 res (hL.symm.trans hr)
noncomputable def FX3_finish (X : Mo) : Option (Int32 × Mo) :=
  LX3_finish 1000000 0 X
set_option maxHeartbeats 4000000 in
set_option maxRecDepth 100000 in
theorem moX3_finish (l : Launch) (D : va_G) (cI cJ : ClassId) (b0 b1 b2 b3 b4 b5 b6 : Nat)  (X : Mo) (res : Int32 × Mo) (hr : FX3_finish X = some res) : kCi l D cI cJ yX3_finish (.code yX3_finish cX3_finish 2 (some .int)) { frames := 4, cells := 0, slots := 0, locals := 87 } [.ref b0] (wM cI b0 b1 b2 b3 b4 b5 b6 X) res.1 (wM cI b0 b1 b2 b3 b4 b5 b6 res.2) := by
  refine fun sz => k_of (lv := [(0, .ref b0)]) (by decide) sz (Nat.le_of_ble_eq_true rfl) rfl ?_
  intro p e s m args below meth c hsz C
  refine k_iconst C 0 (by decide) dX3_finish_0 ?_
  refine k_istore_n C [(1, .int 0), (0, .ref b0)] (by decide) rfl dX3_finish_1 ?_
  have hL : FX3_finish X = LX3_finish 1000000 0 X := by exact rfl
  refine k_sub [1, 0] rfl ?_
  exact (lX3_finish l b0 b1 b2 b3 b4 b5 b6 C 1000000) 0 X res (hL.symm.trans hr)

def NX3_finish (X : Mo) : Prop := (FX3_finish X).isSome = true
noncomputable def fX3_finish (X : Mo) : Int32 × Mo := @Classical.epsilon (Int32 × Mo) ⟨(0, X)⟩ (fun r => FX3_finish X = some r)
theorem mX3_finish (l : Launch) (D : va_G) (cI cJ : ClassId) (b0 b1 b2 b3 b4 b5 b6 : Nat)  (X : Mo) (hN : (FX3_finish X).isSome = true) : kCi l D cI cJ yX3_finish (.code yX3_finish cX3_finish 2 (some .int)) { frames := 4, cells := 0, slots := 0, locals := 87 } [.ref b0] (wM cI b0 b1 b2 b3 b4 b5 b6 X) (fX3_finish X).1 (wM cI b0 b1 b2 b3 b4 b5 b6 (fX3_finish X).2) :=
  moX3_finish l D cI cJ b0 b1 b2 b3 b4 b5 b6 X _ (kSome ((0, X)) hN)

theorem hdX3_fullFlight : yX3_fullFlight.cls ≠ "java/lang/invoke/MethodHandle" ∧ yX3_fullFlight.cls ≠ "java/lang/invoke/VarHandle" ∧ (parseMethodDescriptor yX3_fullFlight.desc).map (fun d => d.parameters.length) = some 0 := by decide +kernel
noncomputable def fX3_fullFlight (X : Mo) : Int32 × Mo :=
  ((fX3_finish (fX3_look X)).1, (fX3_finish (fX3_look X)).2)
def NX3_fullFlight (X : Mo) : Prop := ((NX3_finish (fX3_look X)))
set_option maxHeartbeats 4000000 in
set_option maxRecDepth 100000 in
theorem mX3_fullFlight (l : Launch) (D : va_G) (cI cJ : ClassId) (b0 b1 b2 b3 b4 b5 b6 : Nat) (X : Mo) (hN : ((NX3_finish (fX3_look X))))  : kCi l D cI cJ yX3_fullFlight (.code yX3_fullFlight cX3_fullFlight 1 (some .int)) { frames := 5, cells := 0, slots := 0, locals := 108 } [.ref b0] (wM cI b0 b1 b2 b3 b4 b5 b6 X) (fX3_fullFlight X).1 (wM cI b0 b1 b2 b3 b4 b5 b6 (fX3_fullFlight X).2) := by
  have hN0 := hN
  refine fun sz => k_of (lv := [(0, .ref b0)]) (by decide) sz (by exact Nat.le_of_ble_eq_true rfl) rfl ?_
  intro p e s m args below meth c hsz C
  refine k_aload_n C dX3_fullFlight_0 0 rfl ?_
  refine k_aload_n C dX3_fullFlight_1 0 rfl ?_
  refine k_getX3 C 0 5 rfl (by decide) rfl q575 rfl dX3_fullFlight_2 ?_
  refine k_callV_v C (mX3_look l D cI cJ b0 b1 b2 b3 b4 b5 b6 X) (cwV 1 C.2.2.2.2.1 (kGV q672 q674 q39 q61 q675) rfl rfl rfl ⟨rfl, hdX3_look⟩ ⟨Nat.le_of_ble_eq_true rfl, Nat.le_of_ble_eq_true rfl⟩) [0, 1, 2, 3, 4, 5, 6] [] [0, 1, 2, 3, 4, 5, 6] [] (wM cI b0 b1 b2 b3 b4 b5 b6 (fX3_look X)) rfl rfl rfl rfl (by decide) [b0, b1, b2, b3, b4, b5, b6] rfl rfl rfl rfl 0 3 rfl rfl rfl (Nat.le_of_ble_eq_true rfl) ⟨Nat.zero_le _, Nat.zero_le _⟩ rfl dX3_fullFlight_5 ?_
  generalize ez1 : fX3_look X = z1
  refine k_aload_n C dX3_fullFlight_8 0 rfl ?_
  refine k_callV_i C (mX3_finish l D cI cJ b0 b1 b2 b3 b4 b5 b6 z1 (by subst ez1; exact hN0)) (cwV 0 C.2.2.2.2.1 (kGV q719 q721 q48 q61 q722) rfl rfl rfl ⟨rfl, hdX3_finish⟩ ⟨Nat.le_of_ble_eq_true rfl, Nat.le_of_ble_eq_true rfl⟩) [0, 1, 2, 3, 4, 5, 6] [] [0, 1, 2, 3, 4, 5, 6] [] (wM cI b0 b1 b2 b3 b4 b5 b6 (fX3_finish z1).2) rfl rfl rfl rfl (by decide) [b0, b1, b2, b3, b4, b5, b6] rfl rfl rfl rfl 0 3 rfl rfl rfl (Nat.le_of_ble_eq_true rfl) ⟨Nat.zero_le _, Nat.zero_le _⟩ rfl dX3_fullFlight_9 ?_
  generalize ez2 : fX3_finish z1 = z2
  have hL : fX3_fullFlight X = (z2.1, z2.2) := by subst ez2; subst ez1; exact rfl
  exact k_iret C rfl (by rw [hL]) (by rw [hL]) dX3_fullFlight_12

theorem hdX3_hit : yX3_hit.cls ≠ "java/lang/invoke/MethodHandle" ∧ yX3_hit.cls ≠ "java/lang/invoke/VarHandle" ∧ (parseMethodDescriptor yX3_hit.desc).map (fun d => d.parameters.length) = some 3 := by decide +kernel
noncomputable def fX3_hit (p0 : Int32) (p1 : Int32) (p2 : Int32) (X : Mo) : Mo :=
  (X.1, X.2.1, X.2.2.1, X.2.2.2.1, X.2.2.2.2.1, (X.2.2.2.2.2.1.1, X.2.2.2.2.2.1.2.1, (if 1 < X.2.2.2.2.2.1.2.2.1 then X.2.2.2.2.2.1.2.2.1 else 1), p0, p1, p2, 0, 0, 0), X.2.2.2.2.2.2)
set_option maxHeartbeats 4000000 in
set_option maxRecDepth 100000 in
theorem mX3_hit (l : Launch) (D : va_G) (cI cJ : ClassId) (b0 b1 b2 b3 b4 b5 b6 : Nat) (p0 : Int32) (p1 : Int32) (p2 : Int32) (X : Mo)  : kCv l D cI cJ yX3_hit (.code yX3_hit cX3_hit 4 none) { frames := 1, cells := 0, slots := 0, locals := 21 } [.ref b0, .int p0, .int p1, .int p2] (wM cI b0 b1 b2 b3 b4 b5 b6 X) (wM cI b0 b1 b2 b3 b4 b5 b6 (fX3_hit p0 p1 p2 X)) := by
  refine fun sz => k_of (lv := [(0, .ref b0), (1, .int p0), (2, .int p1), (3, .int p2)]) (by decide) sz (by exact Nat.le_of_ble_eq_true rfl) rfl ?_
  intro p e s m args below meth c hsz C
  refine k_aload_n C dX3_hit_0 0 rfl ?_
  refine k_getX3 C 0 16 rfl (by decide) rfl q586 rfl dX3_hit_1 ?_
  refine k_iconst C 2 (by decide) dX3_hit_4 ?_
  refine k_iconst C 1 (by decide) dX3_hit_5 ?_
  refine k_aload_n C dX3_hit_6 0 rfl ?_
  refine k_getX3 C 0 16 rfl (by decide) rfl q586 rfl dX3_hit_7 ?_
  refine k_iconst C 2 (by decide) dX3_hit_10 ?_
  refine k_iald C 6 rfl vi9_2 (ar9_l2 _) dX3_hit_11 ?_
  refine k_max C q656 q382 q67 q383 (Nat.le_of_ble_eq_true rfl) (Nat.le_of_ble_eq_true rfl) (Nat.zero_le _) (Nat.zero_le _) dX3_hit_12 ?_
  refine k_iast C [(b0, cM b1 b2 b3 b4 b5 b6 X.2.2.2.2.2.2), (b1, cA9 cI X.1), (b2, cA2 cI X.2.1), (b3, cA2 cI X.2.2.1), (b4, cA2 cI X.2.2.2.1), (b5, cA2 cI X.2.2.2.2.1), (b6, cA9 cI (X.2.2.2.2.2.1.1, X.2.2.2.2.2.1.2.1, (if 1 < X.2.2.2.2.2.1.2.2.1 then X.2.2.2.2.2.1.2.2.1 else 1), X.2.2.2.2.2.1.2.2.2))] 6 rfl vi9_2 (ar9 (X.2.2.2.2.2.1.1, X.2.2.2.2.2.1.2.1, (if 1 < X.2.2.2.2.2.1.2.2.1 then X.2.2.2.2.2.1.2.2.1 else 1), X.2.2.2.2.2.1.2.2.2)) (ar9_s2 _ _) rfl dX3_hit_15 ?_
  refine k_aload_n C dX3_hit_16 0 rfl ?_
  refine k_getX3 C 0 16 rfl (by decide) rfl q586 rfl dX3_hit_17 ?_
  refine k_iconst C 3 (by decide) dX3_hit_20 ?_
  refine k_iload_n C dX3_hit_21 1 rfl ?_
  refine k_iast C [(b0, cM b1 b2 b3 b4 b5 b6 X.2.2.2.2.2.2), (b1, cA9 cI X.1), (b2, cA2 cI X.2.1), (b3, cA2 cI X.2.2.1), (b4, cA2 cI X.2.2.2.1), (b5, cA2 cI X.2.2.2.2.1), (b6, cA9 cI (X.2.2.2.2.2.1.1, X.2.2.2.2.2.1.2.1, (if 1 < X.2.2.2.2.2.1.2.2.1 then X.2.2.2.2.2.1.2.2.1 else 1), p0, X.2.2.2.2.2.1.2.2.2.2))] 6 rfl vi9_3 (ar9 (X.2.2.2.2.2.1.1, X.2.2.2.2.2.1.2.1, (if 1 < X.2.2.2.2.2.1.2.2.1 then X.2.2.2.2.2.1.2.2.1 else 1), p0, X.2.2.2.2.2.1.2.2.2.2)) (ar9_s3 _ _) rfl dX3_hit_22 ?_
  refine k_aload_n C dX3_hit_23 0 rfl ?_
  refine k_getX3 C 0 16 rfl (by decide) rfl q586 rfl dX3_hit_24 ?_
  refine k_iconst C 4 (by decide) dX3_hit_27 ?_
  refine k_iload_n C dX3_hit_28 2 rfl ?_
  refine k_iast C [(b0, cM b1 b2 b3 b4 b5 b6 X.2.2.2.2.2.2), (b1, cA9 cI X.1), (b2, cA2 cI X.2.1), (b3, cA2 cI X.2.2.1), (b4, cA2 cI X.2.2.2.1), (b5, cA2 cI X.2.2.2.2.1), (b6, cA9 cI (X.2.2.2.2.2.1.1, X.2.2.2.2.2.1.2.1, (if 1 < X.2.2.2.2.2.1.2.2.1 then X.2.2.2.2.2.1.2.2.1 else 1), p0, p1, X.2.2.2.2.2.1.2.2.2.2.2))] 6 rfl vi9_4 (ar9 (X.2.2.2.2.2.1.1, X.2.2.2.2.2.1.2.1, (if 1 < X.2.2.2.2.2.1.2.2.1 then X.2.2.2.2.2.1.2.2.1 else 1), p0, p1, X.2.2.2.2.2.1.2.2.2.2.2)) (ar9_s4 _ _) rfl dX3_hit_29 ?_
  refine k_aload_n C dX3_hit_30 0 rfl ?_
  refine k_getX3 C 0 16 rfl (by decide) rfl q586 rfl dX3_hit_31 ?_
  refine k_iconst C 5 (by decide) dX3_hit_34 ?_
  refine k_iload_n C dX3_hit_35 3 rfl ?_
  refine k_iast C [(b0, cM b1 b2 b3 b4 b5 b6 X.2.2.2.2.2.2), (b1, cA9 cI X.1), (b2, cA2 cI X.2.1), (b3, cA2 cI X.2.2.1), (b4, cA2 cI X.2.2.2.1), (b5, cA2 cI X.2.2.2.2.1), (b6, cA9 cI (X.2.2.2.2.2.1.1, X.2.2.2.2.2.1.2.1, (if 1 < X.2.2.2.2.2.1.2.2.1 then X.2.2.2.2.2.1.2.2.1 else 1), p0, p1, p2, X.2.2.2.2.2.1.2.2.2.2.2.2))] 6 rfl vi9_5 (ar9 (X.2.2.2.2.2.1.1, X.2.2.2.2.2.1.2.1, (if 1 < X.2.2.2.2.2.1.2.2.1 then X.2.2.2.2.2.1.2.2.1 else 1), p0, p1, p2, X.2.2.2.2.2.1.2.2.2.2.2.2)) (ar9_s5 _ _) rfl dX3_hit_36 ?_
  refine k_aload_n C dX3_hit_37 0 rfl ?_
  refine k_getX3 C 0 16 rfl (by decide) rfl q586 rfl dX3_hit_38 ?_
  refine k_bipush C 6 (by decide) dX3_hit_41 ?_
  refine k_iconst C 0 (by decide) dX3_hit_43 ?_
  refine k_iast C [(b0, cM b1 b2 b3 b4 b5 b6 X.2.2.2.2.2.2), (b1, cA9 cI X.1), (b2, cA2 cI X.2.1), (b3, cA2 cI X.2.2.1), (b4, cA2 cI X.2.2.2.1), (b5, cA2 cI X.2.2.2.2.1), (b6, cA9 cI (X.2.2.2.2.2.1.1, X.2.2.2.2.2.1.2.1, (if 1 < X.2.2.2.2.2.1.2.2.1 then X.2.2.2.2.2.1.2.2.1 else 1), p0, p1, p2, 0, X.2.2.2.2.2.1.2.2.2.2.2.2.2))] 6 rfl vi9_6 (ar9 (X.2.2.2.2.2.1.1, X.2.2.2.2.2.1.2.1, (if 1 < X.2.2.2.2.2.1.2.2.1 then X.2.2.2.2.2.1.2.2.1 else 1), p0, p1, p2, 0, X.2.2.2.2.2.1.2.2.2.2.2.2.2)) (ar9_s6 _ _) rfl dX3_hit_44 ?_
  refine k_aload_n C dX3_hit_45 0 rfl ?_
  refine k_getX3 C 0 16 rfl (by decide) rfl q586 rfl dX3_hit_46 ?_
  refine k_bipush C 7 (by decide) dX3_hit_49 ?_
  refine k_iconst C 0 (by decide) dX3_hit_51 ?_
  refine k_iast C [(b0, cM b1 b2 b3 b4 b5 b6 X.2.2.2.2.2.2), (b1, cA9 cI X.1), (b2, cA2 cI X.2.1), (b3, cA2 cI X.2.2.1), (b4, cA2 cI X.2.2.2.1), (b5, cA2 cI X.2.2.2.2.1), (b6, cA9 cI (X.2.2.2.2.2.1.1, X.2.2.2.2.2.1.2.1, (if 1 < X.2.2.2.2.2.1.2.2.1 then X.2.2.2.2.2.1.2.2.1 else 1), p0, p1, p2, 0, 0, X.2.2.2.2.2.1.2.2.2.2.2.2.2.2))] 6 rfl vi9_7 (ar9 (X.2.2.2.2.2.1.1, X.2.2.2.2.2.1.2.1, (if 1 < X.2.2.2.2.2.1.2.2.1 then X.2.2.2.2.2.1.2.2.1 else 1), p0, p1, p2, 0, 0, X.2.2.2.2.2.1.2.2.2.2.2.2.2.2)) (ar9_s7 _ _) rfl dX3_hit_52 ?_
  refine k_aload_n C dX3_hit_53 0 rfl ?_
  refine k_getX3 C 0 16 rfl (by decide) rfl q586 rfl dX3_hit_54 ?_
  refine k_bipush C 8 (by decide) dX3_hit_57 ?_
  refine k_iconst C 0 (by decide) dX3_hit_59 ?_
  refine k_iast C [(b0, cM b1 b2 b3 b4 b5 b6 X.2.2.2.2.2.2), (b1, cA9 cI X.1), (b2, cA2 cI X.2.1), (b3, cA2 cI X.2.2.1), (b4, cA2 cI X.2.2.2.1), (b5, cA2 cI X.2.2.2.2.1), (b6, cA9 cI (X.2.2.2.2.2.1.1, X.2.2.2.2.2.1.2.1, (if 1 < X.2.2.2.2.2.1.2.2.1 then X.2.2.2.2.2.1.2.2.1 else 1), p0, p1, p2, 0, 0, 0))] 6 rfl vi9_8 (ar9 (X.2.2.2.2.2.1.1, X.2.2.2.2.2.1.2.1, (if 1 < X.2.2.2.2.2.1.2.2.1 then X.2.2.2.2.2.1.2.2.1 else 1), p0, p1, p2, 0, 0, 0)) (ar9_s8 _ _) rfl dX3_hit_60 ?_
  have hL : fX3_hit p0 p1 p2 X = (X.1, X.2.1, X.2.2.1, X.2.2.2.1, X.2.2.2.2.1, (X.2.2.2.2.2.1.1, X.2.2.2.2.2.1.2.1, (if 1 < X.2.2.2.2.2.1.2.2.1 then X.2.2.2.2.2.1.2.2.1 else 1), p0, p1, p2, 0, 0, 0), X.2.2.2.2.2.2) := by exact rfl
  exact k_vret C rfl (by rw [hL]) dX3_hit_61

theorem hdX3_putToServe : yX3_putToServe.cls ≠ "java/lang/invoke/MethodHandle" ∧ yX3_putToServe.cls ≠ "java/lang/invoke/VarHandle" ∧ (parseMethodDescriptor yX3_putToServe.desc).map (fun d => d.parameters.length) = some 0 := by decide +kernel
noncomputable def fX3_putToServe (X : Mo) : Mo :=
  (X.1, X.2.1, X.2.2.1, X.2.2.2.1, X.2.2.2.2.1, (6, 14, 3, X.2.2.2.2.2.1.2.2.2), X.2.2.2.2.2.2)
set_option maxHeartbeats 4000000 in
set_option maxRecDepth 100000 in
theorem mX3_putToServe (l : Launch) (D : va_G) (cI cJ : ClassId) (b0 b1 b2 b3 b4 b5 b6 : Nat) (X : Mo)  : kCv l D cI cJ yX3_putToServe (.code yX3_putToServe cX3_putToServe 1 none) { frames := 0, cells := 0, slots := 0, locals := 0 } [.ref b0] (wM cI b0 b1 b2 b3 b4 b5 b6 X) (wM cI b0 b1 b2 b3 b4 b5 b6 (fX3_putToServe X)) := by
  refine fun sz => k_of (lv := [(0, .ref b0)]) (by decide) sz (by exact Nat.le_of_ble_eq_true rfl) rfl ?_
  intro p e s m args below meth c hsz C
  refine k_aload_n C dX3_putToServe_0 0 rfl ?_
  refine k_getX3 C 0 16 rfl (by decide) rfl q586 rfl dX3_putToServe_1 ?_
  refine k_iconst C 0 (by decide) dX3_putToServe_4 ?_
  refine k_bipush C 6 (by decide) dX3_putToServe_5 ?_
  refine k_iast C [(b0, cM b1 b2 b3 b4 b5 b6 X.2.2.2.2.2.2), (b1, cA9 cI X.1), (b2, cA2 cI X.2.1), (b3, cA2 cI X.2.2.1), (b4, cA2 cI X.2.2.2.1), (b5, cA2 cI X.2.2.2.2.1), (b6, cA9 cI (6, X.2.2.2.2.2.1.2))] 6 rfl vi9_0 (ar9 (6, X.2.2.2.2.2.1.2)) (ar9_s0 _ _) rfl dX3_putToServe_7 ?_
  refine k_aload_n C dX3_putToServe_8 0 rfl ?_
  refine k_getX3 C 0 16 rfl (by decide) rfl q586 rfl dX3_putToServe_9 ?_
  refine k_iconst C 1 (by decide) dX3_putToServe_12 ?_
  refine k_bipush C 14 (by decide) dX3_putToServe_13 ?_
  refine k_iast C [(b0, cM b1 b2 b3 b4 b5 b6 X.2.2.2.2.2.2), (b1, cA9 cI X.1), (b2, cA2 cI X.2.1), (b3, cA2 cI X.2.2.1), (b4, cA2 cI X.2.2.2.1), (b5, cA2 cI X.2.2.2.2.1), (b6, cA9 cI (6, 14, X.2.2.2.2.2.1.2.2))] 6 rfl vi9_1 (ar9 (6, 14, X.2.2.2.2.2.1.2.2)) (ar9_s1 _ _) rfl dX3_putToServe_15 ?_
  refine k_aload_n C dX3_putToServe_16 0 rfl ?_
  refine k_getX3 C 0 16 rfl (by decide) rfl q586 rfl dX3_putToServe_17 ?_
  refine k_iconst C 2 (by decide) dX3_putToServe_20 ?_
  refine k_iconst C 3 (by decide) dX3_putToServe_21 ?_
  refine k_iast C [(b0, cM b1 b2 b3 b4 b5 b6 X.2.2.2.2.2.2), (b1, cA9 cI X.1), (b2, cA2 cI X.2.1), (b3, cA2 cI X.2.2.1), (b4, cA2 cI X.2.2.2.1), (b5, cA2 cI X.2.2.2.2.1), (b6, cA9 cI (6, 14, 3, X.2.2.2.2.2.1.2.2.2))] 6 rfl vi9_2 (ar9 (6, 14, 3, X.2.2.2.2.2.1.2.2.2)) (ar9_s2 _ _) rfl dX3_putToServe_22 ?_
  have hL : fX3_putToServe X = (X.1, X.2.1, X.2.2.1, X.2.2.2.1, X.2.2.2.2.1, (6, 14, 3, X.2.2.2.2.2.1.2.2.2), X.2.2.2.2.2.2) := by exact rfl
  exact k_vret C rfl (by rw [hL]) dX3_putToServe_23

theorem hdX3_winner : yX3_winner.cls ≠ "java/lang/invoke/MethodHandle" ∧ yX3_winner.cls ≠ "java/lang/invoke/VarHandle" ∧ (parseMethodDescriptor yX3_winner.desc).map (fun d => d.parameters.length) = some 0 := by decide +kernel
noncomputable def fX3_winner (X : Mo) : Int32 :=
  if X.2.2.1.1 = 3 then 0
  else (if X.2.2.1.2 = 3 then 1
    else (-1))
set_option maxHeartbeats 4000000 in
set_option maxRecDepth 100000 in
theorem mX3_winner (l : Launch) (D : va_G) (cI cJ : ClassId) (b0 b1 b2 b3 b4 b5 b6 : Nat) (X : Mo)  : kCi l D cI cJ yX3_winner (.code yX3_winner cX3_winner 1 (some .int)) { frames := 0, cells := 0, slots := 0, locals := 0 } [.ref b0] (wM cI b0 b1 b2 b3 b4 b5 b6 X) (fX3_winner X) (wM cI b0 b1 b2 b3 b4 b5 b6 X) := by
  refine fun sz => k_of (lv := [(0, .ref b0)]) (by decide) sz (by exact Nat.le_of_ble_eq_true rfl) rfl ?_
  intro p e s m args below meth c hsz C
  refine k_aload_n C dX3_winner_0 0 rfl ?_
  refine k_getX3 C 0 7 rfl (by decide) rfl q577 rfl dX3_winner_1 ?_
  refine k_iconst C 0 (by decide) dX3_winner_4 ?_
  refine k_iald C 3 rfl vi2_0 (ar2_l0 _) dX3_winner_5 ?_
  refine k_iconst C 3 (by decide) dX3_winner_6 ?_
  refine k_icmp_ne C 14 (by decide) dX3_winner_7 (fun c1 => ?_) (fun c1 => ?_)
  ·
    refine k_aload_n C dX3_winner_14 0 rfl ?_
    refine k_getX3 C 0 7 rfl (by decide) rfl q577 rfl dX3_winner_15 ?_
    refine k_iconst C 1 (by decide) dX3_winner_18 ?_
    refine k_iald C 3 rfl vi2_1 (ar2_l1 _) dX3_winner_19 ?_
    refine k_iconst C 3 (by decide) dX3_winner_20 ?_
    refine k_icmp_ne C 28 (by decide) dX3_winner_21 (fun c2 => ?_) (fun c2 => ?_)
    ·
      refine k_iconst C (-1) (by decide) dX3_winner_28 ?_
      have hL : fX3_winner X = (-1) := by exact (if_neg c1).trans ((if_neg c2).trans rfl)
      exact k_iret C rfl (hL.symm) rfl dX3_winner_29
    ·
      refine k_iconst C 1 (by decide) dX3_winner_24 ?_
      refine k_goto C 29 (by decide) dX3_winner_25 ?_
      have hL : fX3_winner X = 1 := by exact (if_neg c1).trans ((if_pos c2).trans rfl)
      exact k_iret C rfl (hL.symm) rfl dX3_winner_29
  ·
    refine k_iconst C 0 (by decide) dX3_winner_10 ?_
    refine k_goto C 29 (by decide) dX3_winner_11 ?_
    have hL : fX3_winner X = 0 := by exact (if_pos c1).trans rfl
    exact k_iret C rfl (hL.symm) rfl dX3_winner_29

theorem side_flip {t : Int32} (h : t = 0 ∨ t = 1) : (1 - t) = 0 ∨ (1 - t) = 1 := by rcases h with h | h <;> subst h <;> decide
theorem hdX3_keepStroke : yX3_keepStroke.cls ≠ "java/lang/invoke/MethodHandle" ∧ yX3_keepStroke.cls ≠ "java/lang/invoke/VarHandle" ∧ (parseMethodDescriptor yX3_keepStroke.desc).map (fun d => d.parameters.length) = some 1 := by decide +kernel
noncomputable def fX3_keepStroke_0 (X : Mo) : Mo :=
  (X.2.2.2.2.2.1, X.2.1, X.2.2.1, X.2.2.2.1, ((X.2.2.2.2.1.1 + 1), X.2.2.2.2.1.2), X.2.2.2.2.2.1, X.2.2.2.2.2.2.1, X.2.2.2.2.2.2.2.1, X.2.2.2.2.2.2.2.2.1, 1, (X.2.2.2.2.2.2.2.2.2.2.1 + 1), X.2.2.2.2.2.2.2.2.2.2.2)
set_option maxHeartbeats 4000000 in
set_option maxRecDepth 100000 in
theorem mX3_keepStroke_0 (l : Launch) (D : va_G) (cI cJ : ClassId) (b0 b1 b2 b3 b4 b5 b6 : Nat) (p0 : Int32) (hp0 : p0 = 0) (X : Mo)  : kCv l D cI cJ yX3_keepStroke (.code yX3_keepStroke cX3_keepStroke 2 none) { frames := 1, cells := 0, slots := 0, locals := 40 } [.ref b0, .int p0] (wM cI b0 b1 b2 b3 b4 b5 b6 X) (wM cI b0 b1 b2 b3 b4 b5 b6 (fX3_keepStroke_0 X)) := by
  subst hp0
  refine fun sz => k_of (lv := [(0, .ref b0), (1, .int 0)]) (by decide) sz (by exact Nat.le_of_ble_eq_true rfl) rfl ?_
  intro p e s m args below meth c hsz C
  refine k_aload_n C dX3_keepStroke_0 0 rfl ?_
  refine k_getX3 C 0 16 rfl (by decide) rfl q586 rfl dX3_keepStroke_1 ?_
  refine k_iconst C 0 (by decide) dX3_keepStroke_4 ?_
  refine k_aload_n C dX3_keepStroke_5 0 rfl ?_
  refine k_getX3 C 0 5 rfl (by decide) rfl q575 rfl dX3_keepStroke_6 ?_
  refine k_iconst C 0 (by decide) dX3_keepStroke_9 ?_
  refine k_bipush C 9 (by decide) dX3_keepStroke_10 ?_
  refine k_copy C [(b0, cM b1 b2 b3 b4 b5 b6 X.2.2.2.2.2.2), (b1, cA9 cI X.2.2.2.2.2.1), (b2, cA2 cI X.2.1), (b3, cA2 cI X.2.2.1), (b4, cA2 cI X.2.2.2.1), (b5, cA2 cI X.2.2.2.2.1), (b6, cA9 cI X.2.2.2.2.2.1)] 6 1 rfl rfl q661 q663 q662 q69 (by decide) (by decide) (by decide) (by decide) (by decide) (Nat.le_of_ble_eq_true rfl) (Nat.le_of_ble_eq_true rfl) (ar9 X.2.2.2.2.2.1) (ar9_cp _ _) rfl dX3_keepStroke_12 ?_
  refine k_aload_n C dX3_keepStroke_15 0 rfl ?_
  refine k_getX3 C 0 9 rfl (by decide) rfl q579 rfl dX3_keepStroke_16 ?_
  refine k_iload_n C dX3_keepStroke_19 1 rfl ?_
  refine k_dup2 C rfl rfl dX3_keepStroke_20 ?_
  refine k_iald C 5 rfl vi2_0 (ar2_l0 _) dX3_keepStroke_21 ?_
  refine k_iconst C 1 (by decide) dX3_keepStroke_22 ?_
  refine k_iadd C dX3_keepStroke_23 ?_
  refine k_iast C [(b0, cM b1 b2 b3 b4 b5 b6 X.2.2.2.2.2.2), (b1, cA9 cI X.2.2.2.2.2.1), (b2, cA2 cI X.2.1), (b3, cA2 cI X.2.2.1), (b4, cA2 cI X.2.2.2.1), (b5, cA2 cI ((X.2.2.2.2.1.1 + 1), X.2.2.2.2.1.2)), (b6, cA9 cI X.2.2.2.2.2.1)] 5 rfl vi2_0 (ar2 ((X.2.2.2.2.1.1 + 1), X.2.2.2.2.1.2)) (ar2_s0 _ _) rfl dX3_keepStroke_24 ?_
  refine k_aload_n C dX3_keepStroke_25 0 rfl ?_
  refine k_dup C rfl dX3_keepStroke_26 ?_
  refine k_getX3 C 0 4 rfl (by decide) rfl q574 rfl dX3_keepStroke_27 ?_
  refine k_iconst C 1 (by decide) dX3_keepStroke_30 ?_
  refine k_iadd C dX3_keepStroke_31 ?_
  refine k_putX3 C [(b0, cM b1 b2 b3 b4 b5 b6 (X.2.2.2.2.2.2.1, X.2.2.2.2.2.2.2.1, X.2.2.2.2.2.2.2.2.1, X.2.2.2.2.2.2.2.2.2.1, (X.2.2.2.2.2.2.2.2.2.2.1 + 1), X.2.2.2.2.2.2.2.2.2.2.2)), (b1, cA9 cI X.2.2.2.2.2.1), (b2, cA2 cI X.2.1), (b3, cA2 cI X.2.2.1), (b4, cA2 cI X.2.2.2.1), (b5, cA2 cI ((X.2.2.2.2.1.1 + 1), X.2.2.2.2.1.2)), (b6, cA9 cI X.2.2.2.2.2.1)] 0 4 rfl rfl (by decide) q574 rfl rfl fdI rfl rfl (Nat.le_of_ble_eq_true rfl) dX3_keepStroke_32 ?_
  refine k_aload_n C dX3_keepStroke_35 0 rfl ?_
  refine k_iconst C 1 (by decide) dX3_keepStroke_36 ?_
  refine k_iload_n C dX3_keepStroke_37 1 rfl ?_
  refine k_isubL C 1 (by decide) dX3_keepStroke_38 ?_
  refine k_putX3 C [(b0, cM b1 b2 b3 b4 b5 b6 (X.2.2.2.2.2.2.1, X.2.2.2.2.2.2.2.1, X.2.2.2.2.2.2.2.2.1, 1, (X.2.2.2.2.2.2.2.2.2.2.1 + 1), X.2.2.2.2.2.2.2.2.2.2.2)), (b1, cA9 cI X.2.2.2.2.2.1), (b2, cA2 cI X.2.1), (b3, cA2 cI X.2.2.1), (b4, cA2 cI X.2.2.2.1), (b5, cA2 cI ((X.2.2.2.2.1.1 + 1), X.2.2.2.2.1.2)), (b6, cA9 cI X.2.2.2.2.2.1)] 0 3 rfl rfl (by decide) q573 rfl rfl fdI rfl rfl (Nat.le_of_ble_eq_true rfl) dX3_keepStroke_39 ?_
  have hL : fX3_keepStroke_0 X = (X.2.2.2.2.2.1, X.2.1, X.2.2.1, X.2.2.2.1, ((X.2.2.2.2.1.1 + 1), X.2.2.2.2.1.2), X.2.2.2.2.2.1, X.2.2.2.2.2.2.1, X.2.2.2.2.2.2.2.1, X.2.2.2.2.2.2.2.2.1, 1, (X.2.2.2.2.2.2.2.2.2.2.1 + 1), X.2.2.2.2.2.2.2.2.2.2.2) := by exact rfl
  exact k_vret C rfl (by rw [hL]) dX3_keepStroke_42

noncomputable def fX3_keepStroke_1 (X : Mo) : Mo :=
  (X.2.2.2.2.2.1, X.2.1, X.2.2.1, X.2.2.2.1, (X.2.2.2.2.1.1, (X.2.2.2.2.1.2 + 1)), X.2.2.2.2.2.1, X.2.2.2.2.2.2.1, X.2.2.2.2.2.2.2.1, X.2.2.2.2.2.2.2.2.1, 0, (X.2.2.2.2.2.2.2.2.2.2.1 + 1), X.2.2.2.2.2.2.2.2.2.2.2)
set_option maxHeartbeats 4000000 in
set_option maxRecDepth 100000 in
theorem mX3_keepStroke_1 (l : Launch) (D : va_G) (cI cJ : ClassId) (b0 b1 b2 b3 b4 b5 b6 : Nat) (p0 : Int32) (hp0 : p0 = 1) (X : Mo)  : kCv l D cI cJ yX3_keepStroke (.code yX3_keepStroke cX3_keepStroke 2 none) { frames := 1, cells := 0, slots := 0, locals := 40 } [.ref b0, .int p0] (wM cI b0 b1 b2 b3 b4 b5 b6 X) (wM cI b0 b1 b2 b3 b4 b5 b6 (fX3_keepStroke_1 X)) := by
  subst hp0
  refine fun sz => k_of (lv := [(0, .ref b0), (1, .int 1)]) (by decide) sz (by exact Nat.le_of_ble_eq_true rfl) rfl ?_
  intro p e s m args below meth c hsz C
  refine k_aload_n C dX3_keepStroke_0 0 rfl ?_
  refine k_getX3 C 0 16 rfl (by decide) rfl q586 rfl dX3_keepStroke_1 ?_
  refine k_iconst C 0 (by decide) dX3_keepStroke_4 ?_
  refine k_aload_n C dX3_keepStroke_5 0 rfl ?_
  refine k_getX3 C 0 5 rfl (by decide) rfl q575 rfl dX3_keepStroke_6 ?_
  refine k_iconst C 0 (by decide) dX3_keepStroke_9 ?_
  refine k_bipush C 9 (by decide) dX3_keepStroke_10 ?_
  refine k_copy C [(b0, cM b1 b2 b3 b4 b5 b6 X.2.2.2.2.2.2), (b1, cA9 cI X.2.2.2.2.2.1), (b2, cA2 cI X.2.1), (b3, cA2 cI X.2.2.1), (b4, cA2 cI X.2.2.2.1), (b5, cA2 cI X.2.2.2.2.1), (b6, cA9 cI X.2.2.2.2.2.1)] 6 1 rfl rfl q661 q663 q662 q69 (by decide) (by decide) (by decide) (by decide) (by decide) (Nat.le_of_ble_eq_true rfl) (Nat.le_of_ble_eq_true rfl) (ar9 X.2.2.2.2.2.1) (ar9_cp _ _) rfl dX3_keepStroke_12 ?_
  refine k_aload_n C dX3_keepStroke_15 0 rfl ?_
  refine k_getX3 C 0 9 rfl (by decide) rfl q579 rfl dX3_keepStroke_16 ?_
  refine k_iload_n C dX3_keepStroke_19 1 rfl ?_
  refine k_dup2 C rfl rfl dX3_keepStroke_20 ?_
  refine k_iald C 5 rfl vi2_1 (ar2_l1 _) dX3_keepStroke_21 ?_
  refine k_iconst C 1 (by decide) dX3_keepStroke_22 ?_
  refine k_iadd C dX3_keepStroke_23 ?_
  refine k_iast C [(b0, cM b1 b2 b3 b4 b5 b6 X.2.2.2.2.2.2), (b1, cA9 cI X.2.2.2.2.2.1), (b2, cA2 cI X.2.1), (b3, cA2 cI X.2.2.1), (b4, cA2 cI X.2.2.2.1), (b5, cA2 cI (X.2.2.2.2.1.1, (X.2.2.2.2.1.2 + 1))), (b6, cA9 cI X.2.2.2.2.2.1)] 5 rfl vi2_1 (ar2 (X.2.2.2.2.1.1, (X.2.2.2.2.1.2 + 1))) (ar2_s1 _ _) rfl dX3_keepStroke_24 ?_
  refine k_aload_n C dX3_keepStroke_25 0 rfl ?_
  refine k_dup C rfl dX3_keepStroke_26 ?_
  refine k_getX3 C 0 4 rfl (by decide) rfl q574 rfl dX3_keepStroke_27 ?_
  refine k_iconst C 1 (by decide) dX3_keepStroke_30 ?_
  refine k_iadd C dX3_keepStroke_31 ?_
  refine k_putX3 C [(b0, cM b1 b2 b3 b4 b5 b6 (X.2.2.2.2.2.2.1, X.2.2.2.2.2.2.2.1, X.2.2.2.2.2.2.2.2.1, X.2.2.2.2.2.2.2.2.2.1, (X.2.2.2.2.2.2.2.2.2.2.1 + 1), X.2.2.2.2.2.2.2.2.2.2.2)), (b1, cA9 cI X.2.2.2.2.2.1), (b2, cA2 cI X.2.1), (b3, cA2 cI X.2.2.1), (b4, cA2 cI X.2.2.2.1), (b5, cA2 cI (X.2.2.2.2.1.1, (X.2.2.2.2.1.2 + 1))), (b6, cA9 cI X.2.2.2.2.2.1)] 0 4 rfl rfl (by decide) q574 rfl rfl fdI rfl rfl (Nat.le_of_ble_eq_true rfl) dX3_keepStroke_32 ?_
  refine k_aload_n C dX3_keepStroke_35 0 rfl ?_
  refine k_iconst C 1 (by decide) dX3_keepStroke_36 ?_
  refine k_iload_n C dX3_keepStroke_37 1 rfl ?_
  refine k_isubL C 0 (by decide) dX3_keepStroke_38 ?_
  refine k_putX3 C [(b0, cM b1 b2 b3 b4 b5 b6 (X.2.2.2.2.2.2.1, X.2.2.2.2.2.2.2.1, X.2.2.2.2.2.2.2.2.1, 0, (X.2.2.2.2.2.2.2.2.2.2.1 + 1), X.2.2.2.2.2.2.2.2.2.2.2)), (b1, cA9 cI X.2.2.2.2.2.1), (b2, cA2 cI X.2.1), (b3, cA2 cI X.2.2.1), (b4, cA2 cI X.2.2.2.1), (b5, cA2 cI (X.2.2.2.2.1.1, (X.2.2.2.2.1.2 + 1))), (b6, cA9 cI X.2.2.2.2.2.1)] 0 3 rfl rfl (by decide) q573 rfl rfl fdI rfl rfl (Nat.le_of_ble_eq_true rfl) dX3_keepStroke_39 ?_
  have hL : fX3_keepStroke_1 X = (X.2.2.2.2.2.1, X.2.1, X.2.2.1, X.2.2.2.1, (X.2.2.2.2.1.1, (X.2.2.2.2.1.2 + 1)), X.2.2.2.2.2.1, X.2.2.2.2.2.2.1, X.2.2.2.2.2.2.2.1, X.2.2.2.2.2.2.2.2.1, 0, (X.2.2.2.2.2.2.2.2.2.2.1 + 1), X.2.2.2.2.2.2.2.2.2.2.2) := by exact rfl
  exact k_vret C rfl (by rw [hL]) dX3_keepStroke_42

theorem hdX3_winGame : yX3_winGame.cls ≠ "java/lang/invoke/MethodHandle" ∧ yX3_winGame.cls ≠ "java/lang/invoke/VarHandle" ∧ (parseMethodDescriptor yX3_winGame.desc).map (fun d => d.parameters.length) = some 1 := by decide +kernel
noncomputable def fX3_winGame_0 (X : Mo) : Mo :=
  (X.1, (0, 0), ((X.2.2.1.1 + 1), X.2.2.1.2), X.2.2.2.1, X.2.2.2.2.1, X.2.2.2.2.2.1, X.2.2.2.2.2.2.1, 0, X.2.2.2.2.2.2.2.2.1, X.2.2.2.2.2.2.2.2.2.1, X.2.2.2.2.2.2.2.2.2.2.1, X.2.2.2.2.2.2.2.2.2.2.2.1, X.2.2.2.2.2.2.2.2.2.2.2.2.1, (X.2.2.2.2.2.2.2.2.2.2.2.2.2.1 + 1), 12, 0, X.2.2.2.2.2.2.2.2.2.2.2.2.2.2.2.2)
set_option maxHeartbeats 4000000 in
set_option maxRecDepth 100000 in
theorem mX3_winGame_0 (l : Launch) (D : va_G) (cI cJ : ClassId) (b0 b1 b2 b3 b4 b5 b6 : Nat) (p0 : Int32) (hp0 : p0 = 0) (X : Mo)  : kCv l D cI cJ yX3_winGame (.code yX3_winGame cX3_winGame 2 none) { frames := 0, cells := 0, slots := 0, locals := 0 } [.ref b0, .int p0] (wM cI b0 b1 b2 b3 b4 b5 b6 X) (wM cI b0 b1 b2 b3 b4 b5 b6 (fX3_winGame_0 X)) := by
  subst hp0
  refine fun sz => k_of (lv := [(0, .ref b0), (1, .int 0)]) (by decide) sz (by exact Nat.le_of_ble_eq_true rfl) rfl ?_
  intro p e s m args below meth c hsz C
  refine k_aload_n C dX3_winGame_0 0 rfl ?_
  refine k_getX3 C 0 7 rfl (by decide) rfl q577 rfl dX3_winGame_1 ?_
  refine k_iload_n C dX3_winGame_4 1 rfl ?_
  refine k_dup2 C rfl rfl dX3_winGame_5 ?_
  refine k_iald C 3 rfl vi2_0 (ar2_l0 _) dX3_winGame_6 ?_
  refine k_iconst C 1 (by decide) dX3_winGame_7 ?_
  refine k_iadd C dX3_winGame_8 ?_
  refine k_iast C [(b0, cM b1 b2 b3 b4 b5 b6 X.2.2.2.2.2.2), (b1, cA9 cI X.1), (b2, cA2 cI X.2.1), (b3, cA2 cI ((X.2.2.1.1 + 1), X.2.2.1.2)), (b4, cA2 cI X.2.2.2.1), (b5, cA2 cI X.2.2.2.2.1), (b6, cA9 cI X.2.2.2.2.2.1)] 3 rfl vi2_0 (ar2 ((X.2.2.1.1 + 1), X.2.2.1.2)) (ar2_s0 _ _) rfl dX3_winGame_9 ?_
  refine k_aload_n C dX3_winGame_10 0 rfl ?_
  refine k_dup C rfl dX3_winGame_11 ?_
  refine k_getX3 C 0 12 rfl (by decide) rfl q582 rfl dX3_winGame_12 ?_
  refine k_iconst C 1 (by decide) dX3_winGame_15 ?_
  refine k_iadd C dX3_winGame_16 ?_
  refine k_putX3 C [(b0, cM b1 b2 b3 b4 b5 b6 (X.2.2.2.2.2.2.1, X.2.2.2.2.2.2.2.1, X.2.2.2.2.2.2.2.2.1, X.2.2.2.2.2.2.2.2.2.1, X.2.2.2.2.2.2.2.2.2.2.1, X.2.2.2.2.2.2.2.2.2.2.2.1, X.2.2.2.2.2.2.2.2.2.2.2.2.1, (X.2.2.2.2.2.2.2.2.2.2.2.2.2.1 + 1), X.2.2.2.2.2.2.2.2.2.2.2.2.2.2)), (b1, cA9 cI X.1), (b2, cA2 cI X.2.1), (b3, cA2 cI ((X.2.2.1.1 + 1), X.2.2.1.2)), (b4, cA2 cI X.2.2.2.1), (b5, cA2 cI X.2.2.2.2.1), (b6, cA9 cI X.2.2.2.2.2.1)] 0 12 rfl rfl (by decide) q582 rfl rfl fdI rfl rfl (Nat.le_of_ble_eq_true rfl) dX3_winGame_17 ?_
  refine k_aload_n C dX3_winGame_20 0 rfl ?_
  refine k_getX3 C 0 6 rfl (by decide) rfl q576 rfl dX3_winGame_21 ?_
  refine k_iconst C 0 (by decide) dX3_winGame_24 ?_
  refine k_iconst C 0 (by decide) dX3_winGame_25 ?_
  refine k_iast C [(b0, cM b1 b2 b3 b4 b5 b6 (X.2.2.2.2.2.2.1, X.2.2.2.2.2.2.2.1, X.2.2.2.2.2.2.2.2.1, X.2.2.2.2.2.2.2.2.2.1, X.2.2.2.2.2.2.2.2.2.2.1, X.2.2.2.2.2.2.2.2.2.2.2.1, X.2.2.2.2.2.2.2.2.2.2.2.2.1, (X.2.2.2.2.2.2.2.2.2.2.2.2.2.1 + 1), X.2.2.2.2.2.2.2.2.2.2.2.2.2.2)), (b1, cA9 cI X.1), (b2, cA2 cI (0, X.2.1.2)), (b3, cA2 cI ((X.2.2.1.1 + 1), X.2.2.1.2)), (b4, cA2 cI X.2.2.2.1), (b5, cA2 cI X.2.2.2.2.1), (b6, cA9 cI X.2.2.2.2.2.1)] 2 rfl vi2_0 (ar2 (0, X.2.1.2)) (ar2_s0 _ _) rfl dX3_winGame_26 ?_
  refine k_aload_n C dX3_winGame_27 0 rfl ?_
  refine k_getX3 C 0 6 rfl (by decide) rfl q576 rfl dX3_winGame_28 ?_
  refine k_iconst C 1 (by decide) dX3_winGame_31 ?_
  refine k_iconst C 0 (by decide) dX3_winGame_32 ?_
  refine k_iast C [(b0, cM b1 b2 b3 b4 b5 b6 (X.2.2.2.2.2.2.1, X.2.2.2.2.2.2.2.1, X.2.2.2.2.2.2.2.2.1, X.2.2.2.2.2.2.2.2.2.1, X.2.2.2.2.2.2.2.2.2.2.1, X.2.2.2.2.2.2.2.2.2.2.2.1, X.2.2.2.2.2.2.2.2.2.2.2.2.1, (X.2.2.2.2.2.2.2.2.2.2.2.2.2.1 + 1), X.2.2.2.2.2.2.2.2.2.2.2.2.2.2)), (b1, cA9 cI X.1), (b2, cA2 cI (0, 0)), (b3, cA2 cI ((X.2.2.1.1 + 1), X.2.2.1.2)), (b4, cA2 cI X.2.2.2.1), (b5, cA2 cI X.2.2.2.2.1), (b6, cA9 cI X.2.2.2.2.2.1)] 2 rfl vi2_1 (ar2 (0, 0)) (ar2_s1 _ _) rfl dX3_winGame_33 ?_
  refine k_aload_n C dX3_winGame_34 0 rfl ?_
  refine k_bipush C 12 (by decide) dX3_winGame_35 ?_
  refine k_putX3 C [(b0, cM b1 b2 b3 b4 b5 b6 (X.2.2.2.2.2.2.1, X.2.2.2.2.2.2.2.1, X.2.2.2.2.2.2.2.2.1, X.2.2.2.2.2.2.2.2.2.1, X.2.2.2.2.2.2.2.2.2.2.1, X.2.2.2.2.2.2.2.2.2.2.2.1, X.2.2.2.2.2.2.2.2.2.2.2.2.1, (X.2.2.2.2.2.2.2.2.2.2.2.2.2.1 + 1), 12, X.2.2.2.2.2.2.2.2.2.2.2.2.2.2.2)), (b1, cA9 cI X.1), (b2, cA2 cI (0, 0)), (b3, cA2 cI ((X.2.2.1.1 + 1), X.2.2.1.2)), (b4, cA2 cI X.2.2.2.1), (b5, cA2 cI X.2.2.2.2.1), (b6, cA9 cI X.2.2.2.2.2.1)] 0 13 rfl rfl (by decide) q583 rfl rfl fdI rfl rfl (Nat.le_of_ble_eq_true rfl) dX3_winGame_37 ?_
  refine k_aload_n C dX3_winGame_40 0 rfl ?_
  refine k_iconst C 0 (by decide) dX3_winGame_41 ?_
  refine k_putX3 C [(b0, cM b1 b2 b3 b4 b5 b6 (X.2.2.2.2.2.2.1, X.2.2.2.2.2.2.2.1, X.2.2.2.2.2.2.2.2.1, X.2.2.2.2.2.2.2.2.2.1, X.2.2.2.2.2.2.2.2.2.2.1, X.2.2.2.2.2.2.2.2.2.2.2.1, X.2.2.2.2.2.2.2.2.2.2.2.2.1, (X.2.2.2.2.2.2.2.2.2.2.2.2.2.1 + 1), 12, 0, X.2.2.2.2.2.2.2.2.2.2.2.2.2.2.2.2)), (b1, cA9 cI X.1), (b2, cA2 cI (0, 0)), (b3, cA2 cI ((X.2.2.1.1 + 1), X.2.2.1.2)), (b4, cA2 cI X.2.2.2.1), (b5, cA2 cI X.2.2.2.2.1), (b6, cA9 cI X.2.2.2.2.2.1)] 0 14 rfl rfl (by decide) q584 rfl rfl fdZ rfl rfl (Nat.le_of_ble_eq_true rfl) dX3_winGame_42 ?_
  refine k_aload_n C dX3_winGame_45 0 rfl ?_
  refine k_iload_n C dX3_winGame_46 1 rfl ?_
  refine k_putX3 C [(b0, cM b1 b2 b3 b4 b5 b6 (X.2.2.2.2.2.2.1, 0, X.2.2.2.2.2.2.2.2.1, X.2.2.2.2.2.2.2.2.2.1, X.2.2.2.2.2.2.2.2.2.2.1, X.2.2.2.2.2.2.2.2.2.2.2.1, X.2.2.2.2.2.2.2.2.2.2.2.2.1, (X.2.2.2.2.2.2.2.2.2.2.2.2.2.1 + 1), 12, 0, X.2.2.2.2.2.2.2.2.2.2.2.2.2.2.2.2)), (b1, cA9 cI X.1), (b2, cA2 cI (0, 0)), (b3, cA2 cI ((X.2.2.1.1 + 1), X.2.2.1.2)), (b4, cA2 cI X.2.2.2.1), (b5, cA2 cI X.2.2.2.2.1), (b6, cA9 cI X.2.2.2.2.2.1)] 0 1 rfl rfl (by decide) q571 rfl rfl fdI rfl rfl (Nat.le_of_ble_eq_true rfl) dX3_winGame_47 ?_
  have hL : fX3_winGame_0 X = (X.1, (0, 0), ((X.2.2.1.1 + 1), X.2.2.1.2), X.2.2.2.1, X.2.2.2.2.1, X.2.2.2.2.2.1, X.2.2.2.2.2.2.1, 0, X.2.2.2.2.2.2.2.2.1, X.2.2.2.2.2.2.2.2.2.1, X.2.2.2.2.2.2.2.2.2.2.1, X.2.2.2.2.2.2.2.2.2.2.2.1, X.2.2.2.2.2.2.2.2.2.2.2.2.1, (X.2.2.2.2.2.2.2.2.2.2.2.2.2.1 + 1), 12, 0, X.2.2.2.2.2.2.2.2.2.2.2.2.2.2.2.2) := by exact rfl
  exact k_vret C rfl (by rw [hL]) dX3_winGame_50

noncomputable def fX3_winGame_1 (X : Mo) : Mo :=
  (X.1, (0, 0), (X.2.2.1.1, (X.2.2.1.2 + 1)), X.2.2.2.1, X.2.2.2.2.1, X.2.2.2.2.2.1, X.2.2.2.2.2.2.1, 1, X.2.2.2.2.2.2.2.2.1, X.2.2.2.2.2.2.2.2.2.1, X.2.2.2.2.2.2.2.2.2.2.1, X.2.2.2.2.2.2.2.2.2.2.2.1, X.2.2.2.2.2.2.2.2.2.2.2.2.1, (X.2.2.2.2.2.2.2.2.2.2.2.2.2.1 + 1), 12, 0, X.2.2.2.2.2.2.2.2.2.2.2.2.2.2.2.2)
set_option maxHeartbeats 4000000 in
set_option maxRecDepth 100000 in
theorem mX3_winGame_1 (l : Launch) (D : va_G) (cI cJ : ClassId) (b0 b1 b2 b3 b4 b5 b6 : Nat) (p0 : Int32) (hp0 : p0 = 1) (X : Mo)  : kCv l D cI cJ yX3_winGame (.code yX3_winGame cX3_winGame 2 none) { frames := 0, cells := 0, slots := 0, locals := 0 } [.ref b0, .int p0] (wM cI b0 b1 b2 b3 b4 b5 b6 X) (wM cI b0 b1 b2 b3 b4 b5 b6 (fX3_winGame_1 X)) := by
  subst hp0
  refine fun sz => k_of (lv := [(0, .ref b0), (1, .int 1)]) (by decide) sz (by exact Nat.le_of_ble_eq_true rfl) rfl ?_
  intro p e s m args below meth c hsz C
  refine k_aload_n C dX3_winGame_0 0 rfl ?_
  refine k_getX3 C 0 7 rfl (by decide) rfl q577 rfl dX3_winGame_1 ?_
  refine k_iload_n C dX3_winGame_4 1 rfl ?_
  refine k_dup2 C rfl rfl dX3_winGame_5 ?_
  refine k_iald C 3 rfl vi2_1 (ar2_l1 _) dX3_winGame_6 ?_
  refine k_iconst C 1 (by decide) dX3_winGame_7 ?_
  refine k_iadd C dX3_winGame_8 ?_
  refine k_iast C [(b0, cM b1 b2 b3 b4 b5 b6 X.2.2.2.2.2.2), (b1, cA9 cI X.1), (b2, cA2 cI X.2.1), (b3, cA2 cI (X.2.2.1.1, (X.2.2.1.2 + 1))), (b4, cA2 cI X.2.2.2.1), (b5, cA2 cI X.2.2.2.2.1), (b6, cA9 cI X.2.2.2.2.2.1)] 3 rfl vi2_1 (ar2 (X.2.2.1.1, (X.2.2.1.2 + 1))) (ar2_s1 _ _) rfl dX3_winGame_9 ?_
  refine k_aload_n C dX3_winGame_10 0 rfl ?_
  refine k_dup C rfl dX3_winGame_11 ?_
  refine k_getX3 C 0 12 rfl (by decide) rfl q582 rfl dX3_winGame_12 ?_
  refine k_iconst C 1 (by decide) dX3_winGame_15 ?_
  refine k_iadd C dX3_winGame_16 ?_
  refine k_putX3 C [(b0, cM b1 b2 b3 b4 b5 b6 (X.2.2.2.2.2.2.1, X.2.2.2.2.2.2.2.1, X.2.2.2.2.2.2.2.2.1, X.2.2.2.2.2.2.2.2.2.1, X.2.2.2.2.2.2.2.2.2.2.1, X.2.2.2.2.2.2.2.2.2.2.2.1, X.2.2.2.2.2.2.2.2.2.2.2.2.1, (X.2.2.2.2.2.2.2.2.2.2.2.2.2.1 + 1), X.2.2.2.2.2.2.2.2.2.2.2.2.2.2)), (b1, cA9 cI X.1), (b2, cA2 cI X.2.1), (b3, cA2 cI (X.2.2.1.1, (X.2.2.1.2 + 1))), (b4, cA2 cI X.2.2.2.1), (b5, cA2 cI X.2.2.2.2.1), (b6, cA9 cI X.2.2.2.2.2.1)] 0 12 rfl rfl (by decide) q582 rfl rfl fdI rfl rfl (Nat.le_of_ble_eq_true rfl) dX3_winGame_17 ?_
  refine k_aload_n C dX3_winGame_20 0 rfl ?_
  refine k_getX3 C 0 6 rfl (by decide) rfl q576 rfl dX3_winGame_21 ?_
  refine k_iconst C 0 (by decide) dX3_winGame_24 ?_
  refine k_iconst C 0 (by decide) dX3_winGame_25 ?_
  refine k_iast C [(b0, cM b1 b2 b3 b4 b5 b6 (X.2.2.2.2.2.2.1, X.2.2.2.2.2.2.2.1, X.2.2.2.2.2.2.2.2.1, X.2.2.2.2.2.2.2.2.2.1, X.2.2.2.2.2.2.2.2.2.2.1, X.2.2.2.2.2.2.2.2.2.2.2.1, X.2.2.2.2.2.2.2.2.2.2.2.2.1, (X.2.2.2.2.2.2.2.2.2.2.2.2.2.1 + 1), X.2.2.2.2.2.2.2.2.2.2.2.2.2.2)), (b1, cA9 cI X.1), (b2, cA2 cI (0, X.2.1.2)), (b3, cA2 cI (X.2.2.1.1, (X.2.2.1.2 + 1))), (b4, cA2 cI X.2.2.2.1), (b5, cA2 cI X.2.2.2.2.1), (b6, cA9 cI X.2.2.2.2.2.1)] 2 rfl vi2_0 (ar2 (0, X.2.1.2)) (ar2_s0 _ _) rfl dX3_winGame_26 ?_
  refine k_aload_n C dX3_winGame_27 0 rfl ?_
  refine k_getX3 C 0 6 rfl (by decide) rfl q576 rfl dX3_winGame_28 ?_
  refine k_iconst C 1 (by decide) dX3_winGame_31 ?_
  refine k_iconst C 0 (by decide) dX3_winGame_32 ?_
  refine k_iast C [(b0, cM b1 b2 b3 b4 b5 b6 (X.2.2.2.2.2.2.1, X.2.2.2.2.2.2.2.1, X.2.2.2.2.2.2.2.2.1, X.2.2.2.2.2.2.2.2.2.1, X.2.2.2.2.2.2.2.2.2.2.1, X.2.2.2.2.2.2.2.2.2.2.2.1, X.2.2.2.2.2.2.2.2.2.2.2.2.1, (X.2.2.2.2.2.2.2.2.2.2.2.2.2.1 + 1), X.2.2.2.2.2.2.2.2.2.2.2.2.2.2)), (b1, cA9 cI X.1), (b2, cA2 cI (0, 0)), (b3, cA2 cI (X.2.2.1.1, (X.2.2.1.2 + 1))), (b4, cA2 cI X.2.2.2.1), (b5, cA2 cI X.2.2.2.2.1), (b6, cA9 cI X.2.2.2.2.2.1)] 2 rfl vi2_1 (ar2 (0, 0)) (ar2_s1 _ _) rfl dX3_winGame_33 ?_
  refine k_aload_n C dX3_winGame_34 0 rfl ?_
  refine k_bipush C 12 (by decide) dX3_winGame_35 ?_
  refine k_putX3 C [(b0, cM b1 b2 b3 b4 b5 b6 (X.2.2.2.2.2.2.1, X.2.2.2.2.2.2.2.1, X.2.2.2.2.2.2.2.2.1, X.2.2.2.2.2.2.2.2.2.1, X.2.2.2.2.2.2.2.2.2.2.1, X.2.2.2.2.2.2.2.2.2.2.2.1, X.2.2.2.2.2.2.2.2.2.2.2.2.1, (X.2.2.2.2.2.2.2.2.2.2.2.2.2.1 + 1), 12, X.2.2.2.2.2.2.2.2.2.2.2.2.2.2.2)), (b1, cA9 cI X.1), (b2, cA2 cI (0, 0)), (b3, cA2 cI (X.2.2.1.1, (X.2.2.1.2 + 1))), (b4, cA2 cI X.2.2.2.1), (b5, cA2 cI X.2.2.2.2.1), (b6, cA9 cI X.2.2.2.2.2.1)] 0 13 rfl rfl (by decide) q583 rfl rfl fdI rfl rfl (Nat.le_of_ble_eq_true rfl) dX3_winGame_37 ?_
  refine k_aload_n C dX3_winGame_40 0 rfl ?_
  refine k_iconst C 0 (by decide) dX3_winGame_41 ?_
  refine k_putX3 C [(b0, cM b1 b2 b3 b4 b5 b6 (X.2.2.2.2.2.2.1, X.2.2.2.2.2.2.2.1, X.2.2.2.2.2.2.2.2.1, X.2.2.2.2.2.2.2.2.2.1, X.2.2.2.2.2.2.2.2.2.2.1, X.2.2.2.2.2.2.2.2.2.2.2.1, X.2.2.2.2.2.2.2.2.2.2.2.2.1, (X.2.2.2.2.2.2.2.2.2.2.2.2.2.1 + 1), 12, 0, X.2.2.2.2.2.2.2.2.2.2.2.2.2.2.2.2)), (b1, cA9 cI X.1), (b2, cA2 cI (0, 0)), (b3, cA2 cI (X.2.2.1.1, (X.2.2.1.2 + 1))), (b4, cA2 cI X.2.2.2.1), (b5, cA2 cI X.2.2.2.2.1), (b6, cA9 cI X.2.2.2.2.2.1)] 0 14 rfl rfl (by decide) q584 rfl rfl fdZ rfl rfl (Nat.le_of_ble_eq_true rfl) dX3_winGame_42 ?_
  refine k_aload_n C dX3_winGame_45 0 rfl ?_
  refine k_iload_n C dX3_winGame_46 1 rfl ?_
  refine k_putX3 C [(b0, cM b1 b2 b3 b4 b5 b6 (X.2.2.2.2.2.2.1, 1, X.2.2.2.2.2.2.2.2.1, X.2.2.2.2.2.2.2.2.2.1, X.2.2.2.2.2.2.2.2.2.2.1, X.2.2.2.2.2.2.2.2.2.2.2.1, X.2.2.2.2.2.2.2.2.2.2.2.2.1, (X.2.2.2.2.2.2.2.2.2.2.2.2.2.1 + 1), 12, 0, X.2.2.2.2.2.2.2.2.2.2.2.2.2.2.2.2)), (b1, cA9 cI X.1), (b2, cA2 cI (0, 0)), (b3, cA2 cI (X.2.2.1.1, (X.2.2.1.2 + 1))), (b4, cA2 cI X.2.2.2.1), (b5, cA2 cI X.2.2.2.2.1), (b6, cA9 cI X.2.2.2.2.2.1)] 0 1 rfl rfl (by decide) q571 rfl rfl fdI rfl rfl (Nat.le_of_ble_eq_true rfl) dX3_winGame_47 ?_
  have hL : fX3_winGame_1 X = (X.1, (0, 0), (X.2.2.1.1, (X.2.2.1.2 + 1)), X.2.2.2.1, X.2.2.2.2.1, X.2.2.2.2.2.1, X.2.2.2.2.2.2.1, 1, X.2.2.2.2.2.2.2.2.1, X.2.2.2.2.2.2.2.2.2.1, X.2.2.2.2.2.2.2.2.2.2.1, X.2.2.2.2.2.2.2.2.2.2.2.1, X.2.2.2.2.2.2.2.2.2.2.2.2.1, (X.2.2.2.2.2.2.2.2.2.2.2.2.2.1 + 1), 12, 0, X.2.2.2.2.2.2.2.2.2.2.2.2.2.2.2.2) := by exact rfl
  exact k_vret C rfl (by rw [hL]) dX3_winGame_50

theorem hdX3_win : yX3_win.cls ≠ "java/lang/invoke/MethodHandle" ∧ yX3_win.cls ≠ "java/lang/invoke/VarHandle" ∧ (parseMethodDescriptor yX3_win.desc).map (fun d => d.parameters.length) = some 1 := by decide +kernel
noncomputable def fX3_win_0 (X : Mo) : Int32 × Mo :=
  if 0 = X.2.2.2.2.2.2.2.1 then (if (X.2.1.1 + 1) < X.2.2.2.2.2.2.2.2.2.2.2.2.2.2.1 then (2, (X.1, ((X.2.1.1 + 1), X.2.1.2), X.2.2.1, ((X.2.2.2.1.1 + 1), X.2.2.2.1.2), X.2.2.2.2.1, X.2.2.2.2.2.1, X.2.2.2.2.2.2.1, X.2.2.2.2.2.2.2.1, 0, X.2.2.2.2.2.2.2.2.2.1, X.2.2.2.2.2.2.2.2.2.2.1, (X.2.2.2.2.2.2.2.2.2.2.2.1 + 1), X.2.2.2.2.2.2.2.2.2.2.2.2.1, X.2.2.2.2.2.2.2.2.2.2.2.2.2.1, X.2.2.2.2.2.2.2.2.2.2.2.2.2.2.1, X.2.2.2.2.2.2.2.2.2.2.2.2.2.2.2.1, (X.2.2.2.2.2.2.2.2.2.2.2.2.2.2.2.2.1 + X.2.2.2.2.2.2.2.2.2.2.1), X.2.2.2.2.2.2.2.2.2.2.2.2.2.2.2.2.2))
    else (2, (fX3_winGame_0 (X.1, ((X.2.1.1 + 1), X.2.1.2), X.2.2.1, ((X.2.2.2.1.1 + 1), X.2.2.2.1.2), X.2.2.2.2.1, X.2.2.2.2.2.1, X.2.2.2.2.2.2.1, X.2.2.2.2.2.2.2.1, 0, X.2.2.2.2.2.2.2.2.2.1, X.2.2.2.2.2.2.2.2.2.2.1, (X.2.2.2.2.2.2.2.2.2.2.2.1 + 1), X.2.2.2.2.2.2.2.2.2.2.2.2.1, X.2.2.2.2.2.2.2.2.2.2.2.2.2.1, X.2.2.2.2.2.2.2.2.2.2.2.2.2.2.1, X.2.2.2.2.2.2.2.2.2.2.2.2.2.2.2.1, (X.2.2.2.2.2.2.2.2.2.2.2.2.2.2.2.2.1 + X.2.2.2.2.2.2.2.2.2.2.1), X.2.2.2.2.2.2.2.2.2.2.2.2.2.2.2.2.2))))
  else (if X.2.1.1 < X.2.2.2.2.2.2.2.2.2.2.2.2.2.2.1 then (2, (X.1, X.2.1, X.2.2.1, ((X.2.2.2.1.1 + 1), X.2.2.2.1.2), X.2.2.2.2.1, X.2.2.2.2.2.1, X.2.2.2.2.2.2.1, 0, 0, X.2.2.2.2.2.2.2.2.2.1, X.2.2.2.2.2.2.2.2.2.2.1, (X.2.2.2.2.2.2.2.2.2.2.2.1 + 1), X.2.2.2.2.2.2.2.2.2.2.2.2.1, X.2.2.2.2.2.2.2.2.2.2.2.2.2.1, X.2.2.2.2.2.2.2.2.2.2.2.2.2.2.1, X.2.2.2.2.2.2.2.2.2.2.2.2.2.2.2.1, (X.2.2.2.2.2.2.2.2.2.2.2.2.2.2.2.2.1 + X.2.2.2.2.2.2.2.2.2.2.1), X.2.2.2.2.2.2.2.2.2.2.2.2.2.2.2.2.2))
    else (2, (fX3_winGame_0 (X.1, X.2.1, X.2.2.1, ((X.2.2.2.1.1 + 1), X.2.2.2.1.2), X.2.2.2.2.1, X.2.2.2.2.2.1, X.2.2.2.2.2.2.1, 0, 0, X.2.2.2.2.2.2.2.2.2.1, X.2.2.2.2.2.2.2.2.2.2.1, (X.2.2.2.2.2.2.2.2.2.2.2.1 + 1), X.2.2.2.2.2.2.2.2.2.2.2.2.1, X.2.2.2.2.2.2.2.2.2.2.2.2.2.1, X.2.2.2.2.2.2.2.2.2.2.2.2.2.2.1, X.2.2.2.2.2.2.2.2.2.2.2.2.2.2.2.1, (X.2.2.2.2.2.2.2.2.2.2.2.2.2.2.2.2.1 + X.2.2.2.2.2.2.2.2.2.2.1), X.2.2.2.2.2.2.2.2.2.2.2.2.2.2.2.2.2))))
set_option maxHeartbeats 4000000 in
set_option maxRecDepth 100000 in
theorem mX3_win_0 (l : Launch) (D : va_G) (cI cJ : ClassId) (b0 b1 b2 b3 b4 b5 b6 : Nat) (p0 : Int32) (hp0 : p0 = 0) (X : Mo)  : kCi l D cI cJ yX3_win (.code yX3_win cX3_win 2 (some .int)) { frames := 1, cells := 0, slots := 0, locals := 21 } [.ref b0, .int p0] (wM cI b0 b1 b2 b3 b4 b5 b6 X) (fX3_win_0 X).1 (wM cI b0 b1 b2 b3 b4 b5 b6 (fX3_win_0 X).2) := by
  subst hp0
  refine fun sz => k_of (lv := [(0, .ref b0), (1, .int 0)]) (by decide) sz (by exact Nat.le_of_ble_eq_true rfl) rfl ?_
  intro p e s m args below meth c hsz C
  refine k_aload_n C dX3_win_0 0 rfl ?_
  refine k_iconst C 0 (by decide) dX3_win_1 ?_
  refine k_putX3 C [(b0, cM b1 b2 b3 b4 b5 b6 (X.2.2.2.2.2.2.1, X.2.2.2.2.2.2.2.1, 0, X.2.2.2.2.2.2.2.2.2)), (b1, cA9 cI X.1), (b2, cA2 cI X.2.1), (b3, cA2 cI X.2.2.1), (b4, cA2 cI X.2.2.2.1), (b5, cA2 cI X.2.2.2.2.1), (b6, cA9 cI X.2.2.2.2.2.1)] 0 2 rfl rfl (by decide) q572 rfl rfl fdZ rfl rfl (Nat.le_of_ble_eq_true rfl) dX3_win_2 ?_
  refine k_aload_n C dX3_win_5 0 rfl ?_
  refine k_getX3 C 0 8 rfl (by decide) rfl q578 rfl dX3_win_6 ?_
  refine k_iload_n C dX3_win_9 1 rfl ?_
  refine k_dup2 C rfl rfl dX3_win_10 ?_
  refine k_iald C 4 rfl vi2_0 (ar2_l0 _) dX3_win_11 ?_
  refine k_iconst C 1 (by decide) dX3_win_12 ?_
  refine k_iadd C dX3_win_13 ?_
  refine k_iast C [(b0, cM b1 b2 b3 b4 b5 b6 (X.2.2.2.2.2.2.1, X.2.2.2.2.2.2.2.1, 0, X.2.2.2.2.2.2.2.2.2)), (b1, cA9 cI X.1), (b2, cA2 cI X.2.1), (b3, cA2 cI X.2.2.1), (b4, cA2 cI ((X.2.2.2.1.1 + 1), X.2.2.2.1.2)), (b5, cA2 cI X.2.2.2.2.1), (b6, cA9 cI X.2.2.2.2.2.1)] 4 rfl vi2_0 (ar2 ((X.2.2.2.1.1 + 1), X.2.2.2.1.2)) (ar2_s0 _ _) rfl dX3_win_14 ?_
  refine k_aload_n C dX3_win_15 0 rfl ?_
  refine k_dup C rfl dX3_win_16 ?_
  refine k_getX3 C 0 10 rfl (by decide) rfl q580 rfl dX3_win_17 ?_
  refine k_iconst C 1 (by decide) dX3_win_20 ?_
  refine k_iadd C dX3_win_21 ?_
  refine k_putX3 C [(b0, cM b1 b2 b3 b4 b5 b6 (X.2.2.2.2.2.2.1, X.2.2.2.2.2.2.2.1, 0, X.2.2.2.2.2.2.2.2.2.1, X.2.2.2.2.2.2.2.2.2.2.1, (X.2.2.2.2.2.2.2.2.2.2.2.1 + 1), X.2.2.2.2.2.2.2.2.2.2.2.2)), (b1, cA9 cI X.1), (b2, cA2 cI X.2.1), (b3, cA2 cI X.2.2.1), (b4, cA2 cI ((X.2.2.2.1.1 + 1), X.2.2.2.1.2)), (b5, cA2 cI X.2.2.2.2.1), (b6, cA9 cI X.2.2.2.2.2.1)] 0 10 rfl rfl (by decide) q580 rfl rfl fdI rfl rfl (Nat.le_of_ble_eq_true rfl) dX3_win_22 ?_
  refine k_aload_n C dX3_win_25 0 rfl ?_
  refine k_dup C rfl dX3_win_26 ?_
  refine k_getX3 C 0 15 rfl (by decide) rfl q585 rfl dX3_win_27 ?_
  refine k_aload_n C dX3_win_30 0 rfl ?_
  refine k_getX3 C 0 4 rfl (by decide) rfl q574 rfl dX3_win_31 ?_
  refine k_iadd C dX3_win_34 ?_
  refine k_putX3 C [(b0, cM b1 b2 b3 b4 b5 b6 (X.2.2.2.2.2.2.1, X.2.2.2.2.2.2.2.1, 0, X.2.2.2.2.2.2.2.2.2.1, X.2.2.2.2.2.2.2.2.2.2.1, (X.2.2.2.2.2.2.2.2.2.2.2.1 + 1), X.2.2.2.2.2.2.2.2.2.2.2.2.1, X.2.2.2.2.2.2.2.2.2.2.2.2.2.1, X.2.2.2.2.2.2.2.2.2.2.2.2.2.2.1, X.2.2.2.2.2.2.2.2.2.2.2.2.2.2.2.1, (X.2.2.2.2.2.2.2.2.2.2.2.2.2.2.2.2.1 + X.2.2.2.2.2.2.2.2.2.2.1), X.2.2.2.2.2.2.2.2.2.2.2.2.2.2.2.2.2)), (b1, cA9 cI X.1), (b2, cA2 cI X.2.1), (b3, cA2 cI X.2.2.1), (b4, cA2 cI ((X.2.2.2.1.1 + 1), X.2.2.2.1.2)), (b5, cA2 cI X.2.2.2.2.1), (b6, cA9 cI X.2.2.2.2.2.1)] 0 15 rfl rfl (by decide) q585 rfl rfl fdI rfl rfl (Nat.le_of_ble_eq_true rfl) dX3_win_35 ?_
  refine k_iload_n C dX3_win_38 1 rfl ?_
  refine k_aload_n C dX3_win_39 0 rfl ?_
  refine k_getX3 C 0 1 rfl (by decide) rfl q571 rfl dX3_win_40 ?_
  refine k_icmp_ne C 59 (by decide) dX3_win_43 (fun c1 => ?_) (fun c1 => ?_)
  ·
    refine k_aload_n C dX3_win_59 0 rfl ?_
    refine k_iload_n C dX3_win_60 1 rfl ?_
    refine k_putX3 C [(b0, cM b1 b2 b3 b4 b5 b6 (X.2.2.2.2.2.2.1, 0, 0, X.2.2.2.2.2.2.2.2.2.1, X.2.2.2.2.2.2.2.2.2.2.1, (X.2.2.2.2.2.2.2.2.2.2.2.1 + 1), X.2.2.2.2.2.2.2.2.2.2.2.2.1, X.2.2.2.2.2.2.2.2.2.2.2.2.2.1, X.2.2.2.2.2.2.2.2.2.2.2.2.2.2.1, X.2.2.2.2.2.2.2.2.2.2.2.2.2.2.2.1, (X.2.2.2.2.2.2.2.2.2.2.2.2.2.2.2.2.1 + X.2.2.2.2.2.2.2.2.2.2.1), X.2.2.2.2.2.2.2.2.2.2.2.2.2.2.2.2.2)), (b1, cA9 cI X.1), (b2, cA2 cI X.2.1), (b3, cA2 cI X.2.2.1), (b4, cA2 cI ((X.2.2.2.1.1 + 1), X.2.2.2.1.2)), (b5, cA2 cI X.2.2.2.2.1), (b6, cA9 cI X.2.2.2.2.2.1)] 0 1 rfl rfl (by decide) q571 rfl rfl fdI rfl rfl (Nat.le_of_ble_eq_true rfl) dX3_win_61 ?_
    refine k_aload_n C dX3_win_64 0 rfl ?_
    refine k_getX3 C 0 6 rfl (by decide) rfl q576 rfl dX3_win_65 ?_
    refine k_iload_n C dX3_win_68 1 rfl ?_
    refine k_iald C 2 rfl vi2_0 (ar2_l0 _) dX3_win_69 ?_
    refine k_aload_n C dX3_win_70 0 rfl ?_
    refine k_getX3 C 0 13 rfl (by decide) rfl q583 rfl dX3_win_71 ?_
    refine k_icmp_lt C 82 (by decide) dX3_win_74 (fun c2 => ?_) (fun c2 => ?_)
    ·
      refine k_iconst C 2 (by decide) dX3_win_82 ?_
      refine k_iload_n C dX3_win_83 1 rfl ?_
      refine k_iaddL C 2 (by decide) dX3_win_84 ?_
      have hL : fX3_win_0 X = (2, (X.1, X.2.1, X.2.2.1, ((X.2.2.2.1.1 + 1), X.2.2.2.1.2), X.2.2.2.2.1, X.2.2.2.2.2.1, X.2.2.2.2.2.2.1, 0, 0, X.2.2.2.2.2.2.2.2.2.1, X.2.2.2.2.2.2.2.2.2.2.1, (X.2.2.2.2.2.2.2.2.2.2.2.1 + 1), X.2.2.2.2.2.2.2.2.2.2.2.2.1, X.2.2.2.2.2.2.2.2.2.2.2.2.2.1, X.2.2.2.2.2.2.2.2.2.2.2.2.2.2.1, X.2.2.2.2.2.2.2.2.2.2.2.2.2.2.2.1, (X.2.2.2.2.2.2.2.2.2.2.2.2.2.2.2.2.1 + X.2.2.2.2.2.2.2.2.2.2.1), X.2.2.2.2.2.2.2.2.2.2.2.2.2.2.2.2.2)) := by exact (if_neg c1).trans ((if_pos c2).trans rfl)
      exact k_iret C rfl (by rw [hL]) (by rw [hL]) dX3_win_85
    ·
      refine k_aload_n C dX3_win_77 0 rfl ?_
      refine k_iload_n C dX3_win_78 1 rfl ?_
      refine k_callV_v C (mX3_winGame_0 l D cI cJ b0 b1 b2 b3 b4 b5 b6 0 ((by decide)) (X.1, X.2.1, X.2.2.1, ((X.2.2.2.1.1 + 1), X.2.2.2.1.2), X.2.2.2.2.1, X.2.2.2.2.2.1, X.2.2.2.2.2.2.1, 0, 0, X.2.2.2.2.2.2.2.2.2.1, X.2.2.2.2.2.2.2.2.2.2.1, (X.2.2.2.2.2.2.2.2.2.2.2.1 + 1), X.2.2.2.2.2.2.2.2.2.2.2.2.1, X.2.2.2.2.2.2.2.2.2.2.2.2.2.1, X.2.2.2.2.2.2.2.2.2.2.2.2.2.2.1, X.2.2.2.2.2.2.2.2.2.2.2.2.2.2.2.1, (X.2.2.2.2.2.2.2.2.2.2.2.2.2.2.2.2.1 + X.2.2.2.2.2.2.2.2.2.2.1), X.2.2.2.2.2.2.2.2.2.2.2.2.2.2.2.2.2)) (cwV 1 C.2.2.2.2.1 (kGV q703 q705 q45 q61 q706) rfl rfl rfl ⟨rfl, hdX3_winGame⟩ ⟨Nat.le_of_ble_eq_true rfl, Nat.le_of_ble_eq_true rfl⟩) [0, 1, 2, 3, 4, 5, 6] [] [0, 1, 2, 3, 4, 5, 6] [] (wM cI b0 b1 b2 b3 b4 b5 b6 (fX3_winGame_0 (X.1, X.2.1, X.2.2.1, ((X.2.2.2.1.1 + 1), X.2.2.2.1.2), X.2.2.2.2.1, X.2.2.2.2.2.1, X.2.2.2.2.2.2.1, 0, 0, X.2.2.2.2.2.2.2.2.2.1, X.2.2.2.2.2.2.2.2.2.2.1, (X.2.2.2.2.2.2.2.2.2.2.2.1 + 1), X.2.2.2.2.2.2.2.2.2.2.2.2.1, X.2.2.2.2.2.2.2.2.2.2.2.2.2.1, X.2.2.2.2.2.2.2.2.2.2.2.2.2.2.1, X.2.2.2.2.2.2.2.2.2.2.2.2.2.2.2.1, (X.2.2.2.2.2.2.2.2.2.2.2.2.2.2.2.2.1 + X.2.2.2.2.2.2.2.2.2.2.1), X.2.2.2.2.2.2.2.2.2.2.2.2.2.2.2.2.2))) rfl rfl rfl rfl (by decide) [b0, b1, b2, b3, b4, b5, b6] rfl rfl rfl rfl 0 3 rfl rfl rfl (Nat.le_of_ble_eq_true rfl) ⟨Nat.zero_le _, Nat.zero_le _⟩ rfl dX3_win_79 ?_
      generalize ez3 : fX3_winGame_0 (X.1, X.2.1, X.2.2.1, ((X.2.2.2.1.1 + 1), X.2.2.2.1.2), X.2.2.2.2.1, X.2.2.2.2.2.1, X.2.2.2.2.2.2.1, 0, 0, X.2.2.2.2.2.2.2.2.2.1, X.2.2.2.2.2.2.2.2.2.2.1, (X.2.2.2.2.2.2.2.2.2.2.2.1 + 1), X.2.2.2.2.2.2.2.2.2.2.2.2.1, X.2.2.2.2.2.2.2.2.2.2.2.2.2.1, X.2.2.2.2.2.2.2.2.2.2.2.2.2.2.1, X.2.2.2.2.2.2.2.2.2.2.2.2.2.2.2.1, (X.2.2.2.2.2.2.2.2.2.2.2.2.2.2.2.2.1 + X.2.2.2.2.2.2.2.2.2.2.1), X.2.2.2.2.2.2.2.2.2.2.2.2.2.2.2.2.2) = z3
      refine k_iconst C 2 (by decide) dX3_win_82 ?_
      refine k_iload_n C dX3_win_83 1 rfl ?_
      refine k_iaddL C 2 (by decide) dX3_win_84 ?_
      have hL : fX3_win_0 X = (2, z3) := by subst ez3; exact (if_neg c1).trans ((if_neg c2).trans rfl)
      exact k_iret C rfl (by rw [hL]) (by rw [hL]) dX3_win_85
  ·
    refine k_aload_n C dX3_win_46 0 rfl ?_
    refine k_getX3 C 0 6 rfl (by decide) rfl q576 rfl dX3_win_47 ?_
    refine k_iload_n C dX3_win_50 1 rfl ?_
    refine k_dup2 C rfl rfl dX3_win_51 ?_
    refine k_iald C 2 rfl vi2_0 (ar2_l0 _) dX3_win_52 ?_
    refine k_iconst C 1 (by decide) dX3_win_53 ?_
    refine k_iadd C dX3_win_54 ?_
    refine k_iast C [(b0, cM b1 b2 b3 b4 b5 b6 (X.2.2.2.2.2.2.1, X.2.2.2.2.2.2.2.1, 0, X.2.2.2.2.2.2.2.2.2.1, X.2.2.2.2.2.2.2.2.2.2.1, (X.2.2.2.2.2.2.2.2.2.2.2.1 + 1), X.2.2.2.2.2.2.2.2.2.2.2.2.1, X.2.2.2.2.2.2.2.2.2.2.2.2.2.1, X.2.2.2.2.2.2.2.2.2.2.2.2.2.2.1, X.2.2.2.2.2.2.2.2.2.2.2.2.2.2.2.1, (X.2.2.2.2.2.2.2.2.2.2.2.2.2.2.2.2.1 + X.2.2.2.2.2.2.2.2.2.2.1), X.2.2.2.2.2.2.2.2.2.2.2.2.2.2.2.2.2)), (b1, cA9 cI X.1), (b2, cA2 cI ((X.2.1.1 + 1), X.2.1.2)), (b3, cA2 cI X.2.2.1), (b4, cA2 cI ((X.2.2.2.1.1 + 1), X.2.2.2.1.2)), (b5, cA2 cI X.2.2.2.2.1), (b6, cA9 cI X.2.2.2.2.2.1)] 2 rfl vi2_0 (ar2 ((X.2.1.1 + 1), X.2.1.2)) (ar2_s0 _ _) rfl dX3_win_55 ?_
    refine k_goto C 64 (by decide) dX3_win_56 ?_
    refine k_aload_n C dX3_win_64 0 rfl ?_
    refine k_getX3 C 0 6 rfl (by decide) rfl q576 rfl dX3_win_65 ?_
    refine k_iload_n C dX3_win_68 1 rfl ?_
    refine k_iald C 2 rfl vi2_0 (ar2_l0 _) dX3_win_69 ?_
    refine k_aload_n C dX3_win_70 0 rfl ?_
    refine k_getX3 C 0 13 rfl (by decide) rfl q583 rfl dX3_win_71 ?_
    refine k_icmp_lt C 82 (by decide) dX3_win_74 (fun c4 => ?_) (fun c4 => ?_)
    ·
      refine k_iconst C 2 (by decide) dX3_win_82 ?_
      refine k_iload_n C dX3_win_83 1 rfl ?_
      refine k_iaddL C 2 (by decide) dX3_win_84 ?_
      have hL : fX3_win_0 X = (2, (X.1, ((X.2.1.1 + 1), X.2.1.2), X.2.2.1, ((X.2.2.2.1.1 + 1), X.2.2.2.1.2), X.2.2.2.2.1, X.2.2.2.2.2.1, X.2.2.2.2.2.2.1, X.2.2.2.2.2.2.2.1, 0, X.2.2.2.2.2.2.2.2.2.1, X.2.2.2.2.2.2.2.2.2.2.1, (X.2.2.2.2.2.2.2.2.2.2.2.1 + 1), X.2.2.2.2.2.2.2.2.2.2.2.2.1, X.2.2.2.2.2.2.2.2.2.2.2.2.2.1, X.2.2.2.2.2.2.2.2.2.2.2.2.2.2.1, X.2.2.2.2.2.2.2.2.2.2.2.2.2.2.2.1, (X.2.2.2.2.2.2.2.2.2.2.2.2.2.2.2.2.1 + X.2.2.2.2.2.2.2.2.2.2.1), X.2.2.2.2.2.2.2.2.2.2.2.2.2.2.2.2.2)) := by exact (if_pos c1).trans ((if_pos c4).trans rfl)
      exact k_iret C rfl (by rw [hL]) (by rw [hL]) dX3_win_85
    ·
      refine k_aload_n C dX3_win_77 0 rfl ?_
      refine k_iload_n C dX3_win_78 1 rfl ?_
      refine k_callV_v C (mX3_winGame_0 l D cI cJ b0 b1 b2 b3 b4 b5 b6 0 ((by decide)) (X.1, ((X.2.1.1 + 1), X.2.1.2), X.2.2.1, ((X.2.2.2.1.1 + 1), X.2.2.2.1.2), X.2.2.2.2.1, X.2.2.2.2.2.1, X.2.2.2.2.2.2.1, X.2.2.2.2.2.2.2.1, 0, X.2.2.2.2.2.2.2.2.2.1, X.2.2.2.2.2.2.2.2.2.2.1, (X.2.2.2.2.2.2.2.2.2.2.2.1 + 1), X.2.2.2.2.2.2.2.2.2.2.2.2.1, X.2.2.2.2.2.2.2.2.2.2.2.2.2.1, X.2.2.2.2.2.2.2.2.2.2.2.2.2.2.1, X.2.2.2.2.2.2.2.2.2.2.2.2.2.2.2.1, (X.2.2.2.2.2.2.2.2.2.2.2.2.2.2.2.2.1 + X.2.2.2.2.2.2.2.2.2.2.1), X.2.2.2.2.2.2.2.2.2.2.2.2.2.2.2.2.2)) (cwV 1 C.2.2.2.2.1 (kGV q703 q705 q45 q61 q706) rfl rfl rfl ⟨rfl, hdX3_winGame⟩ ⟨Nat.le_of_ble_eq_true rfl, Nat.le_of_ble_eq_true rfl⟩) [0, 1, 2, 3, 4, 5, 6] [] [0, 1, 2, 3, 4, 5, 6] [] (wM cI b0 b1 b2 b3 b4 b5 b6 (fX3_winGame_0 (X.1, ((X.2.1.1 + 1), X.2.1.2), X.2.2.1, ((X.2.2.2.1.1 + 1), X.2.2.2.1.2), X.2.2.2.2.1, X.2.2.2.2.2.1, X.2.2.2.2.2.2.1, X.2.2.2.2.2.2.2.1, 0, X.2.2.2.2.2.2.2.2.2.1, X.2.2.2.2.2.2.2.2.2.2.1, (X.2.2.2.2.2.2.2.2.2.2.2.1 + 1), X.2.2.2.2.2.2.2.2.2.2.2.2.1, X.2.2.2.2.2.2.2.2.2.2.2.2.2.1, X.2.2.2.2.2.2.2.2.2.2.2.2.2.2.1, X.2.2.2.2.2.2.2.2.2.2.2.2.2.2.2.1, (X.2.2.2.2.2.2.2.2.2.2.2.2.2.2.2.2.1 + X.2.2.2.2.2.2.2.2.2.2.1), X.2.2.2.2.2.2.2.2.2.2.2.2.2.2.2.2.2))) rfl rfl rfl rfl (by decide) [b0, b1, b2, b3, b4, b5, b6] rfl rfl rfl rfl 0 3 rfl rfl rfl (Nat.le_of_ble_eq_true rfl) ⟨Nat.zero_le _, Nat.zero_le _⟩ rfl dX3_win_79 ?_
      generalize ez5 : fX3_winGame_0 (X.1, ((X.2.1.1 + 1), X.2.1.2), X.2.2.1, ((X.2.2.2.1.1 + 1), X.2.2.2.1.2), X.2.2.2.2.1, X.2.2.2.2.2.1, X.2.2.2.2.2.2.1, X.2.2.2.2.2.2.2.1, 0, X.2.2.2.2.2.2.2.2.2.1, X.2.2.2.2.2.2.2.2.2.2.1, (X.2.2.2.2.2.2.2.2.2.2.2.1 + 1), X.2.2.2.2.2.2.2.2.2.2.2.2.1, X.2.2.2.2.2.2.2.2.2.2.2.2.2.1, X.2.2.2.2.2.2.2.2.2.2.2.2.2.2.1, X.2.2.2.2.2.2.2.2.2.2.2.2.2.2.2.1, (X.2.2.2.2.2.2.2.2.2.2.2.2.2.2.2.2.1 + X.2.2.2.2.2.2.2.2.2.2.1), X.2.2.2.2.2.2.2.2.2.2.2.2.2.2.2.2.2) = z5
      refine k_iconst C 2 (by decide) dX3_win_82 ?_
      refine k_iload_n C dX3_win_83 1 rfl ?_
      refine k_iaddL C 2 (by decide) dX3_win_84 ?_
      have hL : fX3_win_0 X = (2, z5) := by subst ez5; exact (if_pos c1).trans ((if_neg c4).trans rfl)
      exact k_iret C rfl (by rw [hL]) (by rw [hL]) dX3_win_85

noncomputable def fX3_win_1 (X : Mo) : Int32 × Mo :=
  if 1 = X.2.2.2.2.2.2.2.1 then (if (X.2.1.2 + 1) < X.2.2.2.2.2.2.2.2.2.2.2.2.2.2.1 then (3, (X.1, (X.2.1.1, (X.2.1.2 + 1)), X.2.2.1, (X.2.2.2.1.1, (X.2.2.2.1.2 + 1)), X.2.2.2.2.1, X.2.2.2.2.2.1, X.2.2.2.2.2.2.1, X.2.2.2.2.2.2.2.1, 0, X.2.2.2.2.2.2.2.2.2.1, X.2.2.2.2.2.2.2.2.2.2.1, (X.2.2.2.2.2.2.2.2.2.2.2.1 + 1), X.2.2.2.2.2.2.2.2.2.2.2.2.1, X.2.2.2.2.2.2.2.2.2.2.2.2.2.1, X.2.2.2.2.2.2.2.2.2.2.2.2.2.2.1, X.2.2.2.2.2.2.2.2.2.2.2.2.2.2.2.1, (X.2.2.2.2.2.2.2.2.2.2.2.2.2.2.2.2.1 + X.2.2.2.2.2.2.2.2.2.2.1), X.2.2.2.2.2.2.2.2.2.2.2.2.2.2.2.2.2))
    else (3, (fX3_winGame_1 (X.1, (X.2.1.1, (X.2.1.2 + 1)), X.2.2.1, (X.2.2.2.1.1, (X.2.2.2.1.2 + 1)), X.2.2.2.2.1, X.2.2.2.2.2.1, X.2.2.2.2.2.2.1, X.2.2.2.2.2.2.2.1, 0, X.2.2.2.2.2.2.2.2.2.1, X.2.2.2.2.2.2.2.2.2.2.1, (X.2.2.2.2.2.2.2.2.2.2.2.1 + 1), X.2.2.2.2.2.2.2.2.2.2.2.2.1, X.2.2.2.2.2.2.2.2.2.2.2.2.2.1, X.2.2.2.2.2.2.2.2.2.2.2.2.2.2.1, X.2.2.2.2.2.2.2.2.2.2.2.2.2.2.2.1, (X.2.2.2.2.2.2.2.2.2.2.2.2.2.2.2.2.1 + X.2.2.2.2.2.2.2.2.2.2.1), X.2.2.2.2.2.2.2.2.2.2.2.2.2.2.2.2.2))))
  else (if X.2.1.2 < X.2.2.2.2.2.2.2.2.2.2.2.2.2.2.1 then (3, (X.1, X.2.1, X.2.2.1, (X.2.2.2.1.1, (X.2.2.2.1.2 + 1)), X.2.2.2.2.1, X.2.2.2.2.2.1, X.2.2.2.2.2.2.1, 1, 0, X.2.2.2.2.2.2.2.2.2.1, X.2.2.2.2.2.2.2.2.2.2.1, (X.2.2.2.2.2.2.2.2.2.2.2.1 + 1), X.2.2.2.2.2.2.2.2.2.2.2.2.1, X.2.2.2.2.2.2.2.2.2.2.2.2.2.1, X.2.2.2.2.2.2.2.2.2.2.2.2.2.2.1, X.2.2.2.2.2.2.2.2.2.2.2.2.2.2.2.1, (X.2.2.2.2.2.2.2.2.2.2.2.2.2.2.2.2.1 + X.2.2.2.2.2.2.2.2.2.2.1), X.2.2.2.2.2.2.2.2.2.2.2.2.2.2.2.2.2))
    else (3, (fX3_winGame_1 (X.1, X.2.1, X.2.2.1, (X.2.2.2.1.1, (X.2.2.2.1.2 + 1)), X.2.2.2.2.1, X.2.2.2.2.2.1, X.2.2.2.2.2.2.1, 1, 0, X.2.2.2.2.2.2.2.2.2.1, X.2.2.2.2.2.2.2.2.2.2.1, (X.2.2.2.2.2.2.2.2.2.2.2.1 + 1), X.2.2.2.2.2.2.2.2.2.2.2.2.1, X.2.2.2.2.2.2.2.2.2.2.2.2.2.1, X.2.2.2.2.2.2.2.2.2.2.2.2.2.2.1, X.2.2.2.2.2.2.2.2.2.2.2.2.2.2.2.1, (X.2.2.2.2.2.2.2.2.2.2.2.2.2.2.2.2.1 + X.2.2.2.2.2.2.2.2.2.2.1), X.2.2.2.2.2.2.2.2.2.2.2.2.2.2.2.2.2))))
set_option maxHeartbeats 4000000 in
set_option maxRecDepth 100000 in
theorem mX3_win_1 (l : Launch) (D : va_G) (cI cJ : ClassId) (b0 b1 b2 b3 b4 b5 b6 : Nat) (p0 : Int32) (hp0 : p0 = 1) (X : Mo)  : kCi l D cI cJ yX3_win (.code yX3_win cX3_win 2 (some .int)) { frames := 1, cells := 0, slots := 0, locals := 21 } [.ref b0, .int p0] (wM cI b0 b1 b2 b3 b4 b5 b6 X) (fX3_win_1 X).1 (wM cI b0 b1 b2 b3 b4 b5 b6 (fX3_win_1 X).2) := by
  subst hp0
  refine fun sz => k_of (lv := [(0, .ref b0), (1, .int 1)]) (by decide) sz (by exact Nat.le_of_ble_eq_true rfl) rfl ?_
  intro p e s m args below meth c hsz C
  refine k_aload_n C dX3_win_0 0 rfl ?_
  refine k_iconst C 0 (by decide) dX3_win_1 ?_
  refine k_putX3 C [(b0, cM b1 b2 b3 b4 b5 b6 (X.2.2.2.2.2.2.1, X.2.2.2.2.2.2.2.1, 0, X.2.2.2.2.2.2.2.2.2)), (b1, cA9 cI X.1), (b2, cA2 cI X.2.1), (b3, cA2 cI X.2.2.1), (b4, cA2 cI X.2.2.2.1), (b5, cA2 cI X.2.2.2.2.1), (b6, cA9 cI X.2.2.2.2.2.1)] 0 2 rfl rfl (by decide) q572 rfl rfl fdZ rfl rfl (Nat.le_of_ble_eq_true rfl) dX3_win_2 ?_
  refine k_aload_n C dX3_win_5 0 rfl ?_
  refine k_getX3 C 0 8 rfl (by decide) rfl q578 rfl dX3_win_6 ?_
  refine k_iload_n C dX3_win_9 1 rfl ?_
  refine k_dup2 C rfl rfl dX3_win_10 ?_
  refine k_iald C 4 rfl vi2_1 (ar2_l1 _) dX3_win_11 ?_
  refine k_iconst C 1 (by decide) dX3_win_12 ?_
  refine k_iadd C dX3_win_13 ?_
  refine k_iast C [(b0, cM b1 b2 b3 b4 b5 b6 (X.2.2.2.2.2.2.1, X.2.2.2.2.2.2.2.1, 0, X.2.2.2.2.2.2.2.2.2)), (b1, cA9 cI X.1), (b2, cA2 cI X.2.1), (b3, cA2 cI X.2.2.1), (b4, cA2 cI (X.2.2.2.1.1, (X.2.2.2.1.2 + 1))), (b5, cA2 cI X.2.2.2.2.1), (b6, cA9 cI X.2.2.2.2.2.1)] 4 rfl vi2_1 (ar2 (X.2.2.2.1.1, (X.2.2.2.1.2 + 1))) (ar2_s1 _ _) rfl dX3_win_14 ?_
  refine k_aload_n C dX3_win_15 0 rfl ?_
  refine k_dup C rfl dX3_win_16 ?_
  refine k_getX3 C 0 10 rfl (by decide) rfl q580 rfl dX3_win_17 ?_
  refine k_iconst C 1 (by decide) dX3_win_20 ?_
  refine k_iadd C dX3_win_21 ?_
  refine k_putX3 C [(b0, cM b1 b2 b3 b4 b5 b6 (X.2.2.2.2.2.2.1, X.2.2.2.2.2.2.2.1, 0, X.2.2.2.2.2.2.2.2.2.1, X.2.2.2.2.2.2.2.2.2.2.1, (X.2.2.2.2.2.2.2.2.2.2.2.1 + 1), X.2.2.2.2.2.2.2.2.2.2.2.2)), (b1, cA9 cI X.1), (b2, cA2 cI X.2.1), (b3, cA2 cI X.2.2.1), (b4, cA2 cI (X.2.2.2.1.1, (X.2.2.2.1.2 + 1))), (b5, cA2 cI X.2.2.2.2.1), (b6, cA9 cI X.2.2.2.2.2.1)] 0 10 rfl rfl (by decide) q580 rfl rfl fdI rfl rfl (Nat.le_of_ble_eq_true rfl) dX3_win_22 ?_
  refine k_aload_n C dX3_win_25 0 rfl ?_
  refine k_dup C rfl dX3_win_26 ?_
  refine k_getX3 C 0 15 rfl (by decide) rfl q585 rfl dX3_win_27 ?_
  refine k_aload_n C dX3_win_30 0 rfl ?_
  refine k_getX3 C 0 4 rfl (by decide) rfl q574 rfl dX3_win_31 ?_
  refine k_iadd C dX3_win_34 ?_
  refine k_putX3 C [(b0, cM b1 b2 b3 b4 b5 b6 (X.2.2.2.2.2.2.1, X.2.2.2.2.2.2.2.1, 0, X.2.2.2.2.2.2.2.2.2.1, X.2.2.2.2.2.2.2.2.2.2.1, (X.2.2.2.2.2.2.2.2.2.2.2.1 + 1), X.2.2.2.2.2.2.2.2.2.2.2.2.1, X.2.2.2.2.2.2.2.2.2.2.2.2.2.1, X.2.2.2.2.2.2.2.2.2.2.2.2.2.2.1, X.2.2.2.2.2.2.2.2.2.2.2.2.2.2.2.1, (X.2.2.2.2.2.2.2.2.2.2.2.2.2.2.2.2.1 + X.2.2.2.2.2.2.2.2.2.2.1), X.2.2.2.2.2.2.2.2.2.2.2.2.2.2.2.2.2)), (b1, cA9 cI X.1), (b2, cA2 cI X.2.1), (b3, cA2 cI X.2.2.1), (b4, cA2 cI (X.2.2.2.1.1, (X.2.2.2.1.2 + 1))), (b5, cA2 cI X.2.2.2.2.1), (b6, cA9 cI X.2.2.2.2.2.1)] 0 15 rfl rfl (by decide) q585 rfl rfl fdI rfl rfl (Nat.le_of_ble_eq_true rfl) dX3_win_35 ?_
  refine k_iload_n C dX3_win_38 1 rfl ?_
  refine k_aload_n C dX3_win_39 0 rfl ?_
  refine k_getX3 C 0 1 rfl (by decide) rfl q571 rfl dX3_win_40 ?_
  refine k_icmp_ne C 59 (by decide) dX3_win_43 (fun c1 => ?_) (fun c1 => ?_)
  ·
    refine k_aload_n C dX3_win_59 0 rfl ?_
    refine k_iload_n C dX3_win_60 1 rfl ?_
    refine k_putX3 C [(b0, cM b1 b2 b3 b4 b5 b6 (X.2.2.2.2.2.2.1, 1, 0, X.2.2.2.2.2.2.2.2.2.1, X.2.2.2.2.2.2.2.2.2.2.1, (X.2.2.2.2.2.2.2.2.2.2.2.1 + 1), X.2.2.2.2.2.2.2.2.2.2.2.2.1, X.2.2.2.2.2.2.2.2.2.2.2.2.2.1, X.2.2.2.2.2.2.2.2.2.2.2.2.2.2.1, X.2.2.2.2.2.2.2.2.2.2.2.2.2.2.2.1, (X.2.2.2.2.2.2.2.2.2.2.2.2.2.2.2.2.1 + X.2.2.2.2.2.2.2.2.2.2.1), X.2.2.2.2.2.2.2.2.2.2.2.2.2.2.2.2.2)), (b1, cA9 cI X.1), (b2, cA2 cI X.2.1), (b3, cA2 cI X.2.2.1), (b4, cA2 cI (X.2.2.2.1.1, (X.2.2.2.1.2 + 1))), (b5, cA2 cI X.2.2.2.2.1), (b6, cA9 cI X.2.2.2.2.2.1)] 0 1 rfl rfl (by decide) q571 rfl rfl fdI rfl rfl (Nat.le_of_ble_eq_true rfl) dX3_win_61 ?_
    refine k_aload_n C dX3_win_64 0 rfl ?_
    refine k_getX3 C 0 6 rfl (by decide) rfl q576 rfl dX3_win_65 ?_
    refine k_iload_n C dX3_win_68 1 rfl ?_
    refine k_iald C 2 rfl vi2_1 (ar2_l1 _) dX3_win_69 ?_
    refine k_aload_n C dX3_win_70 0 rfl ?_
    refine k_getX3 C 0 13 rfl (by decide) rfl q583 rfl dX3_win_71 ?_
    refine k_icmp_lt C 82 (by decide) dX3_win_74 (fun c2 => ?_) (fun c2 => ?_)
    ·
      refine k_iconst C 2 (by decide) dX3_win_82 ?_
      refine k_iload_n C dX3_win_83 1 rfl ?_
      refine k_iaddL C 3 (by decide) dX3_win_84 ?_
      have hL : fX3_win_1 X = (3, (X.1, X.2.1, X.2.2.1, (X.2.2.2.1.1, (X.2.2.2.1.2 + 1)), X.2.2.2.2.1, X.2.2.2.2.2.1, X.2.2.2.2.2.2.1, 1, 0, X.2.2.2.2.2.2.2.2.2.1, X.2.2.2.2.2.2.2.2.2.2.1, (X.2.2.2.2.2.2.2.2.2.2.2.1 + 1), X.2.2.2.2.2.2.2.2.2.2.2.2.1, X.2.2.2.2.2.2.2.2.2.2.2.2.2.1, X.2.2.2.2.2.2.2.2.2.2.2.2.2.2.1, X.2.2.2.2.2.2.2.2.2.2.2.2.2.2.2.1, (X.2.2.2.2.2.2.2.2.2.2.2.2.2.2.2.2.1 + X.2.2.2.2.2.2.2.2.2.2.1), X.2.2.2.2.2.2.2.2.2.2.2.2.2.2.2.2.2)) := by exact (if_neg c1).trans ((if_pos c2).trans rfl)
      exact k_iret C rfl (by rw [hL]) (by rw [hL]) dX3_win_85
    ·
      refine k_aload_n C dX3_win_77 0 rfl ?_
      refine k_iload_n C dX3_win_78 1 rfl ?_
      refine k_callV_v C (mX3_winGame_1 l D cI cJ b0 b1 b2 b3 b4 b5 b6 1 ((by decide)) (X.1, X.2.1, X.2.2.1, (X.2.2.2.1.1, (X.2.2.2.1.2 + 1)), X.2.2.2.2.1, X.2.2.2.2.2.1, X.2.2.2.2.2.2.1, 1, 0, X.2.2.2.2.2.2.2.2.2.1, X.2.2.2.2.2.2.2.2.2.2.1, (X.2.2.2.2.2.2.2.2.2.2.2.1 + 1), X.2.2.2.2.2.2.2.2.2.2.2.2.1, X.2.2.2.2.2.2.2.2.2.2.2.2.2.1, X.2.2.2.2.2.2.2.2.2.2.2.2.2.2.1, X.2.2.2.2.2.2.2.2.2.2.2.2.2.2.2.1, (X.2.2.2.2.2.2.2.2.2.2.2.2.2.2.2.2.1 + X.2.2.2.2.2.2.2.2.2.2.1), X.2.2.2.2.2.2.2.2.2.2.2.2.2.2.2.2.2)) (cwV 1 C.2.2.2.2.1 (kGV q703 q705 q45 q61 q706) rfl rfl rfl ⟨rfl, hdX3_winGame⟩ ⟨Nat.le_of_ble_eq_true rfl, Nat.le_of_ble_eq_true rfl⟩) [0, 1, 2, 3, 4, 5, 6] [] [0, 1, 2, 3, 4, 5, 6] [] (wM cI b0 b1 b2 b3 b4 b5 b6 (fX3_winGame_1 (X.1, X.2.1, X.2.2.1, (X.2.2.2.1.1, (X.2.2.2.1.2 + 1)), X.2.2.2.2.1, X.2.2.2.2.2.1, X.2.2.2.2.2.2.1, 1, 0, X.2.2.2.2.2.2.2.2.2.1, X.2.2.2.2.2.2.2.2.2.2.1, (X.2.2.2.2.2.2.2.2.2.2.2.1 + 1), X.2.2.2.2.2.2.2.2.2.2.2.2.1, X.2.2.2.2.2.2.2.2.2.2.2.2.2.1, X.2.2.2.2.2.2.2.2.2.2.2.2.2.2.1, X.2.2.2.2.2.2.2.2.2.2.2.2.2.2.2.1, (X.2.2.2.2.2.2.2.2.2.2.2.2.2.2.2.2.1 + X.2.2.2.2.2.2.2.2.2.2.1), X.2.2.2.2.2.2.2.2.2.2.2.2.2.2.2.2.2))) rfl rfl rfl rfl (by decide) [b0, b1, b2, b3, b4, b5, b6] rfl rfl rfl rfl 0 3 rfl rfl rfl (Nat.le_of_ble_eq_true rfl) ⟨Nat.zero_le _, Nat.zero_le _⟩ rfl dX3_win_79 ?_
      generalize ez3 : fX3_winGame_1 (X.1, X.2.1, X.2.2.1, (X.2.2.2.1.1, (X.2.2.2.1.2 + 1)), X.2.2.2.2.1, X.2.2.2.2.2.1, X.2.2.2.2.2.2.1, 1, 0, X.2.2.2.2.2.2.2.2.2.1, X.2.2.2.2.2.2.2.2.2.2.1, (X.2.2.2.2.2.2.2.2.2.2.2.1 + 1), X.2.2.2.2.2.2.2.2.2.2.2.2.1, X.2.2.2.2.2.2.2.2.2.2.2.2.2.1, X.2.2.2.2.2.2.2.2.2.2.2.2.2.2.1, X.2.2.2.2.2.2.2.2.2.2.2.2.2.2.2.1, (X.2.2.2.2.2.2.2.2.2.2.2.2.2.2.2.2.1 + X.2.2.2.2.2.2.2.2.2.2.1), X.2.2.2.2.2.2.2.2.2.2.2.2.2.2.2.2.2) = z3
      refine k_iconst C 2 (by decide) dX3_win_82 ?_
      refine k_iload_n C dX3_win_83 1 rfl ?_
      refine k_iaddL C 3 (by decide) dX3_win_84 ?_
      have hL : fX3_win_1 X = (3, z3) := by subst ez3; exact (if_neg c1).trans ((if_neg c2).trans rfl)
      exact k_iret C rfl (by rw [hL]) (by rw [hL]) dX3_win_85
  ·
    refine k_aload_n C dX3_win_46 0 rfl ?_
    refine k_getX3 C 0 6 rfl (by decide) rfl q576 rfl dX3_win_47 ?_
    refine k_iload_n C dX3_win_50 1 rfl ?_
    refine k_dup2 C rfl rfl dX3_win_51 ?_
    refine k_iald C 2 rfl vi2_1 (ar2_l1 _) dX3_win_52 ?_
    refine k_iconst C 1 (by decide) dX3_win_53 ?_
    refine k_iadd C dX3_win_54 ?_
    refine k_iast C [(b0, cM b1 b2 b3 b4 b5 b6 (X.2.2.2.2.2.2.1, X.2.2.2.2.2.2.2.1, 0, X.2.2.2.2.2.2.2.2.2.1, X.2.2.2.2.2.2.2.2.2.2.1, (X.2.2.2.2.2.2.2.2.2.2.2.1 + 1), X.2.2.2.2.2.2.2.2.2.2.2.2.1, X.2.2.2.2.2.2.2.2.2.2.2.2.2.1, X.2.2.2.2.2.2.2.2.2.2.2.2.2.2.1, X.2.2.2.2.2.2.2.2.2.2.2.2.2.2.2.1, (X.2.2.2.2.2.2.2.2.2.2.2.2.2.2.2.2.1 + X.2.2.2.2.2.2.2.2.2.2.1), X.2.2.2.2.2.2.2.2.2.2.2.2.2.2.2.2.2)), (b1, cA9 cI X.1), (b2, cA2 cI (X.2.1.1, (X.2.1.2 + 1))), (b3, cA2 cI X.2.2.1), (b4, cA2 cI (X.2.2.2.1.1, (X.2.2.2.1.2 + 1))), (b5, cA2 cI X.2.2.2.2.1), (b6, cA9 cI X.2.2.2.2.2.1)] 2 rfl vi2_1 (ar2 (X.2.1.1, (X.2.1.2 + 1))) (ar2_s1 _ _) rfl dX3_win_55 ?_
    refine k_goto C 64 (by decide) dX3_win_56 ?_
    refine k_aload_n C dX3_win_64 0 rfl ?_
    refine k_getX3 C 0 6 rfl (by decide) rfl q576 rfl dX3_win_65 ?_
    refine k_iload_n C dX3_win_68 1 rfl ?_
    refine k_iald C 2 rfl vi2_1 (ar2_l1 _) dX3_win_69 ?_
    refine k_aload_n C dX3_win_70 0 rfl ?_
    refine k_getX3 C 0 13 rfl (by decide) rfl q583 rfl dX3_win_71 ?_
    refine k_icmp_lt C 82 (by decide) dX3_win_74 (fun c4 => ?_) (fun c4 => ?_)
    ·
      refine k_iconst C 2 (by decide) dX3_win_82 ?_
      refine k_iload_n C dX3_win_83 1 rfl ?_
      refine k_iaddL C 3 (by decide) dX3_win_84 ?_
      have hL : fX3_win_1 X = (3, (X.1, (X.2.1.1, (X.2.1.2 + 1)), X.2.2.1, (X.2.2.2.1.1, (X.2.2.2.1.2 + 1)), X.2.2.2.2.1, X.2.2.2.2.2.1, X.2.2.2.2.2.2.1, X.2.2.2.2.2.2.2.1, 0, X.2.2.2.2.2.2.2.2.2.1, X.2.2.2.2.2.2.2.2.2.2.1, (X.2.2.2.2.2.2.2.2.2.2.2.1 + 1), X.2.2.2.2.2.2.2.2.2.2.2.2.1, X.2.2.2.2.2.2.2.2.2.2.2.2.2.1, X.2.2.2.2.2.2.2.2.2.2.2.2.2.2.1, X.2.2.2.2.2.2.2.2.2.2.2.2.2.2.2.1, (X.2.2.2.2.2.2.2.2.2.2.2.2.2.2.2.2.1 + X.2.2.2.2.2.2.2.2.2.2.1), X.2.2.2.2.2.2.2.2.2.2.2.2.2.2.2.2.2)) := by exact (if_pos c1).trans ((if_pos c4).trans rfl)
      exact k_iret C rfl (by rw [hL]) (by rw [hL]) dX3_win_85
    ·
      refine k_aload_n C dX3_win_77 0 rfl ?_
      refine k_iload_n C dX3_win_78 1 rfl ?_
      refine k_callV_v C (mX3_winGame_1 l D cI cJ b0 b1 b2 b3 b4 b5 b6 1 ((by decide)) (X.1, (X.2.1.1, (X.2.1.2 + 1)), X.2.2.1, (X.2.2.2.1.1, (X.2.2.2.1.2 + 1)), X.2.2.2.2.1, X.2.2.2.2.2.1, X.2.2.2.2.2.2.1, X.2.2.2.2.2.2.2.1, 0, X.2.2.2.2.2.2.2.2.2.1, X.2.2.2.2.2.2.2.2.2.2.1, (X.2.2.2.2.2.2.2.2.2.2.2.1 + 1), X.2.2.2.2.2.2.2.2.2.2.2.2.1, X.2.2.2.2.2.2.2.2.2.2.2.2.2.1, X.2.2.2.2.2.2.2.2.2.2.2.2.2.2.1, X.2.2.2.2.2.2.2.2.2.2.2.2.2.2.2.1, (X.2.2.2.2.2.2.2.2.2.2.2.2.2.2.2.2.1 + X.2.2.2.2.2.2.2.2.2.2.1), X.2.2.2.2.2.2.2.2.2.2.2.2.2.2.2.2.2)) (cwV 1 C.2.2.2.2.1 (kGV q703 q705 q45 q61 q706) rfl rfl rfl ⟨rfl, hdX3_winGame⟩ ⟨Nat.le_of_ble_eq_true rfl, Nat.le_of_ble_eq_true rfl⟩) [0, 1, 2, 3, 4, 5, 6] [] [0, 1, 2, 3, 4, 5, 6] [] (wM cI b0 b1 b2 b3 b4 b5 b6 (fX3_winGame_1 (X.1, (X.2.1.1, (X.2.1.2 + 1)), X.2.2.1, (X.2.2.2.1.1, (X.2.2.2.1.2 + 1)), X.2.2.2.2.1, X.2.2.2.2.2.1, X.2.2.2.2.2.2.1, X.2.2.2.2.2.2.2.1, 0, X.2.2.2.2.2.2.2.2.2.1, X.2.2.2.2.2.2.2.2.2.2.1, (X.2.2.2.2.2.2.2.2.2.2.2.1 + 1), X.2.2.2.2.2.2.2.2.2.2.2.2.1, X.2.2.2.2.2.2.2.2.2.2.2.2.2.1, X.2.2.2.2.2.2.2.2.2.2.2.2.2.2.1, X.2.2.2.2.2.2.2.2.2.2.2.2.2.2.2.1, (X.2.2.2.2.2.2.2.2.2.2.2.2.2.2.2.2.1 + X.2.2.2.2.2.2.2.2.2.2.1), X.2.2.2.2.2.2.2.2.2.2.2.2.2.2.2.2.2))) rfl rfl rfl rfl (by decide) [b0, b1, b2, b3, b4, b5, b6] rfl rfl rfl rfl 0 3 rfl rfl rfl (Nat.le_of_ble_eq_true rfl) ⟨Nat.zero_le _, Nat.zero_le _⟩ rfl dX3_win_79 ?_
      generalize ez5 : fX3_winGame_1 (X.1, (X.2.1.1, (X.2.1.2 + 1)), X.2.2.1, (X.2.2.2.1.1, (X.2.2.2.1.2 + 1)), X.2.2.2.2.1, X.2.2.2.2.2.1, X.2.2.2.2.2.2.1, X.2.2.2.2.2.2.2.1, 0, X.2.2.2.2.2.2.2.2.2.1, X.2.2.2.2.2.2.2.2.2.2.1, (X.2.2.2.2.2.2.2.2.2.2.2.1 + 1), X.2.2.2.2.2.2.2.2.2.2.2.2.1, X.2.2.2.2.2.2.2.2.2.2.2.2.2.1, X.2.2.2.2.2.2.2.2.2.2.2.2.2.2.1, X.2.2.2.2.2.2.2.2.2.2.2.2.2.2.2.1, (X.2.2.2.2.2.2.2.2.2.2.2.2.2.2.2.2.1 + X.2.2.2.2.2.2.2.2.2.2.1), X.2.2.2.2.2.2.2.2.2.2.2.2.2.2.2.2.2) = z5
      refine k_iconst C 2 (by decide) dX3_win_82 ?_
      refine k_iload_n C dX3_win_83 1 rfl ?_
      refine k_iaddL C 3 (by decide) dX3_win_84 ?_
      have hL : fX3_win_1 X = (3, z5) := by subst ez5; exact (if_pos c1).trans ((if_neg c4).trans rfl)
      exact k_iret C rfl (by rw [hL]) (by rw [hL]) dX3_win_85

theorem hdX3_endByLet : yX3_endByLet.cls ≠ "java/lang/invoke/MethodHandle" ∧ yX3_endByLet.cls ≠ "java/lang/invoke/VarHandle" ∧ (parseMethodDescriptor yX3_endByLet.desc).map (fun d => d.parameters.length) = some 0 := by decide +kernel
noncomputable def fX3_endByLet (X : Mo) : Mo :=
  (X.1, X.2.1, X.2.2.1, X.2.2.2.1, X.2.2.2.2.1, X.2.2.2.2.2.1, X.2.2.2.2.2.2.1, X.2.2.2.2.2.2.2.1, 0, X.2.2.2.2.2.2.2.2.2.1, X.2.2.2.2.2.2.2.2.2.2.1, X.2.2.2.2.2.2.2.2.2.2.2.1, (X.2.2.2.2.2.2.2.2.2.2.2.2.1 + 1), X.2.2.2.2.2.2.2.2.2.2.2.2.2)
set_option maxHeartbeats 4000000 in
set_option maxRecDepth 100000 in
theorem mX3_endByLet (l : Launch) (D : va_G) (cI cJ : ClassId) (b0 b1 b2 b3 b4 b5 b6 : Nat) (X : Mo)  : kCv l D cI cJ yX3_endByLet (.code yX3_endByLet cX3_endByLet 1 none) { frames := 0, cells := 0, slots := 0, locals := 0 } [.ref b0] (wM cI b0 b1 b2 b3 b4 b5 b6 X) (wM cI b0 b1 b2 b3 b4 b5 b6 (fX3_endByLet X)) := by
  refine fun sz => k_of (lv := [(0, .ref b0)]) (by decide) sz (by exact Nat.le_of_ble_eq_true rfl) rfl ?_
  intro p e s m args below meth c hsz C
  refine k_aload_n C dX3_endByLet_0 0 rfl ?_
  refine k_iconst C 0 (by decide) dX3_endByLet_1 ?_
  refine k_putX3 C [(b0, cM b1 b2 b3 b4 b5 b6 (X.2.2.2.2.2.2.1, X.2.2.2.2.2.2.2.1, 0, X.2.2.2.2.2.2.2.2.2)), (b1, cA9 cI X.1), (b2, cA2 cI X.2.1), (b3, cA2 cI X.2.2.1), (b4, cA2 cI X.2.2.2.1), (b5, cA2 cI X.2.2.2.2.1), (b6, cA9 cI X.2.2.2.2.2.1)] 0 2 rfl rfl (by decide) q572 rfl rfl fdZ rfl rfl (Nat.le_of_ble_eq_true rfl) dX3_endByLet_2 ?_
  refine k_aload_n C dX3_endByLet_5 0 rfl ?_
  refine k_dup C rfl dX3_endByLet_6 ?_
  refine k_getX3 C 0 11 rfl (by decide) rfl q581 rfl dX3_endByLet_7 ?_
  refine k_iconst C 1 (by decide) dX3_endByLet_10 ?_
  refine k_iadd C dX3_endByLet_11 ?_
  refine k_putX3 C [(b0, cM b1 b2 b3 b4 b5 b6 (X.2.2.2.2.2.2.1, X.2.2.2.2.2.2.2.1, 0, X.2.2.2.2.2.2.2.2.2.1, X.2.2.2.2.2.2.2.2.2.2.1, X.2.2.2.2.2.2.2.2.2.2.2.1, (X.2.2.2.2.2.2.2.2.2.2.2.2.1 + 1), X.2.2.2.2.2.2.2.2.2.2.2.2.2)), (b1, cA9 cI X.1), (b2, cA2 cI X.2.1), (b3, cA2 cI X.2.2.1), (b4, cA2 cI X.2.2.2.1), (b5, cA2 cI X.2.2.2.2.1), (b6, cA9 cI X.2.2.2.2.2.1)] 0 11 rfl rfl (by decide) q581 rfl rfl fdI rfl rfl (Nat.le_of_ble_eq_true rfl) dX3_endByLet_12 ?_
  have hL : fX3_endByLet X = (X.1, X.2.1, X.2.2.1, X.2.2.2.1, X.2.2.2.2.1, X.2.2.2.2.2.1, X.2.2.2.2.2.2.1, X.2.2.2.2.2.2.2.1, 0, X.2.2.2.2.2.2.2.2.2.1, X.2.2.2.2.2.2.2.2.2.2.1, X.2.2.2.2.2.2.2.2.2.2.2.1, (X.2.2.2.2.2.2.2.2.2.2.2.2.1 + 1), X.2.2.2.2.2.2.2.2.2.2.2.2.2) := by exact rfl
  exact k_vret C rfl (by rw [hL]) dX3_endByLet_15

theorem hdX3_canSet : yX3_canSet.cls ≠ "java/lang/invoke/MethodHandle" ∧ yX3_canSet.cls ≠ "java/lang/invoke/VarHandle" ∧ (parseMethodDescriptor yX3_canSet.desc).map (fun d => d.parameters.length) = some 0 := by decide +kernel
noncomputable def fX3_canSet (X : Mo) : Int32 :=
  if X.2.2.2.2.2.2.2.2.1 = 0 then (if X.2.2.2.2.2.2.2.2.2.2.2.2.2.2.2.1 = 0 then (if X.2.1.1 = X.2.1.2 then (if (fX3_isIn X.2.1.1 10 11) = 0 then 0
        else (if (fX3_winner X) = (-1) then 1
          else 0))
      else 0)
    else 0)
  else 0
set_option maxHeartbeats 4000000 in
set_option maxRecDepth 100000 in
theorem mX3_canSet (l : Launch) (D : va_G) (cI cJ : ClassId) (b0 b1 b2 b3 b4 b5 b6 : Nat) (X : Mo)  : kCi l D cI cJ yX3_canSet (.code yX3_canSet cX3_canSet 1 (some .boolean)) { frames := 1, cells := 0, slots := 0, locals := 22 } [.ref b0] (wM cI b0 b1 b2 b3 b4 b5 b6 X) (fX3_canSet X) (wM cI b0 b1 b2 b3 b4 b5 b6 X) := by
  refine fun sz => k_of (lv := [(0, .ref b0)]) (by decide) sz (by exact Nat.le_of_ble_eq_true rfl) rfl ?_
  intro p e s m args below meth c hsz C
  refine k_aload_n C dX3_canSet_0 0 rfl ?_
  refine k_getX3 C 0 2 rfl (by decide) rfl q572 rfl dX3_canSet_1 ?_
  refine k_if_ne C 57 (by decide) dX3_canSet_4 (fun c1 => ?_) (fun c1 => ?_)
  ·
    refine k_iconst C 0 (by decide) dX3_canSet_57 ?_
    have hL : fX3_canSet X = 0 := by exact (if_neg c1).trans rfl
    exact k_zret C rfl rfl (hL.symm) rfl dX3_canSet_58
  ·
    refine k_aload_n C dX3_canSet_7 0 rfl ?_
    refine k_getX3 C 0 14 rfl (by decide) rfl q584 rfl dX3_canSet_8 ?_
    refine k_if_ne C 57 (by decide) dX3_canSet_11 (fun c2 => ?_) (fun c2 => ?_)
    ·
      refine k_iconst C 0 (by decide) dX3_canSet_57 ?_
      have hL : fX3_canSet X = 0 := by exact (if_pos c1).trans ((if_neg c2).trans rfl)
      exact k_zret C rfl rfl (hL.symm) rfl dX3_canSet_58
    ·
      refine k_aload_n C dX3_canSet_14 0 rfl ?_
      refine k_getX3 C 0 6 rfl (by decide) rfl q576 rfl dX3_canSet_15 ?_
      refine k_iconst C 0 (by decide) dX3_canSet_18 ?_
      refine k_iald C 2 rfl vi2_0 (ar2_l0 _) dX3_canSet_19 ?_
      refine k_aload_n C dX3_canSet_20 0 rfl ?_
      refine k_getX3 C 0 6 rfl (by decide) rfl q576 rfl dX3_canSet_21 ?_
      refine k_iconst C 1 (by decide) dX3_canSet_24 ?_
      refine k_iald C 2 rfl vi2_1 (ar2_l1 _) dX3_canSet_25 ?_
      refine k_icmp_ne C 57 (by decide) dX3_canSet_26 (fun c3 => ?_) (fun c3 => ?_)
      ·
        refine k_iconst C 0 (by decide) dX3_canSet_57 ?_
        have hL : fX3_canSet X = 0 := by exact (if_pos c1).trans ((if_pos c2).trans ((if_neg c3).trans rfl))
        exact k_zret C rfl rfl (hL.symm) rfl dX3_canSet_58
      ·
        refine k_aload_n C dX3_canSet_29 0 rfl ?_
        refine k_getX3 C 0 6 rfl (by decide) rfl q576 rfl dX3_canSet_30 ?_
        refine k_iconst C 0 (by decide) dX3_canSet_33 ?_
        refine k_iald C 2 rfl vi2_0 (ar2_l0 _) dX3_canSet_34 ?_
        refine k_bipush C 10 (by decide) dX3_canSet_35 ?_
        refine k_bipush C 11 (by decide) dX3_canSet_37 ?_
        refine k_callS_i C (mX3_isIn l D cI cJ X.2.1.1 10 11) (va_cwS 3 C.2.2.2.2.1 (kGS q637 q638 q61 q639) rfl rfl rfl hdX3_isIn ⟨Nat.le_of_ble_eq_true rfl, Nat.le_of_ble_eq_true rfl⟩) [] [0, 1, 2, 3, 4, 5, 6] [0, 1, 2, 3, 4, 5, 6] [(b0, cM b1 b2 b3 b4 b5 b6 X.2.2.2.2.2.2), (b1, cA9 cI X.1), (b2, cA2 cI X.2.1), (b3, cA2 cI X.2.2.1), (b4, cA2 cI X.2.2.2.1), (b5, cA2 cI X.2.2.2.2.1), (b6, cA9 cI X.2.2.2.2.2.1)] ([(b0, cM b1 b2 b3 b4 b5 b6 X.2.2.2.2.2.2), (b1, cA9 cI X.1), (b2, cA2 cI X.2.1), (b3, cA2 cI X.2.2.1), (b4, cA2 cI X.2.2.2.1), (b5, cA2 cI X.2.2.2.2.1), (b6, cA9 cI X.2.2.2.2.2.1)]) rfl rfl rfl rfl (by decide) [] rfl rfl rfl rfl (Nat.le_of_ble_eq_true rfl) ⟨Nat.zero_le _, Nat.zero_le _⟩ rfl dX3_canSet_39 ?_
        generalize er4 : fX3_isIn X.2.1.1 10 11 = r4
        refine k_if_eq C 57 (by decide) dX3_canSet_42 (fun c5 => ?_) (fun c5 => ?_)
        ·
          refine k_iconst C 0 (by decide) dX3_canSet_57 ?_
          have hL : fX3_canSet X = 0 := by subst er4; exact (if_pos c1).trans ((if_pos c2).trans ((if_pos c3).trans ((if_pos c5).trans rfl)))
          exact k_zret C rfl rfl (hL.symm) rfl dX3_canSet_58
        ·
          refine k_aload_n C dX3_canSet_45 0 rfl ?_
          refine k_callV_i C (mX3_winner l D cI cJ b0 b1 b2 b3 b4 b5 b6 X) (cwV 0 C.2.2.2.2.1 (kGV q644 q646 q34 q61 q647) rfl rfl rfl ⟨rfl, hdX3_winner⟩ ⟨Nat.le_of_ble_eq_true rfl, Nat.le_of_ble_eq_true rfl⟩) [0, 1, 2, 3, 4, 5, 6] [] [0, 1, 2, 3, 4, 5, 6] [] ([(b0, cM b1 b2 b3 b4 b5 b6 X.2.2.2.2.2.2), (b1, cA9 cI X.1), (b2, cA2 cI X.2.1), (b3, cA2 cI X.2.2.1), (b4, cA2 cI X.2.2.2.1), (b5, cA2 cI X.2.2.2.2.1), (b6, cA9 cI X.2.2.2.2.2.1)]) rfl rfl rfl rfl (by decide) [b0, b1, b2, b3, b4, b5, b6] rfl rfl rfl rfl 0 3 rfl rfl rfl (Nat.le_of_ble_eq_true rfl) ⟨Nat.zero_le _, Nat.zero_le _⟩ rfl dX3_canSet_46 ?_
          generalize er6 : fX3_winner X = r6
          refine k_iconst C (-1) (by decide) dX3_canSet_49 ?_
          refine k_icmp_ne C 57 (by decide) dX3_canSet_50 (fun c7 => ?_) (fun c7 => ?_)
          ·
            refine k_iconst C 0 (by decide) dX3_canSet_57 ?_
            have hL : fX3_canSet X = 0 := by subst er6; subst er4; exact (if_pos c1).trans ((if_pos c2).trans ((if_pos c3).trans ((if_neg c5).trans ((if_neg c7).trans rfl))))
            exact k_zret C rfl rfl (hL.symm) rfl dX3_canSet_58
          ·
            refine k_iconst C 1 (by decide) dX3_canSet_53 ?_
            refine k_goto C 58 (by decide) dX3_canSet_54 ?_
            have hL : fX3_canSet X = 1 := by subst er6; subst er4; exact (if_pos c1).trans ((if_pos c2).trans ((if_pos c3).trans ((if_neg c5).trans ((if_pos c7).trans rfl))))
            exact k_zret C rfl rfl (hL.symm) rfl dX3_canSet_58

theorem hdX3_serve : yX3_serve.cls ≠ "java/lang/invoke/MethodHandle" ∧ yX3_serve.cls ≠ "java/lang/invoke/VarHandle" ∧ (parseMethodDescriptor yX3_serve.desc).map (fun d => d.parameters.length) = some 3 := by decide +kernel
noncomputable def fX3_serve (p0 : Int32) (p1 : Int32) (p2 : Int32) (X : Mo) : Int32 × Mo :=
  if (fX3_isStroke p0 p1 p2) = 0 then ((fX3_no 1 (X.1, X.2.1, X.2.2.1, X.2.2.2.1, X.2.2.2.2.1, X.2.2.2.2.2.1, 0, X.2.2.2.2.2.2.2)).1, (fX3_no 1 (X.1, X.2.1, X.2.2.1, X.2.2.2.1, X.2.2.2.2.1, X.2.2.2.2.2.1, 0, X.2.2.2.2.2.2.2)).2)
  else (if X.2.2.2.2.2.2.2.2.1 = 0 then (if (fX3_winner (X.1, X.2.1, X.2.2.1, X.2.2.2.1, X.2.2.2.2.1, X.2.2.2.2.2.1, 0, X.2.2.2.2.2.2.2)) = (-1) then (if (fX3_hit p0 p1 p2 (fX3_putToServe (X.1, X.2.1, X.2.2.1, X.2.2.2.1, X.2.2.2.2.1, X.2.2.2.2.2.1, 0, X.2.2.2.2.2.2.2))).2.2.2.2.2.2.2.1 = 0 then ((fX3_keepStroke_0 ((fX3_hit p0 p1 p2 (fX3_putToServe (X.1, X.2.1, X.2.2.1, X.2.2.2.1, X.2.2.2.2.1, X.2.2.2.2.2.1, 0, X.2.2.2.2.2.2.2))).1, (fX3_hit p0 p1 p2 (fX3_putToServe (X.1, X.2.1, X.2.2.1, X.2.2.2.1, X.2.2.2.2.1, X.2.2.2.2.2.1, 0, X.2.2.2.2.2.2.2))).2.1, (fX3_hit p0 p1 p2 (fX3_putToServe (X.1, X.2.1, X.2.2.1, X.2.2.2.1, X.2.2.2.2.1, X.2.2.2.2.2.1, 0, X.2.2.2.2.2.2.2))).2.2.1, (fX3_hit p0 p1 p2 (fX3_putToServe (X.1, X.2.1, X.2.2.1, X.2.2.2.1, X.2.2.2.2.1, X.2.2.2.2.2.1, 0, X.2.2.2.2.2.2.2))).2.2.2.1, (fX3_hit p0 p1 p2 (fX3_putToServe (X.1, X.2.1, X.2.2.1, X.2.2.2.1, X.2.2.2.2.1, X.2.2.2.2.2.1, 0, X.2.2.2.2.2.2.2))).2.2.2.2.1, (fX3_hit p0 p1 p2 (fX3_putToServe (X.1, X.2.1, X.2.2.1, X.2.2.2.1, X.2.2.2.2.1, X.2.2.2.2.2.1, 0, X.2.2.2.2.2.2.2))).2.2.2.2.2.1, (fX3_hit p0 p1 p2 (fX3_putToServe (X.1, X.2.1, X.2.2.1, X.2.2.2.1, X.2.2.2.2.1, X.2.2.2.2.2.1, 0, X.2.2.2.2.2.2.2))).2.2.2.2.2.2.1, (fX3_hit p0 p1 p2 (fX3_putToServe (X.1, X.2.1, X.2.2.1, X.2.2.2.1, X.2.2.2.2.1, X.2.2.2.2.2.1, 0, X.2.2.2.2.2.2.2))).2.2.2.2.2.2.2.1, 1, (fX3_hit p0 p1 p2 (fX3_putToServe (X.1, X.2.1, X.2.2.1, X.2.2.2.1, X.2.2.2.2.1, X.2.2.2.2.2.1, 0, X.2.2.2.2.2.2.2))).2.2.2.2.2.2.2.2.2.1, 0, (fX3_hit p0 p1 p2 (fX3_putToServe (X.1, X.2.1, X.2.2.1, X.2.2.2.1, X.2.2.2.2.1, X.2.2.2.2.2.1, 0, X.2.2.2.2.2.2.2))).2.2.2.2.2.2.2.2.2.2.2)).2.2.2.2.2.2.2.1, (fX3_keepStroke_0 ((fX3_hit p0 p1 p2 (fX3_putToServe (X.1, X.2.1, X.2.2.1, X.2.2.2.1, X.2.2.2.2.1, X.2.2.2.2.2.1, 0, X.2.2.2.2.2.2.2))).1, (fX3_hit p0 p1 p2 (fX3_putToServe (X.1, X.2.1, X.2.2.1, X.2.2.2.1, X.2.2.2.2.1, X.2.2.2.2.2.1, 0, X.2.2.2.2.2.2.2))).2.1, (fX3_hit p0 p1 p2 (fX3_putToServe (X.1, X.2.1, X.2.2.1, X.2.2.2.1, X.2.2.2.2.1, X.2.2.2.2.2.1, 0, X.2.2.2.2.2.2.2))).2.2.1, (fX3_hit p0 p1 p2 (fX3_putToServe (X.1, X.2.1, X.2.2.1, X.2.2.2.1, X.2.2.2.2.1, X.2.2.2.2.2.1, 0, X.2.2.2.2.2.2.2))).2.2.2.1, (fX3_hit p0 p1 p2 (fX3_putToServe (X.1, X.2.1, X.2.2.1, X.2.2.2.1, X.2.2.2.2.1, X.2.2.2.2.2.1, 0, X.2.2.2.2.2.2.2))).2.2.2.2.1, (fX3_hit p0 p1 p2 (fX3_putToServe (X.1, X.2.1, X.2.2.1, X.2.2.2.1, X.2.2.2.2.1, X.2.2.2.2.2.1, 0, X.2.2.2.2.2.2.2))).2.2.2.2.2.1, (fX3_hit p0 p1 p2 (fX3_putToServe (X.1, X.2.1, X.2.2.1, X.2.2.2.1, X.2.2.2.2.1, X.2.2.2.2.2.1, 0, X.2.2.2.2.2.2.2))).2.2.2.2.2.2.1, (fX3_hit p0 p1 p2 (fX3_putToServe (X.1, X.2.1, X.2.2.1, X.2.2.2.1, X.2.2.2.2.1, X.2.2.2.2.2.1, 0, X.2.2.2.2.2.2.2))).2.2.2.2.2.2.2.1, 1, (fX3_hit p0 p1 p2 (fX3_putToServe (X.1, X.2.1, X.2.2.1, X.2.2.2.1, X.2.2.2.2.1, X.2.2.2.2.2.1, 0, X.2.2.2.2.2.2.2))).2.2.2.2.2.2.2.2.2.1, 0, (fX3_hit p0 p1 p2 (fX3_putToServe (X.1, X.2.1, X.2.2.1, X.2.2.2.1, X.2.2.2.2.1, X.2.2.2.2.2.1, 0, X.2.2.2.2.2.2.2))).2.2.2.2.2.2.2.2.2.2.2)))
        else ((fX3_keepStroke_1 ((fX3_hit p0 p1 p2 (fX3_putToServe (X.1, X.2.1, X.2.2.1, X.2.2.2.1, X.2.2.2.2.1, X.2.2.2.2.2.1, 0, X.2.2.2.2.2.2.2))).1, (fX3_hit p0 p1 p2 (fX3_putToServe (X.1, X.2.1, X.2.2.1, X.2.2.2.1, X.2.2.2.2.1, X.2.2.2.2.2.1, 0, X.2.2.2.2.2.2.2))).2.1, (fX3_hit p0 p1 p2 (fX3_putToServe (X.1, X.2.1, X.2.2.1, X.2.2.2.1, X.2.2.2.2.1, X.2.2.2.2.2.1, 0, X.2.2.2.2.2.2.2))).2.2.1, (fX3_hit p0 p1 p2 (fX3_putToServe (X.1, X.2.1, X.2.2.1, X.2.2.2.1, X.2.2.2.2.1, X.2.2.2.2.2.1, 0, X.2.2.2.2.2.2.2))).2.2.2.1, (fX3_hit p0 p1 p2 (fX3_putToServe (X.1, X.2.1, X.2.2.1, X.2.2.2.1, X.2.2.2.2.1, X.2.2.2.2.2.1, 0, X.2.2.2.2.2.2.2))).2.2.2.2.1, (fX3_hit p0 p1 p2 (fX3_putToServe (X.1, X.2.1, X.2.2.1, X.2.2.2.1, X.2.2.2.2.1, X.2.2.2.2.2.1, 0, X.2.2.2.2.2.2.2))).2.2.2.2.2.1, (fX3_hit p0 p1 p2 (fX3_putToServe (X.1, X.2.1, X.2.2.1, X.2.2.2.1, X.2.2.2.2.1, X.2.2.2.2.2.1, 0, X.2.2.2.2.2.2.2))).2.2.2.2.2.2.1, (fX3_hit p0 p1 p2 (fX3_putToServe (X.1, X.2.1, X.2.2.1, X.2.2.2.1, X.2.2.2.2.1, X.2.2.2.2.2.1, 0, X.2.2.2.2.2.2.2))).2.2.2.2.2.2.2.1, 1, (fX3_hit p0 p1 p2 (fX3_putToServe (X.1, X.2.1, X.2.2.1, X.2.2.2.1, X.2.2.2.2.1, X.2.2.2.2.2.1, 0, X.2.2.2.2.2.2.2))).2.2.2.2.2.2.2.2.2.1, 0, (fX3_hit p0 p1 p2 (fX3_putToServe (X.1, X.2.1, X.2.2.1, X.2.2.2.1, X.2.2.2.2.1, X.2.2.2.2.2.1, 0, X.2.2.2.2.2.2.2))).2.2.2.2.2.2.2.2.2.2.2)).2.2.2.2.2.2.2.1, (fX3_keepStroke_1 ((fX3_hit p0 p1 p2 (fX3_putToServe (X.1, X.2.1, X.2.2.1, X.2.2.2.1, X.2.2.2.2.1, X.2.2.2.2.2.1, 0, X.2.2.2.2.2.2.2))).1, (fX3_hit p0 p1 p2 (fX3_putToServe (X.1, X.2.1, X.2.2.1, X.2.2.2.1, X.2.2.2.2.1, X.2.2.2.2.2.1, 0, X.2.2.2.2.2.2.2))).2.1, (fX3_hit p0 p1 p2 (fX3_putToServe (X.1, X.2.1, X.2.2.1, X.2.2.2.1, X.2.2.2.2.1, X.2.2.2.2.2.1, 0, X.2.2.2.2.2.2.2))).2.2.1, (fX3_hit p0 p1 p2 (fX3_putToServe (X.1, X.2.1, X.2.2.1, X.2.2.2.1, X.2.2.2.2.1, X.2.2.2.2.2.1, 0, X.2.2.2.2.2.2.2))).2.2.2.1, (fX3_hit p0 p1 p2 (fX3_putToServe (X.1, X.2.1, X.2.2.1, X.2.2.2.1, X.2.2.2.2.1, X.2.2.2.2.2.1, 0, X.2.2.2.2.2.2.2))).2.2.2.2.1, (fX3_hit p0 p1 p2 (fX3_putToServe (X.1, X.2.1, X.2.2.1, X.2.2.2.1, X.2.2.2.2.1, X.2.2.2.2.2.1, 0, X.2.2.2.2.2.2.2))).2.2.2.2.2.1, (fX3_hit p0 p1 p2 (fX3_putToServe (X.1, X.2.1, X.2.2.1, X.2.2.2.1, X.2.2.2.2.1, X.2.2.2.2.2.1, 0, X.2.2.2.2.2.2.2))).2.2.2.2.2.2.1, (fX3_hit p0 p1 p2 (fX3_putToServe (X.1, X.2.1, X.2.2.1, X.2.2.2.1, X.2.2.2.2.1, X.2.2.2.2.2.1, 0, X.2.2.2.2.2.2.2))).2.2.2.2.2.2.2.1, 1, (fX3_hit p0 p1 p2 (fX3_putToServe (X.1, X.2.1, X.2.2.1, X.2.2.2.1, X.2.2.2.2.1, X.2.2.2.2.2.1, 0, X.2.2.2.2.2.2.2))).2.2.2.2.2.2.2.2.2.1, 0, (fX3_hit p0 p1 p2 (fX3_putToServe (X.1, X.2.1, X.2.2.1, X.2.2.2.1, X.2.2.2.2.1, X.2.2.2.2.2.1, 0, X.2.2.2.2.2.2.2))).2.2.2.2.2.2.2.2.2.2.2))))
      else ((fX3_no 2 (X.1, X.2.1, X.2.2.1, X.2.2.2.1, X.2.2.2.2.1, X.2.2.2.2.2.1, 0, X.2.2.2.2.2.2.2)).1, (fX3_no 2 (X.1, X.2.1, X.2.2.1, X.2.2.2.1, X.2.2.2.2.1, X.2.2.2.2.2.1, 0, X.2.2.2.2.2.2.2)).2))
    else ((fX3_no 2 (X.1, X.2.1, X.2.2.1, X.2.2.2.1, X.2.2.2.2.1, X.2.2.2.2.2.1, 0, X.2.2.2.2.2.2.2)).1, (fX3_no 2 (X.1, X.2.1, X.2.2.1, X.2.2.2.1, X.2.2.2.2.1, X.2.2.2.2.2.1, 0, X.2.2.2.2.2.2.2)).2))
def NX3_serve (p0 : Int32) (p1 : Int32) (p2 : Int32) (X : Mo) : Prop := ((¬ (fX3_isStroke p0 p1 p2) = 0) → (X.2.2.2.2.2.2.2.2.1 = 0) → ((fX3_winner (X.1, X.2.1, X.2.2.1, X.2.2.2.1, X.2.2.2.2.1, X.2.2.2.2.2.1, 0, X.2.2.2.2.2.2.2)) = (-1)) → (¬ (fX3_hit p0 p1 p2 (fX3_putToServe (X.1, X.2.1, X.2.2.1, X.2.2.2.1, X.2.2.2.2.1, X.2.2.2.2.2.1, 0, X.2.2.2.2.2.2.2))).2.2.2.2.2.2.2.1 = 0) → ((fX3_hit p0 p1 p2 (fX3_putToServe (X.1, X.2.1, X.2.2.1, X.2.2.2.1, X.2.2.2.2.1, X.2.2.2.2.2.1, 0, X.2.2.2.2.2.2.2))).2.2.2.2.2.2.2.1 = 1))
set_option maxHeartbeats 4000000 in
set_option maxRecDepth 100000 in
theorem mX3_serve (l : Launch) (D : va_G) (cI cJ : ClassId) (b0 b1 b2 b3 b4 b5 b6 : Nat) (p0 : Int32) (p1 : Int32) (p2 : Int32) (X : Mo) (hN : ((¬ (fX3_isStroke p0 p1 p2) = 0) → (X.2.2.2.2.2.2.2.2.1 = 0) → ((fX3_winner (X.1, X.2.1, X.2.2.1, X.2.2.2.1, X.2.2.2.2.1, X.2.2.2.2.2.1, 0, X.2.2.2.2.2.2.2)) = (-1)) → (¬ (fX3_hit p0 p1 p2 (fX3_putToServe (X.1, X.2.1, X.2.2.1, X.2.2.2.1, X.2.2.2.2.1, X.2.2.2.2.2.1, 0, X.2.2.2.2.2.2.2))).2.2.2.2.2.2.2.1 = 0) → ((fX3_hit p0 p1 p2 (fX3_putToServe (X.1, X.2.1, X.2.2.1, X.2.2.2.1, X.2.2.2.2.1, X.2.2.2.2.2.1, 0, X.2.2.2.2.2.2.2))).2.2.2.2.2.2.2.1 = 1)))  : kCi l D cI cJ yX3_serve (.code yX3_serve cX3_serve 4 (some .int)) { frames := 2, cells := 0, slots := 0, locals := 61 } [.ref b0, .int p0, .int p1, .int p2] (wM cI b0 b1 b2 b3 b4 b5 b6 X) (fX3_serve p0 p1 p2 X).1 (wM cI b0 b1 b2 b3 b4 b5 b6 (fX3_serve p0 p1 p2 X).2) := by
  have hN0 := hN
  refine fun sz => k_of (lv := [(0, .ref b0), (1, .int p0), (2, .int p1), (3, .int p2)]) (by decide) sz (by exact Nat.le_of_ble_eq_true rfl) rfl ?_
  intro p e s m args below meth c hsz C
  refine k_aload_n C dX3_serve_0 0 rfl ?_
  refine k_iconst C 0 (by decide) dX3_serve_1 ?_
  refine k_putX3 C [(b0, cM b1 b2 b3 b4 b5 b6 (0, X.2.2.2.2.2.2.2)), (b1, cA9 cI X.1), (b2, cA2 cI X.2.1), (b3, cA2 cI X.2.2.1), (b4, cA2 cI X.2.2.2.1), (b5, cA2 cI X.2.2.2.2.1), (b6, cA9 cI X.2.2.2.2.2.1)] 0 0 rfl rfl (by decide) q570 rfl rfl fdI rfl rfl (Nat.le_of_ble_eq_true rfl) dX3_serve_2 ?_
  refine k_iload_n C dX3_serve_5 1 rfl ?_
  refine k_iload_n C dX3_serve_6 2 rfl ?_
  refine k_iload_n C dX3_serve_7 3 rfl ?_
  refine k_callS_i C (mX3_isStroke l D cI cJ p0 p1 p2) (va_cwS 3 C.2.2.2.2.1 (kGS q634 q635 q61 q636) rfl rfl rfl hdX3_isStroke ⟨Nat.le_of_ble_eq_true rfl, Nat.le_of_ble_eq_true rfl⟩) [] [0, 1, 2, 3, 4, 5, 6] [0, 1, 2, 3, 4, 5, 6] [(b0, cM b1 b2 b3 b4 b5 b6 (0, X.2.2.2.2.2.2.2)), (b1, cA9 cI X.1), (b2, cA2 cI X.2.1), (b3, cA2 cI X.2.2.1), (b4, cA2 cI X.2.2.2.1), (b5, cA2 cI X.2.2.2.2.1), (b6, cA9 cI X.2.2.2.2.2.1)] ([(b0, cM b1 b2 b3 b4 b5 b6 (0, X.2.2.2.2.2.2.2)), (b1, cA9 cI X.1), (b2, cA2 cI X.2.1), (b3, cA2 cI X.2.2.1), (b4, cA2 cI X.2.2.2.1), (b5, cA2 cI X.2.2.2.2.1), (b6, cA9 cI X.2.2.2.2.2.1)]) rfl rfl rfl rfl (by decide) [] rfl rfl rfl rfl (Nat.le_of_ble_eq_true rfl) ⟨Nat.zero_le _, Nat.zero_le _⟩ rfl dX3_serve_8 ?_
  generalize er1 : fX3_isStroke p0 p1 p2 = r1
  refine k_if_ne C 20 (by decide) dX3_serve_11 (fun c2 => ?_) (fun c2 => ?_)
  ·
    refine k_aload_n C dX3_serve_20 0 rfl ?_
    refine k_getX3 C 0 2 rfl (by decide) rfl q572 rfl dX3_serve_21 ?_
    refine k_if_ne C 35 (by decide) dX3_serve_24 (fun c3 => ?_) (fun c3 => ?_)
    ·
      refine k_aload_n C dX3_serve_35 0 rfl ?_
      refine k_iconst C 2 (by decide) dX3_serve_36 ?_
      refine k_callV_i C (mX3_no l D cI cJ b0 b1 b2 b3 b4 b5 b6 2 (X.1, X.2.1, X.2.2.1, X.2.2.2.1, X.2.2.2.2.1, X.2.2.2.2.2.1, 0, X.2.2.2.2.2.2.2)) (cwV 1 C.2.2.2.2.1 (kGV q640 q642 q33 q61 q643) rfl rfl rfl ⟨rfl, hdX3_no⟩ ⟨Nat.le_of_ble_eq_true rfl, Nat.le_of_ble_eq_true rfl⟩) [0, 1, 2, 3, 4, 5, 6] [] [0, 1, 2, 3, 4, 5, 6] [] (wM cI b0 b1 b2 b3 b4 b5 b6 (fX3_no 2 (X.1, X.2.1, X.2.2.1, X.2.2.2.1, X.2.2.2.2.1, X.2.2.2.2.2.1, 0, X.2.2.2.2.2.2.2)).2) rfl rfl rfl rfl (by decide) [b0, b1, b2, b3, b4, b5, b6] rfl rfl rfl rfl 0 3 rfl rfl rfl (Nat.le_of_ble_eq_true rfl) ⟨Nat.zero_le _, Nat.zero_le _⟩ rfl dX3_serve_37 ?_
      generalize ez4 : fX3_no 2 (X.1, X.2.1, X.2.2.1, X.2.2.2.1, X.2.2.2.2.1, X.2.2.2.2.2.1, 0, X.2.2.2.2.2.2.2) = z4
      have hL : fX3_serve p0 p1 p2 X = (z4.1, z4.2) := by subst ez4; subst er1; exact (if_neg c2).trans ((if_neg c3).trans rfl)
      exact k_iret C rfl (by rw [hL]) (by rw [hL]) dX3_serve_40
    ·
      refine k_aload_n C dX3_serve_27 0 rfl ?_
      refine k_callV_i C (mX3_winner l D cI cJ b0 b1 b2 b3 b4 b5 b6 (X.1, X.2.1, X.2.2.1, X.2.2.2.1, X.2.2.2.2.1, X.2.2.2.2.2.1, 0, X.2.2.2.2.2.2.2)) (cwV 0 C.2.2.2.2.1 (kGV q644 q646 q34 q61 q647) rfl rfl rfl ⟨rfl, hdX3_winner⟩ ⟨Nat.le_of_ble_eq_true rfl, Nat.le_of_ble_eq_true rfl⟩) [0, 1, 2, 3, 4, 5, 6] [] [0, 1, 2, 3, 4, 5, 6] [] ([(b0, cM b1 b2 b3 b4 b5 b6 (0, X.2.2.2.2.2.2.2)), (b1, cA9 cI X.1), (b2, cA2 cI X.2.1), (b3, cA2 cI X.2.2.1), (b4, cA2 cI X.2.2.2.1), (b5, cA2 cI X.2.2.2.2.1), (b6, cA9 cI X.2.2.2.2.2.1)]) rfl rfl rfl rfl (by decide) [b0, b1, b2, b3, b4, b5, b6] rfl rfl rfl rfl 0 3 rfl rfl rfl (Nat.le_of_ble_eq_true rfl) ⟨Nat.zero_le _, Nat.zero_le _⟩ rfl dX3_serve_28 ?_
      generalize er5 : fX3_winner (X.1, X.2.1, X.2.2.1, X.2.2.2.1, X.2.2.2.2.1, X.2.2.2.2.2.1, 0, X.2.2.2.2.2.2.2) = r5
      refine k_iconst C (-1) (by decide) dX3_serve_31 ?_
      refine k_icmp_eq C 41 (by decide) dX3_serve_32 (fun c6 => ?_) (fun c6 => ?_)
      ·
        refine k_aload_n C dX3_serve_41 0 rfl ?_
        refine k_callV_v C (mX3_putToServe l D cI cJ b0 b1 b2 b3 b4 b5 b6 (X.1, X.2.1, X.2.2.1, X.2.2.2.1, X.2.2.2.2.1, X.2.2.2.2.2.1, 0, X.2.2.2.2.2.2.2)) (cwV 0 C.2.2.2.2.1 (kGV q648 q650 q35 q61 q651) rfl rfl rfl ⟨rfl, hdX3_putToServe⟩ ⟨Nat.le_of_ble_eq_true rfl, Nat.le_of_ble_eq_true rfl⟩) [0, 1, 2, 3, 4, 5, 6] [] [0, 1, 2, 3, 4, 5, 6] [] (wM cI b0 b1 b2 b3 b4 b5 b6 (fX3_putToServe (X.1, X.2.1, X.2.2.1, X.2.2.2.1, X.2.2.2.2.1, X.2.2.2.2.2.1, 0, X.2.2.2.2.2.2.2))) rfl rfl rfl rfl (by decide) [b0, b1, b2, b3, b4, b5, b6] rfl rfl rfl rfl 0 3 rfl rfl rfl (Nat.le_of_ble_eq_true rfl) ⟨Nat.zero_le _, Nat.zero_le _⟩ rfl dX3_serve_42 ?_
        generalize ez7 : fX3_putToServe (X.1, X.2.1, X.2.2.1, X.2.2.2.1, X.2.2.2.2.1, X.2.2.2.2.2.1, 0, X.2.2.2.2.2.2.2) = z7
        refine k_aload_n C dX3_serve_45 0 rfl ?_
        refine k_iload_n C dX3_serve_46 1 rfl ?_
        refine k_iload_n C dX3_serve_47 2 rfl ?_
        refine k_iload_n C dX3_serve_48 3 rfl ?_
        refine k_callV_v C (mX3_hit l D cI cJ b0 b1 b2 b3 b4 b5 b6 p0 p1 p2 z7) (cwV 3 C.2.2.2.2.1 (kGV q652 q654 q36 q61 q655) rfl rfl rfl ⟨rfl, hdX3_hit⟩ ⟨Nat.le_of_ble_eq_true rfl, Nat.le_of_ble_eq_true rfl⟩) [0, 1, 2, 3, 4, 5, 6] [] [0, 1, 2, 3, 4, 5, 6] [] (wM cI b0 b1 b2 b3 b4 b5 b6 (fX3_hit p0 p1 p2 z7)) rfl rfl rfl rfl (by decide) [b0, b1, b2, b3, b4, b5, b6] rfl rfl rfl rfl 0 3 rfl rfl rfl (Nat.le_of_ble_eq_true rfl) ⟨Nat.zero_le _, Nat.zero_le _⟩ rfl dX3_serve_49 ?_
        generalize ez8 : fX3_hit p0 p1 p2 z7 = z8
        refine k_aload_n C dX3_serve_52 0 rfl ?_
        refine k_iconst C 1 (by decide) dX3_serve_53 ?_
        refine k_putX3 C [(b0, cM b1 b2 b3 b4 b5 b6 (z8.2.2.2.2.2.2.1, z8.2.2.2.2.2.2.2.1, 1, z8.2.2.2.2.2.2.2.2.2)), (b1, cA9 cI z8.1), (b2, cA2 cI z8.2.1), (b3, cA2 cI z8.2.2.1), (b4, cA2 cI z8.2.2.2.1), (b5, cA2 cI z8.2.2.2.2.1), (b6, cA9 cI z8.2.2.2.2.2.1)] 0 2 rfl rfl (by decide) q572 rfl rfl fdZ rfl rfl (Nat.le_of_ble_eq_true rfl) dX3_serve_54 ?_
        refine k_aload_n C dX3_serve_57 0 rfl ?_
        refine k_iconst C 0 (by decide) dX3_serve_58 ?_
        refine k_putX3 C [(b0, cM b1 b2 b3 b4 b5 b6 (z8.2.2.2.2.2.2.1, z8.2.2.2.2.2.2.2.1, 1, z8.2.2.2.2.2.2.2.2.2.1, 0, z8.2.2.2.2.2.2.2.2.2.2.2)), (b1, cA9 cI z8.1), (b2, cA2 cI z8.2.1), (b3, cA2 cI z8.2.2.1), (b4, cA2 cI z8.2.2.2.1), (b5, cA2 cI z8.2.2.2.2.1), (b6, cA9 cI z8.2.2.2.2.2.1)] 0 4 rfl rfl (by decide) q574 rfl rfl fdI rfl rfl (Nat.le_of_ble_eq_true rfl) dX3_serve_59 ?_
        refine k_aload_n C dX3_serve_62 0 rfl ?_
        refine k_aload_n C dX3_serve_63 0 rfl ?_
        refine k_getX3 C 0 1 rfl (by decide) rfl q571 rfl dX3_serve_64 ?_
        by_cases c9 : z8.2.2.2.2.2.2.2.1 = 0
        ·
          refine k_callV_v C (mX3_keepStroke_0 l D cI cJ b0 b1 b2 b3 b4 b5 b6 z8.2.2.2.2.2.2.2.1 (c9) (z8.1, z8.2.1, z8.2.2.1, z8.2.2.2.1, z8.2.2.2.2.1, z8.2.2.2.2.2.1, z8.2.2.2.2.2.2.1, z8.2.2.2.2.2.2.2.1, 1, z8.2.2.2.2.2.2.2.2.2.1, 0, z8.2.2.2.2.2.2.2.2.2.2.2)) (cwV 1 C.2.2.2.2.1 (kGV q657 q659 q37 q61 q660) rfl rfl rfl ⟨rfl, hdX3_keepStroke⟩ ⟨Nat.le_of_ble_eq_true rfl, Nat.le_of_ble_eq_true rfl⟩) [0, 1, 2, 3, 4, 5, 6] [] [0, 1, 2, 3, 4, 5, 6] [] (wM cI b0 b1 b2 b3 b4 b5 b6 (fX3_keepStroke_0 (z8.1, z8.2.1, z8.2.2.1, z8.2.2.2.1, z8.2.2.2.2.1, z8.2.2.2.2.2.1, z8.2.2.2.2.2.2.1, z8.2.2.2.2.2.2.2.1, 1, z8.2.2.2.2.2.2.2.2.2.1, 0, z8.2.2.2.2.2.2.2.2.2.2.2))) rfl rfl rfl rfl (by decide) [b0, b1, b2, b3, b4, b5, b6] rfl rfl rfl rfl 0 3 rfl rfl rfl (Nat.le_of_ble_eq_true rfl) ⟨Nat.zero_le _, Nat.zero_le _⟩ rfl dX3_serve_67 ?_
          generalize ez10 : fX3_keepStroke_0 (z8.1, z8.2.1, z8.2.2.1, z8.2.2.2.1, z8.2.2.2.2.1, z8.2.2.2.2.2.1, z8.2.2.2.2.2.2.1, z8.2.2.2.2.2.2.2.1, 1, z8.2.2.2.2.2.2.2.2.2.1, 0, z8.2.2.2.2.2.2.2.2.2.2.2) = z10
          refine k_aload_n C dX3_serve_70 0 rfl ?_
          refine k_getX3 C 0 1 rfl (by decide) rfl q571 rfl dX3_serve_71 ?_
          have hL : fX3_serve p0 p1 p2 X = (z10.2.2.2.2.2.2.2.1, z10) := by subst ez10; subst ez8; subst ez7; subst er5; subst er1; exact (if_neg c2).trans ((if_pos c3).trans ((if_pos c6).trans ((if_pos c9).trans rfl)))
          exact k_iret C rfl (by rw [hL]) (by rw [hL]) dX3_serve_74
        ·
          refine k_callV_v C (mX3_keepStroke_1 l D cI cJ b0 b1 b2 b3 b4 b5 b6 z8.2.2.2.2.2.2.2.1 ((by subst ez8; subst ez7; subst er5; subst er1; exact hN0 c2 c3 c6 c9)) (z8.1, z8.2.1, z8.2.2.1, z8.2.2.2.1, z8.2.2.2.2.1, z8.2.2.2.2.2.1, z8.2.2.2.2.2.2.1, z8.2.2.2.2.2.2.2.1, 1, z8.2.2.2.2.2.2.2.2.2.1, 0, z8.2.2.2.2.2.2.2.2.2.2.2)) (cwV 1 C.2.2.2.2.1 (kGV q657 q659 q37 q61 q660) rfl rfl rfl ⟨rfl, hdX3_keepStroke⟩ ⟨Nat.le_of_ble_eq_true rfl, Nat.le_of_ble_eq_true rfl⟩) [0, 1, 2, 3, 4, 5, 6] [] [0, 1, 2, 3, 4, 5, 6] [] (wM cI b0 b1 b2 b3 b4 b5 b6 (fX3_keepStroke_1 (z8.1, z8.2.1, z8.2.2.1, z8.2.2.2.1, z8.2.2.2.2.1, z8.2.2.2.2.2.1, z8.2.2.2.2.2.2.1, z8.2.2.2.2.2.2.2.1, 1, z8.2.2.2.2.2.2.2.2.2.1, 0, z8.2.2.2.2.2.2.2.2.2.2.2))) rfl rfl rfl rfl (by decide) [b0, b1, b2, b3, b4, b5, b6] rfl rfl rfl rfl 0 3 rfl rfl rfl (Nat.le_of_ble_eq_true rfl) ⟨Nat.zero_le _, Nat.zero_le _⟩ rfl dX3_serve_67 ?_
          generalize ez11 : fX3_keepStroke_1 (z8.1, z8.2.1, z8.2.2.1, z8.2.2.2.1, z8.2.2.2.2.1, z8.2.2.2.2.2.1, z8.2.2.2.2.2.2.1, z8.2.2.2.2.2.2.2.1, 1, z8.2.2.2.2.2.2.2.2.2.1, 0, z8.2.2.2.2.2.2.2.2.2.2.2) = z11
          refine k_aload_n C dX3_serve_70 0 rfl ?_
          refine k_getX3 C 0 1 rfl (by decide) rfl q571 rfl dX3_serve_71 ?_
          have hL : fX3_serve p0 p1 p2 X = (z11.2.2.2.2.2.2.2.1, z11) := by subst ez11; subst ez8; subst ez7; subst er5; subst er1; exact (if_neg c2).trans ((if_pos c3).trans ((if_pos c6).trans ((if_neg c9).trans rfl)))
          exact k_iret C rfl (by rw [hL]) (by rw [hL]) dX3_serve_74
      ·
        refine k_aload_n C dX3_serve_35 0 rfl ?_
        refine k_iconst C 2 (by decide) dX3_serve_36 ?_
        refine k_callV_i C (mX3_no l D cI cJ b0 b1 b2 b3 b4 b5 b6 2 (X.1, X.2.1, X.2.2.1, X.2.2.2.1, X.2.2.2.2.1, X.2.2.2.2.2.1, 0, X.2.2.2.2.2.2.2)) (cwV 1 C.2.2.2.2.1 (kGV q640 q642 q33 q61 q643) rfl rfl rfl ⟨rfl, hdX3_no⟩ ⟨Nat.le_of_ble_eq_true rfl, Nat.le_of_ble_eq_true rfl⟩) [0, 1, 2, 3, 4, 5, 6] [] [0, 1, 2, 3, 4, 5, 6] [] (wM cI b0 b1 b2 b3 b4 b5 b6 (fX3_no 2 (X.1, X.2.1, X.2.2.1, X.2.2.2.1, X.2.2.2.2.1, X.2.2.2.2.2.1, 0, X.2.2.2.2.2.2.2)).2) rfl rfl rfl rfl (by decide) [b0, b1, b2, b3, b4, b5, b6] rfl rfl rfl rfl 0 3 rfl rfl rfl (Nat.le_of_ble_eq_true rfl) ⟨Nat.zero_le _, Nat.zero_le _⟩ rfl dX3_serve_37 ?_
        generalize ez12 : fX3_no 2 (X.1, X.2.1, X.2.2.1, X.2.2.2.1, X.2.2.2.2.1, X.2.2.2.2.2.1, 0, X.2.2.2.2.2.2.2) = z12
        have hL : fX3_serve p0 p1 p2 X = (z12.1, z12.2) := by subst ez12; subst er5; subst er1; exact (if_neg c2).trans ((if_pos c3).trans ((if_neg c6).trans rfl))
        exact k_iret C rfl (by rw [hL]) (by rw [hL]) dX3_serve_40
  ·
    refine k_aload_n C dX3_serve_14 0 rfl ?_
    refine k_iconst C 1 (by decide) dX3_serve_15 ?_
    refine k_callV_i C (mX3_no l D cI cJ b0 b1 b2 b3 b4 b5 b6 1 (X.1, X.2.1, X.2.2.1, X.2.2.2.1, X.2.2.2.2.1, X.2.2.2.2.2.1, 0, X.2.2.2.2.2.2.2)) (cwV 1 C.2.2.2.2.1 (kGV q640 q642 q33 q61 q643) rfl rfl rfl ⟨rfl, hdX3_no⟩ ⟨Nat.le_of_ble_eq_true rfl, Nat.le_of_ble_eq_true rfl⟩) [0, 1, 2, 3, 4, 5, 6] [] [0, 1, 2, 3, 4, 5, 6] [] (wM cI b0 b1 b2 b3 b4 b5 b6 (fX3_no 1 (X.1, X.2.1, X.2.2.1, X.2.2.2.1, X.2.2.2.2.1, X.2.2.2.2.2.1, 0, X.2.2.2.2.2.2.2)).2) rfl rfl rfl rfl (by decide) [b0, b1, b2, b3, b4, b5, b6] rfl rfl rfl rfl 0 3 rfl rfl rfl (Nat.le_of_ble_eq_true rfl) ⟨Nat.zero_le _, Nat.zero_le _⟩ rfl dX3_serve_16 ?_
    generalize ez13 : fX3_no 1 (X.1, X.2.1, X.2.2.1, X.2.2.2.1, X.2.2.2.2.1, X.2.2.2.2.2.1, 0, X.2.2.2.2.2.2.2) = z13
    have hL : fX3_serve p0 p1 p2 X = (z13.1, z13.2) := by subst ez13; subst er1; exact (if_pos c2).trans rfl
    exact k_iret C rfl (by rw [hL]) (by rw [hL]) dX3_serve_19

theorem hdX3_strike : yX3_strike.cls ≠ "java/lang/invoke/MethodHandle" ∧ yX3_strike.cls ≠ "java/lang/invoke/VarHandle" ∧ (parseMethodDescriptor yX3_strike.desc).map (fun d => d.parameters.length) = some 4 := by decide +kernel
noncomputable def fX3_strike (p0 : Int32) (p1 : Int32) (p2 : Int32) (p3 : Int32) (X : Mo) : Int32 × Mo :=
  if (fX3_isIn p0 1 60) = 0 then ((fX3_no 1 (X.1, X.2.1, X.2.2.1, X.2.2.2.1, X.2.2.2.2.1, X.2.2.2.2.2.1, 0, X.2.2.2.2.2.2.2)).1, (fX3_no 1 (X.1, X.2.1, X.2.2.1, X.2.2.2.1, X.2.2.2.2.1, X.2.2.2.2.2.1, 0, X.2.2.2.2.2.2.2)).2)
  else (if (fX3_isStroke p1 p2 p3) = 0 then ((fX3_no 1 (X.1, X.2.1, X.2.2.1, X.2.2.2.1, X.2.2.2.2.1, X.2.2.2.2.2.1, 0, X.2.2.2.2.2.2.2)).1, (fX3_no 1 (X.1, X.2.1, X.2.2.1, X.2.2.2.1, X.2.2.2.2.1, X.2.2.2.2.2.1, 0, X.2.2.2.2.2.2.2)).2)
    else (if X.2.2.2.2.2.2.2.2.1 = 0 then ((fX3_no 2 (X.1, X.2.1, X.2.2.1, X.2.2.2.1, X.2.2.2.2.1, X.2.2.2.2.2.1, 0, X.2.2.2.2.2.2.2)).1, (fX3_no 2 (X.1, X.2.1, X.2.2.1, X.2.2.2.1, X.2.2.2.2.1, X.2.2.2.2.2.1, 0, X.2.2.2.2.2.2.2)).2)
      else (if (fX3_flyOn p0 (X.1, X.2.1, X.2.2.1, X.2.2.2.1, X.2.2.2.2.1, X.2.2.2.2.2.1, 0, X.2.2.2.2.2.2.2)).1 ≤ 0 then (if (fX3_flyOn p0 (X.1, X.2.1, X.2.2.1, X.2.2.2.1, X.2.2.2.2.1, X.2.2.2.2.2.1, 0, X.2.2.2.2.2.2.2)).2.2.2.2.2.2.1.2.2.2.2.2.2.1 = 0 then (1, (fX3_endByLet (fX3_flyOn p0 (X.1, X.2.1, X.2.2.1, X.2.2.2.1, X.2.2.2.2.1, X.2.2.2.2.2.1, 0, X.2.2.2.2.2.2.2)).2))
          else (if (fX3_hit p1 p2 p3 (fX3_flyOn p0 (X.1, X.2.1, X.2.2.1, X.2.2.2.1, X.2.2.2.2.1, X.2.2.2.2.2.1, 0, X.2.2.2.2.2.2.2)).2).2.2.2.2.2.2.2.2.2.1 = 0 then (0, (fX3_keepStroke_0 (fX3_hit p1 p2 p3 (fX3_flyOn p0 (X.1, X.2.1, X.2.2.1, X.2.2.2.1, X.2.2.2.2.1, X.2.2.2.2.2.1, 0, X.2.2.2.2.2.2.2)).2)))
            else (0, (fX3_keepStroke_1 (fX3_hit p1 p2 p3 (fX3_flyOn p0 (X.1, X.2.1, X.2.2.1, X.2.2.2.1, X.2.2.2.2.1, X.2.2.2.2.2.1, 0, X.2.2.2.2.2.2.2)).2)))))
        else (if (fX3_flyOn p0 (X.1, X.2.1, X.2.2.1, X.2.2.2.1, X.2.2.2.2.1, X.2.2.2.2.2.1, 0, X.2.2.2.2.2.2.2)).1 = 3 then (if (1 - (fX3_flyOn p0 (X.1, X.2.1, X.2.2.1, X.2.2.2.1, X.2.2.2.2.1, X.2.2.2.2.2.1, 0, X.2.2.2.2.2.2.2)).2.2.2.2.2.2.2.2.2.2.1) = 0 then ((fX3_win_0 (fX3_flyOn p0 (X.1, X.2.1, X.2.2.1, X.2.2.2.1, X.2.2.2.2.1, X.2.2.2.2.2.1, 0, X.2.2.2.2.2.2.2)).2).1, (fX3_win_0 (fX3_flyOn p0 (X.1, X.2.1, X.2.2.1, X.2.2.2.1, X.2.2.2.2.1, X.2.2.2.2.2.1, 0, X.2.2.2.2.2.2.2)).2).2)
            else ((fX3_win_1 (fX3_flyOn p0 (X.1, X.2.1, X.2.2.1, X.2.2.2.1, X.2.2.2.2.1, X.2.2.2.2.2.1, 0, X.2.2.2.2.2.2.2)).2).1, (fX3_win_1 (fX3_flyOn p0 (X.1, X.2.1, X.2.2.1, X.2.2.2.1, X.2.2.2.2.1, X.2.2.2.2.2.1, 0, X.2.2.2.2.2.2.2)).2).2))
          else (if (fX3_flyOn p0 (X.1, X.2.1, X.2.2.1, X.2.2.2.1, X.2.2.2.2.1, X.2.2.2.2.2.1, 0, X.2.2.2.2.2.2.2)).2.2.2.2.2.2.2.2.2.2.1 = 0 then ((fX3_win_0 (fX3_flyOn p0 (X.1, X.2.1, X.2.2.1, X.2.2.2.1, X.2.2.2.2.1, X.2.2.2.2.2.1, 0, X.2.2.2.2.2.2.2)).2).1, (fX3_win_0 (fX3_flyOn p0 (X.1, X.2.1, X.2.2.1, X.2.2.2.1, X.2.2.2.2.1, X.2.2.2.2.2.1, 0, X.2.2.2.2.2.2.2)).2).2)
            else ((fX3_win_1 (fX3_flyOn p0 (X.1, X.2.1, X.2.2.1, X.2.2.2.1, X.2.2.2.2.1, X.2.2.2.2.2.1, 0, X.2.2.2.2.2.2.2)).2).1, (fX3_win_1 (fX3_flyOn p0 (X.1, X.2.1, X.2.2.1, X.2.2.2.1, X.2.2.2.2.1, X.2.2.2.2.2.1, 0, X.2.2.2.2.2.2.2)).2).2))))))
def NX3_strike (p0 : Int32) (p1 : Int32) (p2 : Int32) (p3 : Int32) (X : Mo) : Prop := ((¬ (fX3_isIn p0 1 60) = 0) → (¬ (fX3_isStroke p1 p2 p3) = 0) → (¬ X.2.2.2.2.2.2.2.2.1 = 0) → ((fX3_flyOn p0 (X.1, X.2.1, X.2.2.1, X.2.2.2.1, X.2.2.2.2.1, X.2.2.2.2.2.1, 0, X.2.2.2.2.2.2.2)).1 ≤ 0) → (¬ (fX3_flyOn p0 (X.1, X.2.1, X.2.2.1, X.2.2.2.1, X.2.2.2.2.1, X.2.2.2.2.2.1, 0, X.2.2.2.2.2.2.2)).2.2.2.2.2.2.1.2.2.2.2.2.2.1 = 0) → (¬ (fX3_hit p1 p2 p3 (fX3_flyOn p0 (X.1, X.2.1, X.2.2.1, X.2.2.2.1, X.2.2.2.2.1, X.2.2.2.2.2.1, 0, X.2.2.2.2.2.2.2)).2).2.2.2.2.2.2.2.2.2.1 = 0) → ((fX3_hit p1 p2 p3 (fX3_flyOn p0 (X.1, X.2.1, X.2.2.1, X.2.2.2.1, X.2.2.2.2.1, X.2.2.2.2.2.1, 0, X.2.2.2.2.2.2.2)).2).2.2.2.2.2.2.2.2.2.1 = 1)) ∧ ((¬ (fX3_isIn p0 1 60) = 0) → (¬ (fX3_isStroke p1 p2 p3) = 0) → (¬ X.2.2.2.2.2.2.2.2.1 = 0) → (¬ (fX3_flyOn p0 (X.1, X.2.1, X.2.2.1, X.2.2.2.1, X.2.2.2.2.1, X.2.2.2.2.2.1, 0, X.2.2.2.2.2.2.2)).1 ≤ 0) → (¬ (fX3_flyOn p0 (X.1, X.2.1, X.2.2.1, X.2.2.2.1, X.2.2.2.2.1, X.2.2.2.2.2.1, 0, X.2.2.2.2.2.2.2)).1 = 3) → (¬ (fX3_flyOn p0 (X.1, X.2.1, X.2.2.1, X.2.2.2.1, X.2.2.2.2.1, X.2.2.2.2.2.1, 0, X.2.2.2.2.2.2.2)).2.2.2.2.2.2.2.2.2.2.1 = 0) → ((fX3_flyOn p0 (X.1, X.2.1, X.2.2.1, X.2.2.2.1, X.2.2.2.2.1, X.2.2.2.2.2.1, 0, X.2.2.2.2.2.2.2)).2.2.2.2.2.2.2.2.2.2.1 = 1)) ∧ ((¬ (fX3_isIn p0 1 60) = 0) → (¬ (fX3_isStroke p1 p2 p3) = 0) → (¬ X.2.2.2.2.2.2.2.2.1 = 0) → (¬ (fX3_flyOn p0 (X.1, X.2.1, X.2.2.1, X.2.2.2.1, X.2.2.2.2.1, X.2.2.2.2.2.1, 0, X.2.2.2.2.2.2.2)).1 ≤ 0) → ((fX3_flyOn p0 (X.1, X.2.1, X.2.2.1, X.2.2.2.1, X.2.2.2.2.1, X.2.2.2.2.2.1, 0, X.2.2.2.2.2.2.2)).1 = 3) → (¬ (1 - (fX3_flyOn p0 (X.1, X.2.1, X.2.2.1, X.2.2.2.1, X.2.2.2.2.1, X.2.2.2.2.2.1, 0, X.2.2.2.2.2.2.2)).2.2.2.2.2.2.2.2.2.2.1) = 0) → ((1 - (fX3_flyOn p0 (X.1, X.2.1, X.2.2.1, X.2.2.2.1, X.2.2.2.2.1, X.2.2.2.2.2.1, 0, X.2.2.2.2.2.2.2)).2.2.2.2.2.2.2.2.2.2.1) = 1))
set_option maxHeartbeats 4000000 in
set_option maxRecDepth 100000 in
theorem mX3_strike (l : Launch) (D : va_G) (cI cJ : ClassId) (b0 b1 b2 b3 b4 b5 b6 : Nat) (p0 : Int32) (p1 : Int32) (p2 : Int32) (p3 : Int32) (X : Mo) (hN : ((¬ (fX3_isIn p0 1 60) = 0) → (¬ (fX3_isStroke p1 p2 p3) = 0) → (¬ X.2.2.2.2.2.2.2.2.1 = 0) → ((fX3_flyOn p0 (X.1, X.2.1, X.2.2.1, X.2.2.2.1, X.2.2.2.2.1, X.2.2.2.2.2.1, 0, X.2.2.2.2.2.2.2)).1 ≤ 0) → (¬ (fX3_flyOn p0 (X.1, X.2.1, X.2.2.1, X.2.2.2.1, X.2.2.2.2.1, X.2.2.2.2.2.1, 0, X.2.2.2.2.2.2.2)).2.2.2.2.2.2.1.2.2.2.2.2.2.1 = 0) → (¬ (fX3_hit p1 p2 p3 (fX3_flyOn p0 (X.1, X.2.1, X.2.2.1, X.2.2.2.1, X.2.2.2.2.1, X.2.2.2.2.2.1, 0, X.2.2.2.2.2.2.2)).2).2.2.2.2.2.2.2.2.2.1 = 0) → ((fX3_hit p1 p2 p3 (fX3_flyOn p0 (X.1, X.2.1, X.2.2.1, X.2.2.2.1, X.2.2.2.2.1, X.2.2.2.2.2.1, 0, X.2.2.2.2.2.2.2)).2).2.2.2.2.2.2.2.2.2.1 = 1)) ∧ ((¬ (fX3_isIn p0 1 60) = 0) → (¬ (fX3_isStroke p1 p2 p3) = 0) → (¬ X.2.2.2.2.2.2.2.2.1 = 0) → (¬ (fX3_flyOn p0 (X.1, X.2.1, X.2.2.1, X.2.2.2.1, X.2.2.2.2.1, X.2.2.2.2.2.1, 0, X.2.2.2.2.2.2.2)).1 ≤ 0) → (¬ (fX3_flyOn p0 (X.1, X.2.1, X.2.2.1, X.2.2.2.1, X.2.2.2.2.1, X.2.2.2.2.2.1, 0, X.2.2.2.2.2.2.2)).1 = 3) → (¬ (fX3_flyOn p0 (X.1, X.2.1, X.2.2.1, X.2.2.2.1, X.2.2.2.2.1, X.2.2.2.2.2.1, 0, X.2.2.2.2.2.2.2)).2.2.2.2.2.2.2.2.2.2.1 = 0) → ((fX3_flyOn p0 (X.1, X.2.1, X.2.2.1, X.2.2.2.1, X.2.2.2.2.1, X.2.2.2.2.2.1, 0, X.2.2.2.2.2.2.2)).2.2.2.2.2.2.2.2.2.2.1 = 1)) ∧ ((¬ (fX3_isIn p0 1 60) = 0) → (¬ (fX3_isStroke p1 p2 p3) = 0) → (¬ X.2.2.2.2.2.2.2.2.1 = 0) → (¬ (fX3_flyOn p0 (X.1, X.2.1, X.2.2.1, X.2.2.2.1, X.2.2.2.2.1, X.2.2.2.2.2.1, 0, X.2.2.2.2.2.2.2)).1 ≤ 0) → ((fX3_flyOn p0 (X.1, X.2.1, X.2.2.1, X.2.2.2.1, X.2.2.2.2.1, X.2.2.2.2.2.1, 0, X.2.2.2.2.2.2.2)).1 = 3) → (¬ (1 - (fX3_flyOn p0 (X.1, X.2.1, X.2.2.1, X.2.2.2.1, X.2.2.2.2.1, X.2.2.2.2.2.1, 0, X.2.2.2.2.2.2.2)).2.2.2.2.2.2.2.2.2.2.1) = 0) → ((1 - (fX3_flyOn p0 (X.1, X.2.1, X.2.2.1, X.2.2.2.1, X.2.2.2.2.1, X.2.2.2.2.2.1, 0, X.2.2.2.2.2.2.2)).2.2.2.2.2.2.2.2.2.2.1) = 1)))  : kCi l D cI cJ yX3_strike (.code yX3_strike cX3_strike 6 (some .int)) { frames := 5, cells := 0, slots := 0, locals := 110 } [.ref b0, .int p0, .int p1, .int p2, .int p3] (wM cI b0 b1 b2 b3 b4 b5 b6 X) (fX3_strike p0 p1 p2 p3 X).1 (wM cI b0 b1 b2 b3 b4 b5 b6 (fX3_strike p0 p1 p2 p3 X).2) := by
  have hN0 := hN.1
  have hN1 := hN.2.1
  have hN2 := hN.2.2
  refine fun sz => k_of (lv := [(0, .ref b0), (1, .int p0), (2, .int p1), (3, .int p2), (4, .int p3)]) (by decide) sz (by exact Nat.le_of_ble_eq_true rfl) rfl ?_
  intro p e s m args below meth c hsz C
  refine k_aload_n C dX3_strike_0 0 rfl ?_
  refine k_iconst C 0 (by decide) dX3_strike_1 ?_
  refine k_putX3 C [(b0, cM b1 b2 b3 b4 b5 b6 (0, X.2.2.2.2.2.2.2)), (b1, cA9 cI X.1), (b2, cA2 cI X.2.1), (b3, cA2 cI X.2.2.1), (b4, cA2 cI X.2.2.2.1), (b5, cA2 cI X.2.2.2.2.1), (b6, cA9 cI X.2.2.2.2.2.1)] 0 0 rfl rfl (by decide) q570 rfl rfl fdI rfl rfl (Nat.le_of_ble_eq_true rfl) dX3_strike_2 ?_
  refine k_iload_n C dX3_strike_5 1 rfl ?_
  refine k_iconst C 1 (by decide) dX3_strike_6 ?_
  refine k_bipush C 60 (by decide) dX3_strike_7 ?_
  refine k_callS_i C (mX3_isIn l D cI cJ p0 1 60) (va_cwS 3 C.2.2.2.2.1 (kGS q637 q638 q61 q639) rfl rfl rfl hdX3_isIn ⟨Nat.le_of_ble_eq_true rfl, Nat.le_of_ble_eq_true rfl⟩) [] [0, 1, 2, 3, 4, 5, 6] [0, 1, 2, 3, 4, 5, 6] [(b0, cM b1 b2 b3 b4 b5 b6 (0, X.2.2.2.2.2.2.2)), (b1, cA9 cI X.1), (b2, cA2 cI X.2.1), (b3, cA2 cI X.2.2.1), (b4, cA2 cI X.2.2.2.1), (b5, cA2 cI X.2.2.2.2.1), (b6, cA9 cI X.2.2.2.2.2.1)] ([(b0, cM b1 b2 b3 b4 b5 b6 (0, X.2.2.2.2.2.2.2)), (b1, cA9 cI X.1), (b2, cA2 cI X.2.1), (b3, cA2 cI X.2.2.1), (b4, cA2 cI X.2.2.2.1), (b5, cA2 cI X.2.2.2.2.1), (b6, cA9 cI X.2.2.2.2.2.1)]) rfl rfl rfl rfl (by decide) [] rfl rfl rfl rfl (Nat.le_of_ble_eq_true rfl) ⟨Nat.zero_le _, Nat.zero_le _⟩ rfl dX3_strike_9 ?_
  generalize er1 : fX3_isIn p0 1 60 = r1
  refine k_if_eq C 25 (by decide) dX3_strike_12 (fun c2 => ?_) (fun c2 => ?_)
  ·
    refine k_aload_n C dX3_strike_25 0 rfl ?_
    refine k_iconst C 1 (by decide) dX3_strike_26 ?_
    refine k_callV_i C (mX3_no l D cI cJ b0 b1 b2 b3 b4 b5 b6 1 (X.1, X.2.1, X.2.2.1, X.2.2.2.1, X.2.2.2.2.1, X.2.2.2.2.2.1, 0, X.2.2.2.2.2.2.2)) (cwV 1 C.2.2.2.2.1 (kGV q640 q642 q33 q61 q643) rfl rfl rfl ⟨rfl, hdX3_no⟩ ⟨Nat.le_of_ble_eq_true rfl, Nat.le_of_ble_eq_true rfl⟩) [0, 1, 2, 3, 4, 5, 6] [] [0, 1, 2, 3, 4, 5, 6] [] (wM cI b0 b1 b2 b3 b4 b5 b6 (fX3_no 1 (X.1, X.2.1, X.2.2.1, X.2.2.2.1, X.2.2.2.2.1, X.2.2.2.2.2.1, 0, X.2.2.2.2.2.2.2)).2) rfl rfl rfl rfl (by decide) [b0, b1, b2, b3, b4, b5, b6] rfl rfl rfl rfl 0 3 rfl rfl rfl (Nat.le_of_ble_eq_true rfl) ⟨Nat.zero_le _, Nat.zero_le _⟩ rfl dX3_strike_27 ?_
    generalize ez3 : fX3_no 1 (X.1, X.2.1, X.2.2.1, X.2.2.2.1, X.2.2.2.2.1, X.2.2.2.2.2.1, 0, X.2.2.2.2.2.2.2) = z3
    have hL : fX3_strike p0 p1 p2 p3 X = (z3.1, z3.2) := by subst ez3; subst er1; exact (if_pos c2).trans rfl
    exact k_iret C rfl (by rw [hL]) (by rw [hL]) dX3_strike_30
  ·
    refine k_iload_n C dX3_strike_15 2 rfl ?_
    refine k_iload_n C dX3_strike_16 3 rfl ?_
    refine k_iload C dX3_strike_17 4 rfl ?_
    refine k_callS_i C (mX3_isStroke l D cI cJ p1 p2 p3) (va_cwS 3 C.2.2.2.2.1 (kGS q634 q635 q61 q636) rfl rfl rfl hdX3_isStroke ⟨Nat.le_of_ble_eq_true rfl, Nat.le_of_ble_eq_true rfl⟩) [] [0, 1, 2, 3, 4, 5, 6] [0, 1, 2, 3, 4, 5, 6] [(b0, cM b1 b2 b3 b4 b5 b6 (0, X.2.2.2.2.2.2.2)), (b1, cA9 cI X.1), (b2, cA2 cI X.2.1), (b3, cA2 cI X.2.2.1), (b4, cA2 cI X.2.2.2.1), (b5, cA2 cI X.2.2.2.2.1), (b6, cA9 cI X.2.2.2.2.2.1)] ([(b0, cM b1 b2 b3 b4 b5 b6 (0, X.2.2.2.2.2.2.2)), (b1, cA9 cI X.1), (b2, cA2 cI X.2.1), (b3, cA2 cI X.2.2.1), (b4, cA2 cI X.2.2.2.1), (b5, cA2 cI X.2.2.2.2.1), (b6, cA9 cI X.2.2.2.2.2.1)]) rfl rfl rfl rfl (by decide) [] rfl rfl rfl rfl (Nat.le_of_ble_eq_true rfl) ⟨Nat.zero_le _, Nat.zero_le _⟩ rfl dX3_strike_19 ?_
    generalize er4 : fX3_isStroke p1 p2 p3 = r4
    refine k_if_ne C 31 (by decide) dX3_strike_22 (fun c5 => ?_) (fun c5 => ?_)
    ·
      refine k_aload_n C dX3_strike_31 0 rfl ?_
      refine k_getX3 C 0 2 rfl (by decide) rfl q572 rfl dX3_strike_32 ?_
      refine k_if_ne C 44 (by decide) dX3_strike_35 (fun c6 => ?_) (fun c6 => ?_)
      ·
        refine k_aload_n C dX3_strike_44 0 rfl ?_
        refine k_iload_n C dX3_strike_45 1 rfl ?_
        refine k_callV_i C (mX3_flyOn l D cI cJ b0 b1 b2 b3 b4 b5 b6 p0 (X.1, X.2.1, X.2.2.1, X.2.2.2.1, X.2.2.2.2.1, X.2.2.2.2.2.1, 0, X.2.2.2.2.2.2.2)) (cwV 1 C.2.2.2.2.1 (kGV q668 q670 q38 q61 q671) rfl rfl rfl ⟨rfl, hdX3_flyOn⟩ ⟨Nat.le_of_ble_eq_true rfl, Nat.le_of_ble_eq_true rfl⟩) [0, 1, 2, 3, 4, 5, 6] [] [0, 1, 2, 3, 4, 5, 6] [] (wM cI b0 b1 b2 b3 b4 b5 b6 (fX3_flyOn p0 (X.1, X.2.1, X.2.2.1, X.2.2.2.1, X.2.2.2.2.1, X.2.2.2.2.2.1, 0, X.2.2.2.2.2.2.2)).2) rfl rfl rfl rfl (by decide) [b0, b1, b2, b3, b4, b5, b6] rfl rfl rfl rfl 0 3 rfl rfl rfl (Nat.le_of_ble_eq_true rfl) ⟨Nat.zero_le _, Nat.zero_le _⟩ rfl dX3_strike_46 ?_
        generalize ez7 : fX3_flyOn p0 (X.1, X.2.1, X.2.2.1, X.2.2.2.1, X.2.2.2.2.1, X.2.2.2.2.2.1, 0, X.2.2.2.2.2.2.2) = z7
        refine k_istore C [(5, .int z7.1), (0, .ref b0), (1, .int p0), (2, .int p1), (3, .int p2), (4, .int p3)] (by decide) rfl dX3_strike_49 ?_
        refine k_iload C dX3_strike_51 0 rfl ?_
        refine k_if_le C 80 (by decide) dX3_strike_53 (fun c8 => ?_) (fun c8 => ?_)
        ·
          refine k_aload_n C dX3_strike_80 1 rfl ?_
          refine k_getX3 C 0 16 rfl (by decide) rfl q586 rfl dX3_strike_81 ?_
          refine k_bipush C 6 (by decide) dX3_strike_84 ?_
          refine k_iald C 6 rfl vi9_6 (ar9_l6 _) dX3_strike_86 ?_
          refine k_if_ne C 96 (by decide) dX3_strike_87 (fun c9 => ?_) (fun c9 => ?_)
          ·
            refine k_aload_n C dX3_strike_96 1 rfl ?_
            refine k_iload_n C dX3_strike_97 3 rfl ?_
            refine k_iload_n C dX3_strike_98 4 rfl ?_
            refine k_iload C dX3_strike_99 5 rfl ?_
            refine k_callV_v C (mX3_hit l D cI cJ b0 b1 b2 b3 b4 b5 b6 p1 p2 p3 z7.2) (cwV 3 C.2.2.2.2.1 (kGV q652 q654 q36 q61 q655) rfl rfl rfl ⟨rfl, hdX3_hit⟩ ⟨Nat.le_of_ble_eq_true rfl, Nat.le_of_ble_eq_true rfl⟩) [0, 1, 2, 3, 4, 5, 6] [] [0, 1, 2, 3, 4, 5, 6] [] (wM cI b0 b1 b2 b3 b4 b5 b6 (fX3_hit p1 p2 p3 z7.2)) rfl rfl rfl rfl (by decide) [b0, b1, b2, b3, b4, b5, b6] rfl rfl rfl rfl 0 3 rfl rfl rfl (Nat.le_of_ble_eq_true rfl) ⟨Nat.zero_le _, Nat.zero_le _⟩ rfl dX3_strike_101 ?_
            generalize ez10 : fX3_hit p1 p2 p3 z7.2 = z10
            refine k_aload_n C dX3_strike_104 1 rfl ?_
            refine k_aload_n C dX3_strike_105 1 rfl ?_
            refine k_getX3 C 0 3 rfl (by decide) rfl q573 rfl dX3_strike_106 ?_
            by_cases c11 : z10.2.2.2.2.2.2.2.2.2.1 = 0
            ·
              refine k_callV_v C (mX3_keepStroke_0 l D cI cJ b0 b1 b2 b3 b4 b5 b6 z10.2.2.2.2.2.2.2.2.2.1 (c11) z10) (cwV 1 C.2.2.2.2.1 (kGV q657 q659 q37 q61 q660) rfl rfl rfl ⟨rfl, hdX3_keepStroke⟩ ⟨Nat.le_of_ble_eq_true rfl, Nat.le_of_ble_eq_true rfl⟩) [0, 1, 2, 3, 4, 5, 6] [] [0, 1, 2, 3, 4, 5, 6] [] (wM cI b0 b1 b2 b3 b4 b5 b6 (fX3_keepStroke_0 z10)) rfl rfl rfl rfl (by decide) [b0, b1, b2, b3, b4, b5, b6] rfl rfl rfl rfl 0 3 rfl rfl rfl (Nat.le_of_ble_eq_true rfl) ⟨Nat.zero_le _, Nat.zero_le _⟩ rfl dX3_strike_109 ?_
              generalize ez12 : fX3_keepStroke_0 z10 = z12
              refine k_iconst C 0 (by decide) dX3_strike_112 ?_
              have hL : fX3_strike p0 p1 p2 p3 X = (0, z12) := by subst ez12; subst ez10; subst ez7; subst er4; subst er1; exact (if_neg c2).trans ((if_neg c5).trans ((if_neg c6).trans ((if_pos c8).trans ((if_neg c9).trans ((if_pos c11).trans rfl)))))
              exact k_iret C rfl (by rw [hL]) (by rw [hL]) dX3_strike_113
            ·
              refine k_callV_v C (mX3_keepStroke_1 l D cI cJ b0 b1 b2 b3 b4 b5 b6 z10.2.2.2.2.2.2.2.2.2.1 ((by subst ez10; subst ez7; subst er4; subst er1; exact hN0 c2 c5 c6 c8 c9 c11)) z10) (cwV 1 C.2.2.2.2.1 (kGV q657 q659 q37 q61 q660) rfl rfl rfl ⟨rfl, hdX3_keepStroke⟩ ⟨Nat.le_of_ble_eq_true rfl, Nat.le_of_ble_eq_true rfl⟩) [0, 1, 2, 3, 4, 5, 6] [] [0, 1, 2, 3, 4, 5, 6] [] (wM cI b0 b1 b2 b3 b4 b5 b6 (fX3_keepStroke_1 z10)) rfl rfl rfl rfl (by decide) [b0, b1, b2, b3, b4, b5, b6] rfl rfl rfl rfl 0 3 rfl rfl rfl (Nat.le_of_ble_eq_true rfl) ⟨Nat.zero_le _, Nat.zero_le _⟩ rfl dX3_strike_109 ?_
              generalize ez13 : fX3_keepStroke_1 z10 = z13
              refine k_iconst C 0 (by decide) dX3_strike_112 ?_
              have hL : fX3_strike p0 p1 p2 p3 X = (0, z13) := by subst ez13; subst ez10; subst ez7; subst er4; subst er1; exact (if_neg c2).trans ((if_neg c5).trans ((if_neg c6).trans ((if_pos c8).trans ((if_neg c9).trans ((if_neg c11).trans rfl)))))
              exact k_iret C rfl (by rw [hL]) (by rw [hL]) dX3_strike_113
          ·
            refine k_aload_n C dX3_strike_90 1 rfl ?_
            refine k_callV_v C (mX3_endByLet l D cI cJ b0 b1 b2 b3 b4 b5 b6 z7.2) (cwV 0 C.2.2.2.2.1 (kGV q707 q709 q46 q61 q710) rfl rfl rfl ⟨rfl, hdX3_endByLet⟩ ⟨Nat.le_of_ble_eq_true rfl, Nat.le_of_ble_eq_true rfl⟩) [0, 1, 2, 3, 4, 5, 6] [] [0, 1, 2, 3, 4, 5, 6] [] (wM cI b0 b1 b2 b3 b4 b5 b6 (fX3_endByLet z7.2)) rfl rfl rfl rfl (by decide) [b0, b1, b2, b3, b4, b5, b6] rfl rfl rfl rfl 0 3 rfl rfl rfl (Nat.le_of_ble_eq_true rfl) ⟨Nat.zero_le _, Nat.zero_le _⟩ rfl dX3_strike_91 ?_
            generalize ez14 : fX3_endByLet z7.2 = z14
            refine k_iconst C 1 (by decide) dX3_strike_94 ?_
            have hL : fX3_strike p0 p1 p2 p3 X = (1, z14) := by subst ez14; subst ez7; subst er4; subst er1; exact (if_neg c2).trans ((if_neg c5).trans ((if_neg c6).trans ((if_pos c8).trans ((if_pos c9).trans rfl))))
            exact k_iret C rfl (by rw [hL]) (by rw [hL]) dX3_strike_95
        ·
          refine k_aload_n C dX3_strike_56 1 rfl ?_
          refine k_iload C dX3_strike_57 0 rfl ?_
          refine k_iconst C 3 (by decide) dX3_strike_59 ?_
          refine k_icmp_ne C 72 (by decide) dX3_strike_60 (fun c15 => ?_) (fun c15 => ?_)
          ·
            refine k_aload_n C dX3_strike_72 1 rfl ?_
            refine k_getX3 C 0 3 rfl (by decide) rfl q573 rfl dX3_strike_73 ?_
            by_cases c16 : z7.2.2.2.2.2.2.2.2.2.2.1 = 0
            ·
              refine k_callV_i C (mX3_win_0 l D cI cJ b0 b1 b2 b3 b4 b5 b6 z7.2.2.2.2.2.2.2.2.2.2.1 (c16) z7.2) (cwV 1 C.2.2.2.2.1 (kGV q699 q701 q44 q61 q702) rfl rfl rfl ⟨rfl, hdX3_win⟩ ⟨Nat.le_of_ble_eq_true rfl, Nat.le_of_ble_eq_true rfl⟩) [0, 1, 2, 3, 4, 5, 6] [] [0, 1, 2, 3, 4, 5, 6] [] (wM cI b0 b1 b2 b3 b4 b5 b6 (fX3_win_0 z7.2).2) rfl rfl rfl rfl (by decide) [b0, b1, b2, b3, b4, b5, b6] rfl rfl rfl rfl 0 3 rfl rfl rfl (Nat.le_of_ble_eq_true rfl) ⟨Nat.zero_le _, Nat.zero_le _⟩ rfl dX3_strike_76 ?_
              generalize ez17 : fX3_win_0 z7.2 = z17
              have hL : fX3_strike p0 p1 p2 p3 X = (z17.1, z17.2) := by subst ez17; subst ez7; subst er4; subst er1; exact (if_neg c2).trans ((if_neg c5).trans ((if_neg c6).trans ((if_neg c8).trans ((if_neg c15).trans ((if_pos c16).trans rfl)))))
              exact k_iret C rfl (by rw [hL]) (by rw [hL]) dX3_strike_79
            ·
              refine k_callV_i C (mX3_win_1 l D cI cJ b0 b1 b2 b3 b4 b5 b6 z7.2.2.2.2.2.2.2.2.2.2.1 ((by subst ez7; subst er4; subst er1; exact hN1 c2 c5 c6 c8 c15 c16)) z7.2) (cwV 1 C.2.2.2.2.1 (kGV q699 q701 q44 q61 q702) rfl rfl rfl ⟨rfl, hdX3_win⟩ ⟨Nat.le_of_ble_eq_true rfl, Nat.le_of_ble_eq_true rfl⟩) [0, 1, 2, 3, 4, 5, 6] [] [0, 1, 2, 3, 4, 5, 6] [] (wM cI b0 b1 b2 b3 b4 b5 b6 (fX3_win_1 z7.2).2) rfl rfl rfl rfl (by decide) [b0, b1, b2, b3, b4, b5, b6] rfl rfl rfl rfl 0 3 rfl rfl rfl (Nat.le_of_ble_eq_true rfl) ⟨Nat.zero_le _, Nat.zero_le _⟩ rfl dX3_strike_76 ?_
              generalize ez18 : fX3_win_1 z7.2 = z18
              have hL : fX3_strike p0 p1 p2 p3 X = (z18.1, z18.2) := by subst ez18; subst ez7; subst er4; subst er1; exact (if_neg c2).trans ((if_neg c5).trans ((if_neg c6).trans ((if_neg c8).trans ((if_neg c15).trans ((if_neg c16).trans rfl)))))
              exact k_iret C rfl (by rw [hL]) (by rw [hL]) dX3_strike_79
          ·
            refine k_iconst C 1 (by decide) dX3_strike_63 ?_
            refine k_aload_n C dX3_strike_64 1 rfl ?_
            refine k_getX3 C 0 3 rfl (by decide) rfl q573 rfl dX3_strike_65 ?_
            refine k_isub C dX3_strike_68 ?_
            refine k_goto C 76 (by decide) dX3_strike_69 ?_
            by_cases c19 : (1 - z7.2.2.2.2.2.2.2.2.2.2.1) = 0
            ·
              refine k_callV_i C (mX3_win_0 l D cI cJ b0 b1 b2 b3 b4 b5 b6 (1 - z7.2.2.2.2.2.2.2.2.2.2.1) (c19) z7.2) (cwV 1 C.2.2.2.2.1 (kGV q699 q701 q44 q61 q702) rfl rfl rfl ⟨rfl, hdX3_win⟩ ⟨Nat.le_of_ble_eq_true rfl, Nat.le_of_ble_eq_true rfl⟩) [0, 1, 2, 3, 4, 5, 6] [] [0, 1, 2, 3, 4, 5, 6] [] (wM cI b0 b1 b2 b3 b4 b5 b6 (fX3_win_0 z7.2).2) rfl rfl rfl rfl (by decide) [b0, b1, b2, b3, b4, b5, b6] rfl rfl rfl rfl 0 3 rfl rfl rfl (Nat.le_of_ble_eq_true rfl) ⟨Nat.zero_le _, Nat.zero_le _⟩ rfl dX3_strike_76 ?_
              generalize ez20 : fX3_win_0 z7.2 = z20
              have hL : fX3_strike p0 p1 p2 p3 X = (z20.1, z20.2) := by subst ez20; subst ez7; subst er4; subst er1; exact (if_neg c2).trans ((if_neg c5).trans ((if_neg c6).trans ((if_neg c8).trans ((if_pos c15).trans ((if_pos c19).trans rfl)))))
              exact k_iret C rfl (by rw [hL]) (by rw [hL]) dX3_strike_79
            ·
              refine k_callV_i C (mX3_win_1 l D cI cJ b0 b1 b2 b3 b4 b5 b6 (1 - z7.2.2.2.2.2.2.2.2.2.2.1) ((by subst ez7; subst er4; subst er1; exact hN2 c2 c5 c6 c8 c15 c19)) z7.2) (cwV 1 C.2.2.2.2.1 (kGV q699 q701 q44 q61 q702) rfl rfl rfl ⟨rfl, hdX3_win⟩ ⟨Nat.le_of_ble_eq_true rfl, Nat.le_of_ble_eq_true rfl⟩) [0, 1, 2, 3, 4, 5, 6] [] [0, 1, 2, 3, 4, 5, 6] [] (wM cI b0 b1 b2 b3 b4 b5 b6 (fX3_win_1 z7.2).2) rfl rfl rfl rfl (by decide) [b0, b1, b2, b3, b4, b5, b6] rfl rfl rfl rfl 0 3 rfl rfl rfl (Nat.le_of_ble_eq_true rfl) ⟨Nat.zero_le _, Nat.zero_le _⟩ rfl dX3_strike_76 ?_
              generalize ez21 : fX3_win_1 z7.2 = z21
              have hL : fX3_strike p0 p1 p2 p3 X = (z21.1, z21.2) := by subst ez21; subst ez7; subst er4; subst er1; exact (if_neg c2).trans ((if_neg c5).trans ((if_neg c6).trans ((if_neg c8).trans ((if_pos c15).trans ((if_neg c19).trans rfl)))))
              exact k_iret C rfl (by rw [hL]) (by rw [hL]) dX3_strike_79
      ·
        refine k_aload_n C dX3_strike_38 0 rfl ?_
        refine k_iconst C 2 (by decide) dX3_strike_39 ?_
        refine k_callV_i C (mX3_no l D cI cJ b0 b1 b2 b3 b4 b5 b6 2 (X.1, X.2.1, X.2.2.1, X.2.2.2.1, X.2.2.2.2.1, X.2.2.2.2.2.1, 0, X.2.2.2.2.2.2.2)) (cwV 1 C.2.2.2.2.1 (kGV q640 q642 q33 q61 q643) rfl rfl rfl ⟨rfl, hdX3_no⟩ ⟨Nat.le_of_ble_eq_true rfl, Nat.le_of_ble_eq_true rfl⟩) [0, 1, 2, 3, 4, 5, 6] [] [0, 1, 2, 3, 4, 5, 6] [] (wM cI b0 b1 b2 b3 b4 b5 b6 (fX3_no 2 (X.1, X.2.1, X.2.2.1, X.2.2.2.1, X.2.2.2.2.1, X.2.2.2.2.2.1, 0, X.2.2.2.2.2.2.2)).2) rfl rfl rfl rfl (by decide) [b0, b1, b2, b3, b4, b5, b6] rfl rfl rfl rfl 0 3 rfl rfl rfl (Nat.le_of_ble_eq_true rfl) ⟨Nat.zero_le _, Nat.zero_le _⟩ rfl dX3_strike_40 ?_
        generalize ez22 : fX3_no 2 (X.1, X.2.1, X.2.2.1, X.2.2.2.1, X.2.2.2.2.1, X.2.2.2.2.2.1, 0, X.2.2.2.2.2.2.2) = z22
        have hL : fX3_strike p0 p1 p2 p3 X = (z22.1, z22.2) := by subst ez22; subst er4; subst er1; exact (if_neg c2).trans ((if_neg c5).trans ((if_pos c6).trans rfl))
        exact k_iret C rfl (by rw [hL]) (by rw [hL]) dX3_strike_43
    ·
      refine k_aload_n C dX3_strike_25 0 rfl ?_
      refine k_iconst C 1 (by decide) dX3_strike_26 ?_
      refine k_callV_i C (mX3_no l D cI cJ b0 b1 b2 b3 b4 b5 b6 1 (X.1, X.2.1, X.2.2.1, X.2.2.2.1, X.2.2.2.2.1, X.2.2.2.2.2.1, 0, X.2.2.2.2.2.2.2)) (cwV 1 C.2.2.2.2.1 (kGV q640 q642 q33 q61 q643) rfl rfl rfl ⟨rfl, hdX3_no⟩ ⟨Nat.le_of_ble_eq_true rfl, Nat.le_of_ble_eq_true rfl⟩) [0, 1, 2, 3, 4, 5, 6] [] [0, 1, 2, 3, 4, 5, 6] [] (wM cI b0 b1 b2 b3 b4 b5 b6 (fX3_no 1 (X.1, X.2.1, X.2.2.1, X.2.2.2.1, X.2.2.2.2.1, X.2.2.2.2.2.1, 0, X.2.2.2.2.2.2.2)).2) rfl rfl rfl rfl (by decide) [b0, b1, b2, b3, b4, b5, b6] rfl rfl rfl rfl 0 3 rfl rfl rfl (Nat.le_of_ble_eq_true rfl) ⟨Nat.zero_le _, Nat.zero_le _⟩ rfl dX3_strike_27 ?_
      generalize ez23 : fX3_no 1 (X.1, X.2.1, X.2.2.1, X.2.2.2.1, X.2.2.2.2.1, X.2.2.2.2.2.1, 0, X.2.2.2.2.2.2.2) = z23
      have hL : fX3_strike p0 p1 p2 p3 X = (z23.1, z23.2) := by subst ez23; subst er4; subst er1; exact (if_neg c2).trans ((if_pos c5).trans rfl)
      exact k_iret C rfl (by rw [hL]) (by rw [hL]) dX3_strike_30

theorem hdX3_leave : yX3_leave.cls ≠ "java/lang/invoke/MethodHandle" ∧ yX3_leave.cls ≠ "java/lang/invoke/VarHandle" ∧ (parseMethodDescriptor yX3_leave.desc).map (fun d => d.parameters.length) = some 0 := by decide +kernel
noncomputable def fX3_leave (X : Mo) : Int32 × Mo :=
  if X.2.2.2.2.2.2.2.2.1 = 0 then ((fX3_no 1 (X.1, X.2.1, X.2.2.1, X.2.2.2.1, X.2.2.2.2.1, X.2.2.2.2.2.1, 0, X.2.2.2.2.2.2.2)).1, (fX3_no 1 (X.1, X.2.1, X.2.2.1, X.2.2.2.1, X.2.2.2.2.1, X.2.2.2.2.2.1, 0, X.2.2.2.2.2.2.2)).2)
  else (if (fX3_fullFlight (X.1, X.2.1, X.2.2.1, X.2.2.2.1, X.2.2.2.2.1, X.2.2.2.2.2.1, 0, X.2.2.2.2.2.2.2)).1 = 3 then (if (1 - (fX3_fullFlight (X.1, X.2.1, X.2.2.1, X.2.2.2.1, X.2.2.2.2.1, X.2.2.2.2.2.1, 0, X.2.2.2.2.2.2.2)).2.2.2.2.2.2.2.2.2.2.1) = 0 then ((fX3_win_0 (fX3_fullFlight (X.1, X.2.1, X.2.2.1, X.2.2.2.1, X.2.2.2.2.1, X.2.2.2.2.2.1, 0, X.2.2.2.2.2.2.2)).2).1, (fX3_win_0 (fX3_fullFlight (X.1, X.2.1, X.2.2.1, X.2.2.2.1, X.2.2.2.2.1, X.2.2.2.2.2.1, 0, X.2.2.2.2.2.2.2)).2).2)
      else ((fX3_win_1 (fX3_fullFlight (X.1, X.2.1, X.2.2.1, X.2.2.2.1, X.2.2.2.2.1, X.2.2.2.2.2.1, 0, X.2.2.2.2.2.2.2)).2).1, (fX3_win_1 (fX3_fullFlight (X.1, X.2.1, X.2.2.1, X.2.2.2.1, X.2.2.2.2.1, X.2.2.2.2.2.1, 0, X.2.2.2.2.2.2.2)).2).2))
    else (if (fX3_fullFlight (X.1, X.2.1, X.2.2.1, X.2.2.2.1, X.2.2.2.2.1, X.2.2.2.2.2.1, 0, X.2.2.2.2.2.2.2)).2.2.2.2.2.2.2.2.2.2.1 = 0 then ((fX3_win_0 (fX3_fullFlight (X.1, X.2.1, X.2.2.1, X.2.2.2.1, X.2.2.2.2.1, X.2.2.2.2.2.1, 0, X.2.2.2.2.2.2.2)).2).1, (fX3_win_0 (fX3_fullFlight (X.1, X.2.1, X.2.2.1, X.2.2.2.1, X.2.2.2.2.1, X.2.2.2.2.2.1, 0, X.2.2.2.2.2.2.2)).2).2)
      else ((fX3_win_1 (fX3_fullFlight (X.1, X.2.1, X.2.2.1, X.2.2.2.1, X.2.2.2.2.1, X.2.2.2.2.2.1, 0, X.2.2.2.2.2.2.2)).2).1, (fX3_win_1 (fX3_fullFlight (X.1, X.2.1, X.2.2.1, X.2.2.2.1, X.2.2.2.2.1, X.2.2.2.2.2.1, 0, X.2.2.2.2.2.2.2)).2).2)))
def NX3_leave (X : Mo) : Prop := ((¬ X.2.2.2.2.2.2.2.2.1 = 0) → (NX3_fullFlight (X.1, X.2.1, X.2.2.1, X.2.2.2.1, X.2.2.2.2.1, X.2.2.2.2.2.1, 0, X.2.2.2.2.2.2.2))) ∧ ((¬ X.2.2.2.2.2.2.2.2.1 = 0) → (¬ (fX3_fullFlight (X.1, X.2.1, X.2.2.1, X.2.2.2.1, X.2.2.2.2.1, X.2.2.2.2.2.1, 0, X.2.2.2.2.2.2.2)).1 = 3) → (¬ (fX3_fullFlight (X.1, X.2.1, X.2.2.1, X.2.2.2.1, X.2.2.2.2.1, X.2.2.2.2.2.1, 0, X.2.2.2.2.2.2.2)).2.2.2.2.2.2.2.2.2.2.1 = 0) → ((fX3_fullFlight (X.1, X.2.1, X.2.2.1, X.2.2.2.1, X.2.2.2.2.1, X.2.2.2.2.2.1, 0, X.2.2.2.2.2.2.2)).2.2.2.2.2.2.2.2.2.2.1 = 1)) ∧ ((¬ X.2.2.2.2.2.2.2.2.1 = 0) → ((fX3_fullFlight (X.1, X.2.1, X.2.2.1, X.2.2.2.1, X.2.2.2.2.1, X.2.2.2.2.2.1, 0, X.2.2.2.2.2.2.2)).1 = 3) → (¬ (1 - (fX3_fullFlight (X.1, X.2.1, X.2.2.1, X.2.2.2.1, X.2.2.2.2.1, X.2.2.2.2.2.1, 0, X.2.2.2.2.2.2.2)).2.2.2.2.2.2.2.2.2.2.1) = 0) → ((1 - (fX3_fullFlight (X.1, X.2.1, X.2.2.1, X.2.2.2.1, X.2.2.2.2.1, X.2.2.2.2.2.1, 0, X.2.2.2.2.2.2.2)).2.2.2.2.2.2.2.2.2.2.1) = 1))
set_option maxHeartbeats 4000000 in
set_option maxRecDepth 100000 in
theorem mX3_leave (l : Launch) (D : va_G) (cI cJ : ClassId) (b0 b1 b2 b3 b4 b5 b6 : Nat) (X : Mo) (hN : ((¬ X.2.2.2.2.2.2.2.2.1 = 0) → (NX3_fullFlight (X.1, X.2.1, X.2.2.1, X.2.2.2.1, X.2.2.2.2.1, X.2.2.2.2.2.1, 0, X.2.2.2.2.2.2.2))) ∧ ((¬ X.2.2.2.2.2.2.2.2.1 = 0) → (¬ (fX3_fullFlight (X.1, X.2.1, X.2.2.1, X.2.2.2.1, X.2.2.2.2.1, X.2.2.2.2.2.1, 0, X.2.2.2.2.2.2.2)).1 = 3) → (¬ (fX3_fullFlight (X.1, X.2.1, X.2.2.1, X.2.2.2.1, X.2.2.2.2.1, X.2.2.2.2.2.1, 0, X.2.2.2.2.2.2.2)).2.2.2.2.2.2.2.2.2.2.1 = 0) → ((fX3_fullFlight (X.1, X.2.1, X.2.2.1, X.2.2.2.1, X.2.2.2.2.1, X.2.2.2.2.2.1, 0, X.2.2.2.2.2.2.2)).2.2.2.2.2.2.2.2.2.2.1 = 1)) ∧ ((¬ X.2.2.2.2.2.2.2.2.1 = 0) → ((fX3_fullFlight (X.1, X.2.1, X.2.2.1, X.2.2.2.1, X.2.2.2.2.1, X.2.2.2.2.2.1, 0, X.2.2.2.2.2.2.2)).1 = 3) → (¬ (1 - (fX3_fullFlight (X.1, X.2.1, X.2.2.1, X.2.2.2.1, X.2.2.2.2.1, X.2.2.2.2.2.1, 0, X.2.2.2.2.2.2.2)).2.2.2.2.2.2.2.2.2.2.1) = 0) → ((1 - (fX3_fullFlight (X.1, X.2.1, X.2.2.1, X.2.2.2.1, X.2.2.2.2.1, X.2.2.2.2.2.1, 0, X.2.2.2.2.2.2.2)).2.2.2.2.2.2.2.2.2.2.1) = 1)))  : kCi l D cI cJ yX3_leave (.code yX3_leave cX3_leave 1 (some .int)) { frames := 6, cells := 0, slots := 0, locals := 128 } [.ref b0] (wM cI b0 b1 b2 b3 b4 b5 b6 X) (fX3_leave X).1 (wM cI b0 b1 b2 b3 b4 b5 b6 (fX3_leave X).2) := by
  have hN0 := hN.1
  have hN1 := hN.2.1
  have hN2 := hN.2.2
  refine fun sz => k_of (lv := [(0, .ref b0)]) (by decide) sz (by exact Nat.le_of_ble_eq_true rfl) rfl ?_
  intro p e s m args below meth c hsz C
  refine k_aload_n C dX3_leave_0 0 rfl ?_
  refine k_iconst C 0 (by decide) dX3_leave_1 ?_
  refine k_putX3 C [(b0, cM b1 b2 b3 b4 b5 b6 (0, X.2.2.2.2.2.2.2)), (b1, cA9 cI X.1), (b2, cA2 cI X.2.1), (b3, cA2 cI X.2.2.1), (b4, cA2 cI X.2.2.2.1), (b5, cA2 cI X.2.2.2.2.1), (b6, cA9 cI X.2.2.2.2.2.1)] 0 0 rfl rfl (by decide) q570 rfl rfl fdI rfl rfl (Nat.le_of_ble_eq_true rfl) dX3_leave_2 ?_
  refine k_aload_n C dX3_leave_5 0 rfl ?_
  refine k_getX3 C 0 2 rfl (by decide) rfl q572 rfl dX3_leave_6 ?_
  refine k_if_ne C 18 (by decide) dX3_leave_9 (fun c1 => ?_) (fun c1 => ?_)
  ·
    refine k_aload_n C dX3_leave_18 0 rfl ?_
    refine k_aload_n C dX3_leave_19 0 rfl ?_
    refine k_callV_i C (mX3_fullFlight l D cI cJ b0 b1 b2 b3 b4 b5 b6 (X.1, X.2.1, X.2.2.1, X.2.2.2.1, X.2.2.2.2.1, X.2.2.2.2.2.1, 0, X.2.2.2.2.2.2.2) (by exact hN0 c1)) (cwV 0 C.2.2.2.2.1 (kGV q715 q717 q47 q61 q718) rfl rfl rfl ⟨rfl, hdX3_fullFlight⟩ ⟨Nat.le_of_ble_eq_true rfl, Nat.le_of_ble_eq_true rfl⟩) [0, 1, 2, 3, 4, 5, 6] [] [0, 1, 2, 3, 4, 5, 6] [] (wM cI b0 b1 b2 b3 b4 b5 b6 (fX3_fullFlight (X.1, X.2.1, X.2.2.1, X.2.2.2.1, X.2.2.2.2.1, X.2.2.2.2.2.1, 0, X.2.2.2.2.2.2.2)).2) rfl rfl rfl rfl (by decide) [b0, b1, b2, b3, b4, b5, b6] rfl rfl rfl rfl 0 3 rfl rfl rfl (Nat.le_of_ble_eq_true rfl) ⟨Nat.zero_le _, Nat.zero_le _⟩ rfl dX3_leave_20 ?_
    generalize ez2 : fX3_fullFlight (X.1, X.2.1, X.2.2.1, X.2.2.2.1, X.2.2.2.2.1, X.2.2.2.2.2.1, 0, X.2.2.2.2.2.2.2) = z2
    refine k_iconst C 3 (by decide) dX3_leave_23 ?_
    refine k_icmp_ne C 36 (by decide) dX3_leave_24 (fun c3 => ?_) (fun c3 => ?_)
    ·
      refine k_aload_n C dX3_leave_36 0 rfl ?_
      refine k_getX3 C 0 3 rfl (by decide) rfl q573 rfl dX3_leave_37 ?_
      by_cases c4 : z2.2.2.2.2.2.2.2.2.2.2.1 = 0
      ·
        refine k_callV_i C (mX3_win_0 l D cI cJ b0 b1 b2 b3 b4 b5 b6 z2.2.2.2.2.2.2.2.2.2.2.1 (c4) z2.2) (cwV 1 C.2.2.2.2.1 (kGV q699 q701 q44 q61 q702) rfl rfl rfl ⟨rfl, hdX3_win⟩ ⟨Nat.le_of_ble_eq_true rfl, Nat.le_of_ble_eq_true rfl⟩) [0, 1, 2, 3, 4, 5, 6] [] [0, 1, 2, 3, 4, 5, 6] [] (wM cI b0 b1 b2 b3 b4 b5 b6 (fX3_win_0 z2.2).2) rfl rfl rfl rfl (by decide) [b0, b1, b2, b3, b4, b5, b6] rfl rfl rfl rfl 0 3 rfl rfl rfl (Nat.le_of_ble_eq_true rfl) ⟨Nat.zero_le _, Nat.zero_le _⟩ rfl dX3_leave_40 ?_
        generalize ez5 : fX3_win_0 z2.2 = z5
        have hL : fX3_leave X = (z5.1, z5.2) := by subst ez5; subst ez2; exact (if_neg c1).trans ((if_neg c3).trans ((if_pos c4).trans rfl))
        exact k_iret C rfl (by rw [hL]) (by rw [hL]) dX3_leave_43
      ·
        refine k_callV_i C (mX3_win_1 l D cI cJ b0 b1 b2 b3 b4 b5 b6 z2.2.2.2.2.2.2.2.2.2.2.1 ((by subst ez2; exact hN1 c1 c3 c4)) z2.2) (cwV 1 C.2.2.2.2.1 (kGV q699 q701 q44 q61 q702) rfl rfl rfl ⟨rfl, hdX3_win⟩ ⟨Nat.le_of_ble_eq_true rfl, Nat.le_of_ble_eq_true rfl⟩) [0, 1, 2, 3, 4, 5, 6] [] [0, 1, 2, 3, 4, 5, 6] [] (wM cI b0 b1 b2 b3 b4 b5 b6 (fX3_win_1 z2.2).2) rfl rfl rfl rfl (by decide) [b0, b1, b2, b3, b4, b5, b6] rfl rfl rfl rfl 0 3 rfl rfl rfl (Nat.le_of_ble_eq_true rfl) ⟨Nat.zero_le _, Nat.zero_le _⟩ rfl dX3_leave_40 ?_
        generalize ez6 : fX3_win_1 z2.2 = z6
        have hL : fX3_leave X = (z6.1, z6.2) := by subst ez6; subst ez2; exact (if_neg c1).trans ((if_neg c3).trans ((if_neg c4).trans rfl))
        exact k_iret C rfl (by rw [hL]) (by rw [hL]) dX3_leave_43
    ·
      refine k_iconst C 1 (by decide) dX3_leave_27 ?_
      refine k_aload_n C dX3_leave_28 0 rfl ?_
      refine k_getX3 C 0 3 rfl (by decide) rfl q573 rfl dX3_leave_29 ?_
      refine k_isub C dX3_leave_32 ?_
      refine k_goto C 40 (by decide) dX3_leave_33 ?_
      by_cases c7 : (1 - z2.2.2.2.2.2.2.2.2.2.2.1) = 0
      ·
        refine k_callV_i C (mX3_win_0 l D cI cJ b0 b1 b2 b3 b4 b5 b6 (1 - z2.2.2.2.2.2.2.2.2.2.2.1) (c7) z2.2) (cwV 1 C.2.2.2.2.1 (kGV q699 q701 q44 q61 q702) rfl rfl rfl ⟨rfl, hdX3_win⟩ ⟨Nat.le_of_ble_eq_true rfl, Nat.le_of_ble_eq_true rfl⟩) [0, 1, 2, 3, 4, 5, 6] [] [0, 1, 2, 3, 4, 5, 6] [] (wM cI b0 b1 b2 b3 b4 b5 b6 (fX3_win_0 z2.2).2) rfl rfl rfl rfl (by decide) [b0, b1, b2, b3, b4, b5, b6] rfl rfl rfl rfl 0 3 rfl rfl rfl (Nat.le_of_ble_eq_true rfl) ⟨Nat.zero_le _, Nat.zero_le _⟩ rfl dX3_leave_40 ?_
        generalize ez8 : fX3_win_0 z2.2 = z8
        have hL : fX3_leave X = (z8.1, z8.2) := by subst ez8; subst ez2; exact (if_neg c1).trans ((if_pos c3).trans ((if_pos c7).trans rfl))
        exact k_iret C rfl (by rw [hL]) (by rw [hL]) dX3_leave_43
      ·
        refine k_callV_i C (mX3_win_1 l D cI cJ b0 b1 b2 b3 b4 b5 b6 (1 - z2.2.2.2.2.2.2.2.2.2.2.1) ((by subst ez2; exact hN2 c1 c3 c7)) z2.2) (cwV 1 C.2.2.2.2.1 (kGV q699 q701 q44 q61 q702) rfl rfl rfl ⟨rfl, hdX3_win⟩ ⟨Nat.le_of_ble_eq_true rfl, Nat.le_of_ble_eq_true rfl⟩) [0, 1, 2, 3, 4, 5, 6] [] [0, 1, 2, 3, 4, 5, 6] [] (wM cI b0 b1 b2 b3 b4 b5 b6 (fX3_win_1 z2.2).2) rfl rfl rfl rfl (by decide) [b0, b1, b2, b3, b4, b5, b6] rfl rfl rfl rfl 0 3 rfl rfl rfl (Nat.le_of_ble_eq_true rfl) ⟨Nat.zero_le _, Nat.zero_le _⟩ rfl dX3_leave_40 ?_
        generalize ez9 : fX3_win_1 z2.2 = z9
        have hL : fX3_leave X = (z9.1, z9.2) := by subst ez9; subst ez2; exact (if_neg c1).trans ((if_pos c3).trans ((if_neg c7).trans rfl))
        exact k_iret C rfl (by rw [hL]) (by rw [hL]) dX3_leave_43
  ·
    refine k_aload_n C dX3_leave_12 0 rfl ?_
    refine k_iconst C 1 (by decide) dX3_leave_13 ?_
    refine k_callV_i C (mX3_no l D cI cJ b0 b1 b2 b3 b4 b5 b6 1 (X.1, X.2.1, X.2.2.1, X.2.2.2.1, X.2.2.2.2.1, X.2.2.2.2.2.1, 0, X.2.2.2.2.2.2.2)) (cwV 1 C.2.2.2.2.1 (kGV q640 q642 q33 q61 q643) rfl rfl rfl ⟨rfl, hdX3_no⟩ ⟨Nat.le_of_ble_eq_true rfl, Nat.le_of_ble_eq_true rfl⟩) [0, 1, 2, 3, 4, 5, 6] [] [0, 1, 2, 3, 4, 5, 6] [] (wM cI b0 b1 b2 b3 b4 b5 b6 (fX3_no 1 (X.1, X.2.1, X.2.2.1, X.2.2.2.1, X.2.2.2.2.1, X.2.2.2.2.2.1, 0, X.2.2.2.2.2.2.2)).2) rfl rfl rfl rfl (by decide) [b0, b1, b2, b3, b4, b5, b6] rfl rfl rfl rfl 0 3 rfl rfl rfl (Nat.le_of_ble_eq_true rfl) ⟨Nat.zero_le _, Nat.zero_le _⟩ rfl dX3_leave_14 ?_
    generalize ez10 : fX3_no 1 (X.1, X.2.1, X.2.2.1, X.2.2.2.1, X.2.2.2.2.1, X.2.2.2.2.2.1, 0, X.2.2.2.2.2.2.2) = z10
    have hL : fX3_leave X = (z10.1, z10.2) := by subst ez10; exact (if_pos c1).trans rfl
    exact k_iret C rfl (by rw [hL]) (by rw [hL]) dX3_leave_17

theorem hdX3_let : yX3_let.cls ≠ "java/lang/invoke/MethodHandle" ∧ yX3_let.cls ≠ "java/lang/invoke/VarHandle" ∧ (parseMethodDescriptor yX3_let.desc).map (fun d => d.parameters.length) = some 0 := by decide +kernel
noncomputable def fX3_let (X : Mo) : Int32 × Mo :=
  if X.2.2.2.2.2.2.2.2.1 = 0 then ((fX3_no 1 (X.1, X.2.1, X.2.2.1, X.2.2.2.1, X.2.2.2.2.1, X.2.2.2.2.2.1, 0, X.2.2.2.2.2.2.2)).1, (fX3_no 1 (X.1, X.2.1, X.2.2.1, X.2.2.2.1, X.2.2.2.2.1, X.2.2.2.2.2.1, 0, X.2.2.2.2.2.2.2)).2)
  else ((fX3_endByLet (X.1, X.2.1, X.2.2.1, X.2.2.2.1, X.2.2.2.2.1, X.2.2.2.2.2.1, 0, X.2.2.2.2.2.2.2)).2.2.2.2.2.2.2.2.2.2.1, (fX3_endByLet (X.1, X.2.1, X.2.2.1, X.2.2.2.1, X.2.2.2.2.1, X.2.2.2.2.2.1, 0, X.2.2.2.2.2.2.2)))
set_option maxHeartbeats 4000000 in
set_option maxRecDepth 100000 in
theorem mX3_let (l : Launch) (D : va_G) (cI cJ : ClassId) (b0 b1 b2 b3 b4 b5 b6 : Nat) (X : Mo)  : kCi l D cI cJ yX3_let (.code yX3_let cX3_let 1 (some .int)) { frames := 1, cells := 0, slots := 0, locals := 21 } [.ref b0] (wM cI b0 b1 b2 b3 b4 b5 b6 X) (fX3_let X).1 (wM cI b0 b1 b2 b3 b4 b5 b6 (fX3_let X).2) := by
  refine fun sz => k_of (lv := [(0, .ref b0)]) (by decide) sz (by exact Nat.le_of_ble_eq_true rfl) rfl ?_
  intro p e s m args below meth c hsz C
  refine k_aload_n C dX3_let_0 0 rfl ?_
  refine k_iconst C 0 (by decide) dX3_let_1 ?_
  refine k_putX3 C [(b0, cM b1 b2 b3 b4 b5 b6 (0, X.2.2.2.2.2.2.2)), (b1, cA9 cI X.1), (b2, cA2 cI X.2.1), (b3, cA2 cI X.2.2.1), (b4, cA2 cI X.2.2.2.1), (b5, cA2 cI X.2.2.2.2.1), (b6, cA9 cI X.2.2.2.2.2.1)] 0 0 rfl rfl (by decide) q570 rfl rfl fdI rfl rfl (Nat.le_of_ble_eq_true rfl) dX3_let_2 ?_
  refine k_aload_n C dX3_let_5 0 rfl ?_
  refine k_getX3 C 0 2 rfl (by decide) rfl q572 rfl dX3_let_6 ?_
  refine k_if_ne C 18 (by decide) dX3_let_9 (fun c1 => ?_) (fun c1 => ?_)
  ·
    refine k_aload_n C dX3_let_18 0 rfl ?_
    refine k_callV_v C (mX3_endByLet l D cI cJ b0 b1 b2 b3 b4 b5 b6 (X.1, X.2.1, X.2.2.1, X.2.2.2.1, X.2.2.2.2.1, X.2.2.2.2.2.1, 0, X.2.2.2.2.2.2.2)) (cwV 0 C.2.2.2.2.1 (kGV q707 q709 q46 q61 q710) rfl rfl rfl ⟨rfl, hdX3_endByLet⟩ ⟨Nat.le_of_ble_eq_true rfl, Nat.le_of_ble_eq_true rfl⟩) [0, 1, 2, 3, 4, 5, 6] [] [0, 1, 2, 3, 4, 5, 6] [] (wM cI b0 b1 b2 b3 b4 b5 b6 (fX3_endByLet (X.1, X.2.1, X.2.2.1, X.2.2.2.1, X.2.2.2.2.1, X.2.2.2.2.2.1, 0, X.2.2.2.2.2.2.2))) rfl rfl rfl rfl (by decide) [b0, b1, b2, b3, b4, b5, b6] rfl rfl rfl rfl 0 3 rfl rfl rfl (Nat.le_of_ble_eq_true rfl) ⟨Nat.zero_le _, Nat.zero_le _⟩ rfl dX3_let_19 ?_
    generalize ez2 : fX3_endByLet (X.1, X.2.1, X.2.2.1, X.2.2.2.1, X.2.2.2.2.1, X.2.2.2.2.2.1, 0, X.2.2.2.2.2.2.2) = z2
    refine k_aload_n C dX3_let_22 0 rfl ?_
    refine k_getX3 C 0 4 rfl (by decide) rfl q574 rfl dX3_let_23 ?_
    have hL : fX3_let X = (z2.2.2.2.2.2.2.2.2.2.2.1, z2) := by subst ez2; exact (if_neg c1).trans rfl
    exact k_iret C rfl (by rw [hL]) (by rw [hL]) dX3_let_26
  ·
    refine k_aload_n C dX3_let_12 0 rfl ?_
    refine k_iconst C 1 (by decide) dX3_let_13 ?_
    refine k_callV_i C (mX3_no l D cI cJ b0 b1 b2 b3 b4 b5 b6 1 (X.1, X.2.1, X.2.2.1, X.2.2.2.1, X.2.2.2.2.1, X.2.2.2.2.2.1, 0, X.2.2.2.2.2.2.2)) (cwV 1 C.2.2.2.2.1 (kGV q640 q642 q33 q61 q643) rfl rfl rfl ⟨rfl, hdX3_no⟩ ⟨Nat.le_of_ble_eq_true rfl, Nat.le_of_ble_eq_true rfl⟩) [0, 1, 2, 3, 4, 5, 6] [] [0, 1, 2, 3, 4, 5, 6] [] (wM cI b0 b1 b2 b3 b4 b5 b6 (fX3_no 1 (X.1, X.2.1, X.2.2.1, X.2.2.2.1, X.2.2.2.2.1, X.2.2.2.2.2.1, 0, X.2.2.2.2.2.2.2)).2) rfl rfl rfl rfl (by decide) [b0, b1, b2, b3, b4, b5, b6] rfl rfl rfl rfl 0 3 rfl rfl rfl (Nat.le_of_ble_eq_true rfl) ⟨Nat.zero_le _, Nat.zero_le _⟩ rfl dX3_let_14 ?_
    generalize ez3 : fX3_no 1 (X.1, X.2.1, X.2.2.1, X.2.2.2.1, X.2.2.2.2.1, X.2.2.2.2.2.1, 0, X.2.2.2.2.2.2.2) = z3
    have hL : fX3_let X = (z3.1, z3.2) := by subst ez3; exact (if_pos c1).trans rfl
    exact k_iret C rfl (by rw [hL]) (by rw [hL]) dX3_let_17

theorem hdX3_set : yX3_set.cls ≠ "java/lang/invoke/MethodHandle" ∧ yX3_set.cls ≠ "java/lang/invoke/VarHandle" ∧ (parseMethodDescriptor yX3_set.desc).map (fun d => d.parameters.length) = some 1 := by decide +kernel
noncomputable def fX3_set (p0 : Int32) (X : Mo) : Int32 × Mo :=
  if p0 = 3 then (if (fX3_canSet (X.1, X.2.1, X.2.2.1, X.2.2.2.1, X.2.2.2.2.1, X.2.2.2.2.2.1, 0, X.2.2.2.2.2.2.2)) = 0 then ((fX3_no 2 (X.1, X.2.1, X.2.2.1, X.2.2.2.1, X.2.2.2.2.1, X.2.2.2.2.2.1, 0, X.2.2.2.2.2.2.2)).1, (fX3_no 2 (X.1, X.2.1, X.2.2.1, X.2.2.2.1, X.2.2.2.2.1, X.2.2.2.2.2.1, 0, X.2.2.2.2.2.2.2)).2)
    else ((X.2.1.1 + p0), (X.1, X.2.1, X.2.2.1, X.2.2.2.1, X.2.2.2.2.1, X.2.2.2.2.2.1, 0, X.2.2.2.2.2.2.2.1, X.2.2.2.2.2.2.2.2.1, X.2.2.2.2.2.2.2.2.2.1, X.2.2.2.2.2.2.2.2.2.2.1, X.2.2.2.2.2.2.2.2.2.2.2.1, X.2.2.2.2.2.2.2.2.2.2.2.2.1, X.2.2.2.2.2.2.2.2.2.2.2.2.2.1, (X.2.1.1 + p0), 1, X.2.2.2.2.2.2.2.2.2.2.2.2.2.2.2.2)))
  else (if p0 = 5 then (if (fX3_canSet (X.1, X.2.1, X.2.2.1, X.2.2.2.1, X.2.2.2.2.1, X.2.2.2.2.2.1, 0, X.2.2.2.2.2.2.2)) = 0 then ((fX3_no 2 (X.1, X.2.1, X.2.2.1, X.2.2.2.1, X.2.2.2.2.1, X.2.2.2.2.2.1, 0, X.2.2.2.2.2.2.2)).1, (fX3_no 2 (X.1, X.2.1, X.2.2.1, X.2.2.2.1, X.2.2.2.2.1, X.2.2.2.2.2.1, 0, X.2.2.2.2.2.2.2)).2)
      else ((X.2.1.1 + p0), (X.1, X.2.1, X.2.2.1, X.2.2.2.1, X.2.2.2.2.1, X.2.2.2.2.2.1, 0, X.2.2.2.2.2.2.2.1, X.2.2.2.2.2.2.2.2.1, X.2.2.2.2.2.2.2.2.2.1, X.2.2.2.2.2.2.2.2.2.2.1, X.2.2.2.2.2.2.2.2.2.2.2.1, X.2.2.2.2.2.2.2.2.2.2.2.2.1, X.2.2.2.2.2.2.2.2.2.2.2.2.2.1, (X.2.1.1 + p0), 1, X.2.2.2.2.2.2.2.2.2.2.2.2.2.2.2.2)))
    else ((fX3_no 1 (X.1, X.2.1, X.2.2.1, X.2.2.2.1, X.2.2.2.2.1, X.2.2.2.2.2.1, 0, X.2.2.2.2.2.2.2)).1, (fX3_no 1 (X.1, X.2.1, X.2.2.1, X.2.2.2.1, X.2.2.2.2.1, X.2.2.2.2.2.1, 0, X.2.2.2.2.2.2.2)).2))
set_option maxHeartbeats 4000000 in
set_option maxRecDepth 100000 in
theorem mX3_set (l : Launch) (D : va_G) (cI cJ : ClassId) (b0 b1 b2 b3 b4 b5 b6 : Nat) (p0 : Int32) (X : Mo)  : kCi l D cI cJ yX3_set (.code yX3_set cX3_set 2 (some .int)) { frames := 2, cells := 0, slots := 0, locals := 42 } [.ref b0, .int p0] (wM cI b0 b1 b2 b3 b4 b5 b6 X) (fX3_set p0 X).1 (wM cI b0 b1 b2 b3 b4 b5 b6 (fX3_set p0 X).2) := by
  refine fun sz => k_of (lv := [(0, .ref b0), (1, .int p0)]) (by decide) sz (by exact Nat.le_of_ble_eq_true rfl) rfl ?_
  intro p e s m args below meth c hsz C
  refine k_aload_n C dX3_set_0 0 rfl ?_
  refine k_iconst C 0 (by decide) dX3_set_1 ?_
  refine k_putX3 C [(b0, cM b1 b2 b3 b4 b5 b6 (0, X.2.2.2.2.2.2.2)), (b1, cA9 cI X.1), (b2, cA2 cI X.2.1), (b3, cA2 cI X.2.2.1), (b4, cA2 cI X.2.2.2.1), (b5, cA2 cI X.2.2.2.2.1), (b6, cA9 cI X.2.2.2.2.2.1)] 0 0 rfl rfl (by decide) q570 rfl rfl fdI rfl rfl (Nat.le_of_ble_eq_true rfl) dX3_set_2 ?_
  refine k_iload_n C dX3_set_5 1 rfl ?_
  refine k_iconst C 3 (by decide) dX3_set_6 ?_
  refine k_icmp_eq C 21 (by decide) dX3_set_7 (fun c1 => ?_) (fun c1 => ?_)
  ·
    refine k_aload_n C dX3_set_21 0 rfl ?_
    refine k_callV_i C (mX3_canSet l D cI cJ b0 b1 b2 b3 b4 b5 b6 (X.1, X.2.1, X.2.2.1, X.2.2.2.1, X.2.2.2.2.1, X.2.2.2.2.2.1, 0, X.2.2.2.2.2.2.2)) (cwV 0 C.2.2.2.2.1 (kGV q731 q733 q49 q61 q734) rfl rfl rfl ⟨rfl, hdX3_canSet⟩ ⟨Nat.le_of_ble_eq_true rfl, Nat.le_of_ble_eq_true rfl⟩) [0, 1, 2, 3, 4, 5, 6] [] [0, 1, 2, 3, 4, 5, 6] [] ([(b0, cM b1 b2 b3 b4 b5 b6 (0, X.2.2.2.2.2.2.2)), (b1, cA9 cI X.1), (b2, cA2 cI X.2.1), (b3, cA2 cI X.2.2.1), (b4, cA2 cI X.2.2.2.1), (b5, cA2 cI X.2.2.2.2.1), (b6, cA9 cI X.2.2.2.2.2.1)]) rfl rfl rfl rfl (by decide) [b0, b1, b2, b3, b4, b5, b6] rfl rfl rfl rfl 0 3 rfl rfl rfl (Nat.le_of_ble_eq_true rfl) ⟨Nat.zero_le _, Nat.zero_le _⟩ rfl dX3_set_22 ?_
    generalize er2 : fX3_canSet (X.1, X.2.1, X.2.2.1, X.2.2.2.1, X.2.2.2.2.1, X.2.2.2.2.2.1, 0, X.2.2.2.2.2.2.2) = r2
    refine k_if_ne C 34 (by decide) dX3_set_25 (fun c3 => ?_) (fun c3 => ?_)
    ·
      refine k_aload_n C dX3_set_34 0 rfl ?_
      refine k_iconst C 1 (by decide) dX3_set_35 ?_
      refine k_putX3 C [(b0, cM b1 b2 b3 b4 b5 b6 (0, X.2.2.2.2.2.2.2.1, X.2.2.2.2.2.2.2.2.1, X.2.2.2.2.2.2.2.2.2.1, X.2.2.2.2.2.2.2.2.2.2.1, X.2.2.2.2.2.2.2.2.2.2.2.1, X.2.2.2.2.2.2.2.2.2.2.2.2.1, X.2.2.2.2.2.2.2.2.2.2.2.2.2.1, X.2.2.2.2.2.2.2.2.2.2.2.2.2.2.1, 1, X.2.2.2.2.2.2.2.2.2.2.2.2.2.2.2.2)), (b1, cA9 cI X.1), (b2, cA2 cI X.2.1), (b3, cA2 cI X.2.2.1), (b4, cA2 cI X.2.2.2.1), (b5, cA2 cI X.2.2.2.2.1), (b6, cA9 cI X.2.2.2.2.2.1)] 0 14 rfl rfl (by decide) q584 rfl rfl fdZ rfl rfl (Nat.le_of_ble_eq_true rfl) dX3_set_36 ?_
      refine k_aload_n C dX3_set_39 0 rfl ?_
      refine k_aload_n C dX3_set_40 0 rfl ?_
      refine k_getX3 C 0 6 rfl (by decide) rfl q576 rfl dX3_set_41 ?_
      refine k_iconst C 0 (by decide) dX3_set_44 ?_
      refine k_iald C 2 rfl vi2_0 (ar2_l0 _) dX3_set_45 ?_
      refine k_iload_n C dX3_set_46 1 rfl ?_
      refine k_iadd C dX3_set_47 ?_
      refine k_putX3 C [(b0, cM b1 b2 b3 b4 b5 b6 (0, X.2.2.2.2.2.2.2.1, X.2.2.2.2.2.2.2.2.1, X.2.2.2.2.2.2.2.2.2.1, X.2.2.2.2.2.2.2.2.2.2.1, X.2.2.2.2.2.2.2.2.2.2.2.1, X.2.2.2.2.2.2.2.2.2.2.2.2.1, X.2.2.2.2.2.2.2.2.2.2.2.2.2.1, (X.2.1.1 + p0), 1, X.2.2.2.2.2.2.2.2.2.2.2.2.2.2.2.2)), (b1, cA9 cI X.1), (b2, cA2 cI X.2.1), (b3, cA2 cI X.2.2.1), (b4, cA2 cI X.2.2.2.1), (b5, cA2 cI X.2.2.2.2.1), (b6, cA9 cI X.2.2.2.2.2.1)] 0 13 rfl rfl (by decide) q583 rfl rfl fdI rfl rfl (Nat.le_of_ble_eq_true rfl) dX3_set_48 ?_
      refine k_aload_n C dX3_set_51 0 rfl ?_
      refine k_getX3 C 0 13 rfl (by decide) rfl q583 rfl dX3_set_52 ?_
      have hL : fX3_set p0 X = ((X.2.1.1 + p0), (X.1, X.2.1, X.2.2.1, X.2.2.2.1, X.2.2.2.2.1, X.2.2.2.2.2.1, 0, X.2.2.2.2.2.2.2.1, X.2.2.2.2.2.2.2.2.1, X.2.2.2.2.2.2.2.2.2.1, X.2.2.2.2.2.2.2.2.2.2.1, X.2.2.2.2.2.2.2.2.2.2.2.1, X.2.2.2.2.2.2.2.2.2.2.2.2.1, X.2.2.2.2.2.2.2.2.2.2.2.2.2.1, (X.2.1.1 + p0), 1, X.2.2.2.2.2.2.2.2.2.2.2.2.2.2.2.2)) := by subst er2; exact (if_pos c1).trans ((if_neg c3).trans rfl)
      exact k_iret C rfl (by rw [hL]) (by rw [hL]) dX3_set_55
    ·
      refine k_aload_n C dX3_set_28 0 rfl ?_
      refine k_iconst C 2 (by decide) dX3_set_29 ?_
      refine k_callV_i C (mX3_no l D cI cJ b0 b1 b2 b3 b4 b5 b6 2 (X.1, X.2.1, X.2.2.1, X.2.2.2.1, X.2.2.2.2.1, X.2.2.2.2.2.1, 0, X.2.2.2.2.2.2.2)) (cwV 1 C.2.2.2.2.1 (kGV q640 q642 q33 q61 q643) rfl rfl rfl ⟨rfl, hdX3_no⟩ ⟨Nat.le_of_ble_eq_true rfl, Nat.le_of_ble_eq_true rfl⟩) [0, 1, 2, 3, 4, 5, 6] [] [0, 1, 2, 3, 4, 5, 6] [] (wM cI b0 b1 b2 b3 b4 b5 b6 (fX3_no 2 (X.1, X.2.1, X.2.2.1, X.2.2.2.1, X.2.2.2.2.1, X.2.2.2.2.2.1, 0, X.2.2.2.2.2.2.2)).2) rfl rfl rfl rfl (by decide) [b0, b1, b2, b3, b4, b5, b6] rfl rfl rfl rfl 0 3 rfl rfl rfl (Nat.le_of_ble_eq_true rfl) ⟨Nat.zero_le _, Nat.zero_le _⟩ rfl dX3_set_30 ?_
      generalize ez4 : fX3_no 2 (X.1, X.2.1, X.2.2.1, X.2.2.2.1, X.2.2.2.2.1, X.2.2.2.2.2.1, 0, X.2.2.2.2.2.2.2) = z4
      have hL : fX3_set p0 X = (z4.1, z4.2) := by subst ez4; subst er2; exact (if_pos c1).trans ((if_pos c3).trans rfl)
      exact k_iret C rfl (by rw [hL]) (by rw [hL]) dX3_set_33
  ·
    refine k_iload_n C dX3_set_10 1 rfl ?_
    refine k_iconst C 5 (by decide) dX3_set_11 ?_
    refine k_icmp_eq C 21 (by decide) dX3_set_12 (fun c5 => ?_) (fun c5 => ?_)
    ·
      refine k_aload_n C dX3_set_21 0 rfl ?_
      refine k_callV_i C (mX3_canSet l D cI cJ b0 b1 b2 b3 b4 b5 b6 (X.1, X.2.1, X.2.2.1, X.2.2.2.1, X.2.2.2.2.1, X.2.2.2.2.2.1, 0, X.2.2.2.2.2.2.2)) (cwV 0 C.2.2.2.2.1 (kGV q731 q733 q49 q61 q734) rfl rfl rfl ⟨rfl, hdX3_canSet⟩ ⟨Nat.le_of_ble_eq_true rfl, Nat.le_of_ble_eq_true rfl⟩) [0, 1, 2, 3, 4, 5, 6] [] [0, 1, 2, 3, 4, 5, 6] [] ([(b0, cM b1 b2 b3 b4 b5 b6 (0, X.2.2.2.2.2.2.2)), (b1, cA9 cI X.1), (b2, cA2 cI X.2.1), (b3, cA2 cI X.2.2.1), (b4, cA2 cI X.2.2.2.1), (b5, cA2 cI X.2.2.2.2.1), (b6, cA9 cI X.2.2.2.2.2.1)]) rfl rfl rfl rfl (by decide) [b0, b1, b2, b3, b4, b5, b6] rfl rfl rfl rfl 0 3 rfl rfl rfl (Nat.le_of_ble_eq_true rfl) ⟨Nat.zero_le _, Nat.zero_le _⟩ rfl dX3_set_22 ?_
      generalize er6 : fX3_canSet (X.1, X.2.1, X.2.2.1, X.2.2.2.1, X.2.2.2.2.1, X.2.2.2.2.2.1, 0, X.2.2.2.2.2.2.2) = r6
      refine k_if_ne C 34 (by decide) dX3_set_25 (fun c7 => ?_) (fun c7 => ?_)
      ·
        refine k_aload_n C dX3_set_34 0 rfl ?_
        refine k_iconst C 1 (by decide) dX3_set_35 ?_
        refine k_putX3 C [(b0, cM b1 b2 b3 b4 b5 b6 (0, X.2.2.2.2.2.2.2.1, X.2.2.2.2.2.2.2.2.1, X.2.2.2.2.2.2.2.2.2.1, X.2.2.2.2.2.2.2.2.2.2.1, X.2.2.2.2.2.2.2.2.2.2.2.1, X.2.2.2.2.2.2.2.2.2.2.2.2.1, X.2.2.2.2.2.2.2.2.2.2.2.2.2.1, X.2.2.2.2.2.2.2.2.2.2.2.2.2.2.1, 1, X.2.2.2.2.2.2.2.2.2.2.2.2.2.2.2.2)), (b1, cA9 cI X.1), (b2, cA2 cI X.2.1), (b3, cA2 cI X.2.2.1), (b4, cA2 cI X.2.2.2.1), (b5, cA2 cI X.2.2.2.2.1), (b6, cA9 cI X.2.2.2.2.2.1)] 0 14 rfl rfl (by decide) q584 rfl rfl fdZ rfl rfl (Nat.le_of_ble_eq_true rfl) dX3_set_36 ?_
        refine k_aload_n C dX3_set_39 0 rfl ?_
        refine k_aload_n C dX3_set_40 0 rfl ?_
        refine k_getX3 C 0 6 rfl (by decide) rfl q576 rfl dX3_set_41 ?_
        refine k_iconst C 0 (by decide) dX3_set_44 ?_
        refine k_iald C 2 rfl vi2_0 (ar2_l0 _) dX3_set_45 ?_
        refine k_iload_n C dX3_set_46 1 rfl ?_
        refine k_iadd C dX3_set_47 ?_
        refine k_putX3 C [(b0, cM b1 b2 b3 b4 b5 b6 (0, X.2.2.2.2.2.2.2.1, X.2.2.2.2.2.2.2.2.1, X.2.2.2.2.2.2.2.2.2.1, X.2.2.2.2.2.2.2.2.2.2.1, X.2.2.2.2.2.2.2.2.2.2.2.1, X.2.2.2.2.2.2.2.2.2.2.2.2.1, X.2.2.2.2.2.2.2.2.2.2.2.2.2.1, (X.2.1.1 + p0), 1, X.2.2.2.2.2.2.2.2.2.2.2.2.2.2.2.2)), (b1, cA9 cI X.1), (b2, cA2 cI X.2.1), (b3, cA2 cI X.2.2.1), (b4, cA2 cI X.2.2.2.1), (b5, cA2 cI X.2.2.2.2.1), (b6, cA9 cI X.2.2.2.2.2.1)] 0 13 rfl rfl (by decide) q583 rfl rfl fdI rfl rfl (Nat.le_of_ble_eq_true rfl) dX3_set_48 ?_
        refine k_aload_n C dX3_set_51 0 rfl ?_
        refine k_getX3 C 0 13 rfl (by decide) rfl q583 rfl dX3_set_52 ?_
        have hL : fX3_set p0 X = ((X.2.1.1 + p0), (X.1, X.2.1, X.2.2.1, X.2.2.2.1, X.2.2.2.2.1, X.2.2.2.2.2.1, 0, X.2.2.2.2.2.2.2.1, X.2.2.2.2.2.2.2.2.1, X.2.2.2.2.2.2.2.2.2.1, X.2.2.2.2.2.2.2.2.2.2.1, X.2.2.2.2.2.2.2.2.2.2.2.1, X.2.2.2.2.2.2.2.2.2.2.2.2.1, X.2.2.2.2.2.2.2.2.2.2.2.2.2.1, (X.2.1.1 + p0), 1, X.2.2.2.2.2.2.2.2.2.2.2.2.2.2.2.2)) := by subst er6; exact (if_neg c1).trans ((if_pos c5).trans ((if_neg c7).trans rfl))
        exact k_iret C rfl (by rw [hL]) (by rw [hL]) dX3_set_55
      ·
        refine k_aload_n C dX3_set_28 0 rfl ?_
        refine k_iconst C 2 (by decide) dX3_set_29 ?_
        refine k_callV_i C (mX3_no l D cI cJ b0 b1 b2 b3 b4 b5 b6 2 (X.1, X.2.1, X.2.2.1, X.2.2.2.1, X.2.2.2.2.1, X.2.2.2.2.2.1, 0, X.2.2.2.2.2.2.2)) (cwV 1 C.2.2.2.2.1 (kGV q640 q642 q33 q61 q643) rfl rfl rfl ⟨rfl, hdX3_no⟩ ⟨Nat.le_of_ble_eq_true rfl, Nat.le_of_ble_eq_true rfl⟩) [0, 1, 2, 3, 4, 5, 6] [] [0, 1, 2, 3, 4, 5, 6] [] (wM cI b0 b1 b2 b3 b4 b5 b6 (fX3_no 2 (X.1, X.2.1, X.2.2.1, X.2.2.2.1, X.2.2.2.2.1, X.2.2.2.2.2.1, 0, X.2.2.2.2.2.2.2)).2) rfl rfl rfl rfl (by decide) [b0, b1, b2, b3, b4, b5, b6] rfl rfl rfl rfl 0 3 rfl rfl rfl (Nat.le_of_ble_eq_true rfl) ⟨Nat.zero_le _, Nat.zero_le _⟩ rfl dX3_set_30 ?_
        generalize ez8 : fX3_no 2 (X.1, X.2.1, X.2.2.1, X.2.2.2.1, X.2.2.2.2.1, X.2.2.2.2.2.1, 0, X.2.2.2.2.2.2.2) = z8
        have hL : fX3_set p0 X = (z8.1, z8.2) := by subst ez8; subst er6; exact (if_neg c1).trans ((if_pos c5).trans ((if_pos c7).trans rfl))
        exact k_iret C rfl (by rw [hL]) (by rw [hL]) dX3_set_33
    ·
      refine k_aload_n C dX3_set_15 0 rfl ?_
      refine k_iconst C 1 (by decide) dX3_set_16 ?_
      refine k_callV_i C (mX3_no l D cI cJ b0 b1 b2 b3 b4 b5 b6 1 (X.1, X.2.1, X.2.2.1, X.2.2.2.1, X.2.2.2.2.1, X.2.2.2.2.2.1, 0, X.2.2.2.2.2.2.2)) (cwV 1 C.2.2.2.2.1 (kGV q640 q642 q33 q61 q643) rfl rfl rfl ⟨rfl, hdX3_no⟩ ⟨Nat.le_of_ble_eq_true rfl, Nat.le_of_ble_eq_true rfl⟩) [0, 1, 2, 3, 4, 5, 6] [] [0, 1, 2, 3, 4, 5, 6] [] (wM cI b0 b1 b2 b3 b4 b5 b6 (fX3_no 1 (X.1, X.2.1, X.2.2.1, X.2.2.2.1, X.2.2.2.2.1, X.2.2.2.2.2.1, 0, X.2.2.2.2.2.2.2)).2) rfl rfl rfl rfl (by decide) [b0, b1, b2, b3, b4, b5, b6] rfl rfl rfl rfl 0 3 rfl rfl rfl (Nat.le_of_ble_eq_true rfl) ⟨Nat.zero_le _, Nat.zero_le _⟩ rfl dX3_set_17 ?_
      generalize ez9 : fX3_no 1 (X.1, X.2.1, X.2.2.1, X.2.2.2.1, X.2.2.2.2.1, X.2.2.2.2.2.1, 0, X.2.2.2.2.2.2.2) = z9
      have hL : fX3_set p0 X = (z9.1, z9.2) := by subst ez9; exact (if_neg c1).trans ((if_neg c5).trans rfl)
      exact k_iret C rfl (by rw [hL]) (by rw [hL]) dX3_set_20

theorem hdX3_match : yX3_match.cls ≠ "java/lang/invoke/MethodHandle" ∧ yX3_match.cls ≠ "java/lang/invoke/VarHandle" ∧ (parseMethodDescriptor yX3_match.desc).map (fun d => d.parameters.length) = some 1 := by decide +kernel
noncomputable def fX3_match (p0 : Int32) (X : Mo) : Int32 × Mo :=
  if (fX3_isIn p0 0 1) = 0 then ((fX3_no 1 (X.1, X.2.1, X.2.2.1, X.2.2.2.1, X.2.2.2.2.1, X.2.2.2.2.2.1, 0, X.2.2.2.2.2.2.2)).1, (fX3_no 1 (X.1, X.2.1, X.2.2.1, X.2.2.2.1, X.2.2.2.2.1, X.2.2.2.2.2.1, 0, X.2.2.2.2.2.2.2)).2)
  else ((X.2.2.1.1 + X.2.2.1.2), (X.1, (0, 0), (0, 0), (0, 0), (0, 0), X.2.2.2.2.2.1, 0, p0, 0, X.2.2.2.2.2.2.2.2.2.1, X.2.2.2.2.2.2.2.2.2.2.1, X.2.2.2.2.2.2.2.2.2.2.2.1, X.2.2.2.2.2.2.2.2.2.2.2.2.1, X.2.2.2.2.2.2.2.2.2.2.2.2.2.1, 12, 0, X.2.2.2.2.2.2.2.2.2.2.2.2.2.2.2.2))
set_option maxHeartbeats 4000000 in
set_option maxRecDepth 100000 in
theorem mX3_match (l : Launch) (D : va_G) (cI cJ : ClassId) (b0 b1 b2 b3 b4 b5 b6 : Nat) (p0 : Int32) (X : Mo)  : kCi l D cI cJ yX3_match (.code yX3_match cX3_match 4 (some .int)) { frames := 1, cells := 0, slots := 0, locals := 22 } [.ref b0, .int p0] (wM cI b0 b1 b2 b3 b4 b5 b6 X) (fX3_match p0 X).1 (wM cI b0 b1 b2 b3 b4 b5 b6 (fX3_match p0 X).2) := by
  refine fun sz => k_of (lv := [(0, .ref b0), (1, .int p0)]) (by decide) sz (by exact Nat.le_of_ble_eq_true rfl) rfl ?_
  intro p e s m args below meth c hsz C
  refine k_aload_n C dX3_match_0 0 rfl ?_
  refine k_iconst C 0 (by decide) dX3_match_1 ?_
  refine k_putX3 C [(b0, cM b1 b2 b3 b4 b5 b6 (0, X.2.2.2.2.2.2.2)), (b1, cA9 cI X.1), (b2, cA2 cI X.2.1), (b3, cA2 cI X.2.2.1), (b4, cA2 cI X.2.2.2.1), (b5, cA2 cI X.2.2.2.2.1), (b6, cA9 cI X.2.2.2.2.2.1)] 0 0 rfl rfl (by decide) q570 rfl rfl fdI rfl rfl (Nat.le_of_ble_eq_true rfl) dX3_match_2 ?_
  refine k_iload_n C dX3_match_5 1 rfl ?_
  refine k_iconst C 0 (by decide) dX3_match_6 ?_
  refine k_iconst C 1 (by decide) dX3_match_7 ?_
  refine k_callS_i C (mX3_isIn l D cI cJ p0 0 1) (va_cwS 3 C.2.2.2.2.1 (kGS q637 q638 q61 q639) rfl rfl rfl hdX3_isIn ⟨Nat.le_of_ble_eq_true rfl, Nat.le_of_ble_eq_true rfl⟩) [] [0, 1, 2, 3, 4, 5, 6] [0, 1, 2, 3, 4, 5, 6] [(b0, cM b1 b2 b3 b4 b5 b6 (0, X.2.2.2.2.2.2.2)), (b1, cA9 cI X.1), (b2, cA2 cI X.2.1), (b3, cA2 cI X.2.2.1), (b4, cA2 cI X.2.2.2.1), (b5, cA2 cI X.2.2.2.2.1), (b6, cA9 cI X.2.2.2.2.2.1)] ([(b0, cM b1 b2 b3 b4 b5 b6 (0, X.2.2.2.2.2.2.2)), (b1, cA9 cI X.1), (b2, cA2 cI X.2.1), (b3, cA2 cI X.2.2.1), (b4, cA2 cI X.2.2.2.1), (b5, cA2 cI X.2.2.2.2.1), (b6, cA9 cI X.2.2.2.2.2.1)]) rfl rfl rfl rfl (by decide) [] rfl rfl rfl rfl (Nat.le_of_ble_eq_true rfl) ⟨Nat.zero_le _, Nat.zero_le _⟩ rfl dX3_match_8 ?_
  generalize er1 : fX3_isIn p0 0 1 = r1
  refine k_if_ne C 20 (by decide) dX3_match_11 (fun c2 => ?_) (fun c2 => ?_)
  ·
    refine k_aload_n C dX3_match_20 0 rfl ?_
    refine k_getX3 C 0 7 rfl (by decide) rfl q577 rfl dX3_match_21 ?_
    refine k_iconst C 0 (by decide) dX3_match_24 ?_
    refine k_iald C 3 rfl vi2_0 (ar2_l0 _) dX3_match_25 ?_
    refine k_aload_n C dX3_match_26 0 rfl ?_
    refine k_getX3 C 0 7 rfl (by decide) rfl q577 rfl dX3_match_27 ?_
    refine k_iconst C 1 (by decide) dX3_match_30 ?_
    refine k_iald C 3 rfl vi2_1 (ar2_l1 _) dX3_match_31 ?_
    refine k_iadd C dX3_match_32 ?_
    refine k_istore_n C [(2, .int (X.2.2.1.1 + X.2.2.1.2)), (0, .ref b0), (1, .int p0)] (by decide) rfl dX3_match_33 ?_
    refine k_iconst C 0 (by decide) dX3_match_34 ?_
    refine k_istore_n C [(3, .int 0), (2, .int (X.2.2.1.1 + X.2.2.1.2)), (0, .ref b0), (1, .int p0)] (by decide) rfl dX3_match_35 ?_
    refine k_iload_n C dX3_match_36 0 rfl ?_
    refine k_iconst C 2 (by decide) dX3_match_37 ?_
    refine k_icmp_ge C 75 (by decide) dX3_match_38 (fun h => absurd h (by decide)) (fun _ => ?_)
    refine k_aload_n C dX3_match_41 2 rfl ?_
    refine k_getX3 C 0 6 rfl (by decide) rfl q576 rfl dX3_match_42 ?_
    refine k_iload_n C dX3_match_45 0 rfl ?_
    refine k_iconst C 0 (by decide) dX3_match_46 ?_
    refine k_iast C [(b0, cM b1 b2 b3 b4 b5 b6 (0, X.2.2.2.2.2.2.2)), (b1, cA9 cI X.1), (b2, cA2 cI (0, X.2.1.2)), (b3, cA2 cI X.2.2.1), (b4, cA2 cI X.2.2.2.1), (b5, cA2 cI X.2.2.2.2.1), (b6, cA9 cI X.2.2.2.2.2.1)] 2 rfl vi2_0 (ar2 (0, X.2.1.2)) (ar2_s0 _ _) rfl dX3_match_47 ?_
    refine k_aload_n C dX3_match_48 2 rfl ?_
    refine k_getX3 C 0 7 rfl (by decide) rfl q577 rfl dX3_match_49 ?_
    refine k_iload_n C dX3_match_52 0 rfl ?_
    refine k_iconst C 0 (by decide) dX3_match_53 ?_
    refine k_iast C [(b0, cM b1 b2 b3 b4 b5 b6 (0, X.2.2.2.2.2.2.2)), (b1, cA9 cI X.1), (b2, cA2 cI (0, X.2.1.2)), (b3, cA2 cI (0, X.2.2.1.2)), (b4, cA2 cI X.2.2.2.1), (b5, cA2 cI X.2.2.2.2.1), (b6, cA9 cI X.2.2.2.2.2.1)] 3 rfl vi2_0 (ar2 (0, X.2.2.1.2)) (ar2_s0 _ _) rfl dX3_match_54 ?_
    refine k_aload_n C dX3_match_55 2 rfl ?_
    refine k_getX3 C 0 8 rfl (by decide) rfl q578 rfl dX3_match_56 ?_
    refine k_iload_n C dX3_match_59 0 rfl ?_
    refine k_iconst C 0 (by decide) dX3_match_60 ?_
    refine k_iast C [(b0, cM b1 b2 b3 b4 b5 b6 (0, X.2.2.2.2.2.2.2)), (b1, cA9 cI X.1), (b2, cA2 cI (0, X.2.1.2)), (b3, cA2 cI (0, X.2.2.1.2)), (b4, cA2 cI (0, X.2.2.2.1.2)), (b5, cA2 cI X.2.2.2.2.1), (b6, cA9 cI X.2.2.2.2.2.1)] 4 rfl vi2_0 (ar2 (0, X.2.2.2.1.2)) (ar2_s0 _ _) rfl dX3_match_61 ?_
    refine k_aload_n C dX3_match_62 2 rfl ?_
    refine k_getX3 C 0 9 rfl (by decide) rfl q579 rfl dX3_match_63 ?_
    refine k_iload_n C dX3_match_66 0 rfl ?_
    refine k_iconst C 0 (by decide) dX3_match_67 ?_
    refine k_iast C [(b0, cM b1 b2 b3 b4 b5 b6 (0, X.2.2.2.2.2.2.2)), (b1, cA9 cI X.1), (b2, cA2 cI (0, X.2.1.2)), (b3, cA2 cI (0, X.2.2.1.2)), (b4, cA2 cI (0, X.2.2.2.1.2)), (b5, cA2 cI (0, X.2.2.2.2.1.2)), (b6, cA9 cI X.2.2.2.2.2.1)] 5 rfl vi2_0 (ar2 (0, X.2.2.2.2.1.2)) (ar2_s0 _ _) rfl dX3_match_68 ?_
    refine k_iinc C 1 [(3, .int 1), (2, .int (X.2.2.1.1 + X.2.2.1.2)), (0, .ref b0), (1, .int p0)] 0 rfl (by decide) (by decide) rfl dX3_match_69 ?_
    refine k_goto C 36 (by decide) dX3_match_72 ?_
    refine k_iload_n C dX3_match_36 0 rfl ?_
    refine k_iconst C 2 (by decide) dX3_match_37 ?_
    refine k_icmp_ge C 75 (by decide) dX3_match_38 (fun h => absurd h (by decide)) (fun _ => ?_)
    refine k_aload_n C dX3_match_41 2 rfl ?_
    refine k_getX3 C 0 6 rfl (by decide) rfl q576 rfl dX3_match_42 ?_
    refine k_iload_n C dX3_match_45 0 rfl ?_
    refine k_iconst C 0 (by decide) dX3_match_46 ?_
    refine k_iast C [(b0, cM b1 b2 b3 b4 b5 b6 (0, X.2.2.2.2.2.2.2)), (b1, cA9 cI X.1), (b2, cA2 cI (0, 0)), (b3, cA2 cI (0, X.2.2.1.2)), (b4, cA2 cI (0, X.2.2.2.1.2)), (b5, cA2 cI (0, X.2.2.2.2.1.2)), (b6, cA9 cI X.2.2.2.2.2.1)] 2 rfl vi2_1 (ar2 (0, 0)) (ar2_s1 _ _) rfl dX3_match_47 ?_
    refine k_aload_n C dX3_match_48 2 rfl ?_
    refine k_getX3 C 0 7 rfl (by decide) rfl q577 rfl dX3_match_49 ?_
    refine k_iload_n C dX3_match_52 0 rfl ?_
    refine k_iconst C 0 (by decide) dX3_match_53 ?_
    refine k_iast C [(b0, cM b1 b2 b3 b4 b5 b6 (0, X.2.2.2.2.2.2.2)), (b1, cA9 cI X.1), (b2, cA2 cI (0, 0)), (b3, cA2 cI (0, 0)), (b4, cA2 cI (0, X.2.2.2.1.2)), (b5, cA2 cI (0, X.2.2.2.2.1.2)), (b6, cA9 cI X.2.2.2.2.2.1)] 3 rfl vi2_1 (ar2 (0, 0)) (ar2_s1 _ _) rfl dX3_match_54 ?_
    refine k_aload_n C dX3_match_55 2 rfl ?_
    refine k_getX3 C 0 8 rfl (by decide) rfl q578 rfl dX3_match_56 ?_
    refine k_iload_n C dX3_match_59 0 rfl ?_
    refine k_iconst C 0 (by decide) dX3_match_60 ?_
    refine k_iast C [(b0, cM b1 b2 b3 b4 b5 b6 (0, X.2.2.2.2.2.2.2)), (b1, cA9 cI X.1), (b2, cA2 cI (0, 0)), (b3, cA2 cI (0, 0)), (b4, cA2 cI (0, 0)), (b5, cA2 cI (0, X.2.2.2.2.1.2)), (b6, cA9 cI X.2.2.2.2.2.1)] 4 rfl vi2_1 (ar2 (0, 0)) (ar2_s1 _ _) rfl dX3_match_61 ?_
    refine k_aload_n C dX3_match_62 2 rfl ?_
    refine k_getX3 C 0 9 rfl (by decide) rfl q579 rfl dX3_match_63 ?_
    refine k_iload_n C dX3_match_66 0 rfl ?_
    refine k_iconst C 0 (by decide) dX3_match_67 ?_
    refine k_iast C [(b0, cM b1 b2 b3 b4 b5 b6 (0, X.2.2.2.2.2.2.2)), (b1, cA9 cI X.1), (b2, cA2 cI (0, 0)), (b3, cA2 cI (0, 0)), (b4, cA2 cI (0, 0)), (b5, cA2 cI (0, 0)), (b6, cA9 cI X.2.2.2.2.2.1)] 5 rfl vi2_1 (ar2 (0, 0)) (ar2_s1 _ _) rfl dX3_match_68 ?_
    refine k_iinc C 2 [(3, .int 2), (2, .int (X.2.2.1.1 + X.2.2.1.2)), (0, .ref b0), (1, .int p0)] 0 rfl (by decide) (by decide) rfl dX3_match_69 ?_
    refine k_goto C 36 (by decide) dX3_match_72 ?_
    refine k_iload_n C dX3_match_36 0 rfl ?_
    refine k_iconst C 2 (by decide) dX3_match_37 ?_
    refine k_icmp_ge C 75 (by decide) dX3_match_38 (fun _ => ?_) (fun h => absurd (by decide) h)
    refine k_aload_n C dX3_match_75 2 rfl ?_
    refine k_bipush C 12 (by decide) dX3_match_76 ?_
    refine k_putX3 C [(b0, cM b1 b2 b3 b4 b5 b6 (0, X.2.2.2.2.2.2.2.1, X.2.2.2.2.2.2.2.2.1, X.2.2.2.2.2.2.2.2.2.1, X.2.2.2.2.2.2.2.2.2.2.1, X.2.2.2.2.2.2.2.2.2.2.2.1, X.2.2.2.2.2.2.2.2.2.2.2.2.1, X.2.2.2.2.2.2.2.2.2.2.2.2.2.1, 12, X.2.2.2.2.2.2.2.2.2.2.2.2.2.2.2)), (b1, cA9 cI X.1), (b2, cA2 cI (0, 0)), (b3, cA2 cI (0, 0)), (b4, cA2 cI (0, 0)), (b5, cA2 cI (0, 0)), (b6, cA9 cI X.2.2.2.2.2.1)] 0 13 rfl rfl (by decide) q583 rfl rfl fdI rfl rfl (Nat.le_of_ble_eq_true rfl) dX3_match_78 ?_
    refine k_aload_n C dX3_match_81 2 rfl ?_
    refine k_iconst C 0 (by decide) dX3_match_82 ?_
    refine k_putX3 C [(b0, cM b1 b2 b3 b4 b5 b6 (0, X.2.2.2.2.2.2.2.1, X.2.2.2.2.2.2.2.2.1, X.2.2.2.2.2.2.2.2.2.1, X.2.2.2.2.2.2.2.2.2.2.1, X.2.2.2.2.2.2.2.2.2.2.2.1, X.2.2.2.2.2.2.2.2.2.2.2.2.1, X.2.2.2.2.2.2.2.2.2.2.2.2.2.1, 12, 0, X.2.2.2.2.2.2.2.2.2.2.2.2.2.2.2.2)), (b1, cA9 cI X.1), (b2, cA2 cI (0, 0)), (b3, cA2 cI (0, 0)), (b4, cA2 cI (0, 0)), (b5, cA2 cI (0, 0)), (b6, cA9 cI X.2.2.2.2.2.1)] 0 14 rfl rfl (by decide) q584 rfl rfl fdZ rfl rfl (Nat.le_of_ble_eq_true rfl) dX3_match_83 ?_
    refine k_aload_n C dX3_match_86 2 rfl ?_
    refine k_iconst C 0 (by decide) dX3_match_87 ?_
    refine k_putX3 C [(b0, cM b1 b2 b3 b4 b5 b6 (0, X.2.2.2.2.2.2.2.1, 0, X.2.2.2.2.2.2.2.2.2.1, X.2.2.2.2.2.2.2.2.2.2.1, X.2.2.2.2.2.2.2.2.2.2.2.1, X.2.2.2.2.2.2.2.2.2.2.2.2.1, X.2.2.2.2.2.2.2.2.2.2.2.2.2.1, 12, 0, X.2.2.2.2.2.2.2.2.2.2.2.2.2.2.2.2)), (b1, cA9 cI X.1), (b2, cA2 cI (0, 0)), (b3, cA2 cI (0, 0)), (b4, cA2 cI (0, 0)), (b5, cA2 cI (0, 0)), (b6, cA9 cI X.2.2.2.2.2.1)] 0 2 rfl rfl (by decide) q572 rfl rfl fdZ rfl rfl (Nat.le_of_ble_eq_true rfl) dX3_match_88 ?_
    refine k_aload_n C dX3_match_91 2 rfl ?_
    refine k_iload_n C dX3_match_92 3 rfl ?_
    refine k_putX3 C [(b0, cM b1 b2 b3 b4 b5 b6 (0, p0, 0, X.2.2.2.2.2.2.2.2.2.1, X.2.2.2.2.2.2.2.2.2.2.1, X.2.2.2.2.2.2.2.2.2.2.2.1, X.2.2.2.2.2.2.2.2.2.2.2.2.1, X.2.2.2.2.2.2.2.2.2.2.2.2.2.1, 12, 0, X.2.2.2.2.2.2.2.2.2.2.2.2.2.2.2.2)), (b1, cA9 cI X.1), (b2, cA2 cI (0, 0)), (b3, cA2 cI (0, 0)), (b4, cA2 cI (0, 0)), (b5, cA2 cI (0, 0)), (b6, cA9 cI X.2.2.2.2.2.1)] 0 1 rfl rfl (by decide) q571 rfl rfl fdI rfl rfl (Nat.le_of_ble_eq_true rfl) dX3_match_93 ?_
    refine k_iload_n C dX3_match_96 1 rfl ?_
    have hL : fX3_match p0 X = ((X.2.2.1.1 + X.2.2.1.2), (X.1, (0, 0), (0, 0), (0, 0), (0, 0), X.2.2.2.2.2.1, 0, p0, 0, X.2.2.2.2.2.2.2.2.2.1, X.2.2.2.2.2.2.2.2.2.2.1, X.2.2.2.2.2.2.2.2.2.2.2.1, X.2.2.2.2.2.2.2.2.2.2.2.2.1, X.2.2.2.2.2.2.2.2.2.2.2.2.2.1, 12, 0, X.2.2.2.2.2.2.2.2.2.2.2.2.2.2.2.2)) := by subst er1; exact (if_neg c2).trans rfl
    exact k_iret C rfl (by rw [hL]) (by rw [hL]) dX3_match_97
  ·
    refine k_aload_n C dX3_match_14 0 rfl ?_
    refine k_iconst C 1 (by decide) dX3_match_15 ?_
    refine k_callV_i C (mX3_no l D cI cJ b0 b1 b2 b3 b4 b5 b6 1 (X.1, X.2.1, X.2.2.1, X.2.2.2.1, X.2.2.2.2.1, X.2.2.2.2.2.1, 0, X.2.2.2.2.2.2.2)) (cwV 1 C.2.2.2.2.1 (kGV q640 q642 q33 q61 q643) rfl rfl rfl ⟨rfl, hdX3_no⟩ ⟨Nat.le_of_ble_eq_true rfl, Nat.le_of_ble_eq_true rfl⟩) [0, 1, 2, 3, 4, 5, 6] [] [0, 1, 2, 3, 4, 5, 6] [] (wM cI b0 b1 b2 b3 b4 b5 b6 (fX3_no 1 (X.1, X.2.1, X.2.2.1, X.2.2.2.1, X.2.2.2.2.1, X.2.2.2.2.2.1, 0, X.2.2.2.2.2.2.2)).2) rfl rfl rfl rfl (by decide) [b0, b1, b2, b3, b4, b5, b6] rfl rfl rfl rfl 0 3 rfl rfl rfl (Nat.le_of_ble_eq_true rfl) ⟨Nat.zero_le _, Nat.zero_le _⟩ rfl dX3_match_16 ?_
    generalize ez3 : fX3_no 1 (X.1, X.2.1, X.2.2.1, X.2.2.2.1, X.2.2.2.2.1, X.2.2.2.2.2.1, 0, X.2.2.2.2.2.2.2) = z3
    have hL : fX3_match p0 X = (z3.1, z3.2) := by subst ez3; subst er1; exact (if_pos c2).trans rfl
    exact k_iret C rfl (by rw [hL]) (by rw [hL]) dX3_match_19
