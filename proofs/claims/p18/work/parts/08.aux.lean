/-! small rows that the printed walks use -/
theorem fdI : parseFieldDescriptor "I" = some .int := by decide +kernel
theorem fdZ : parseFieldDescriptor "Z" = some .boolean := by decide +kernel
theorem vi9_0 : vp_in 0 9 := by unfold vp_in; decide
theorem ar9_l0 (q : I9) : ar9 q (Int32.toNatClampNeg 0) = q.1 := by rw [show Int32.toNatClampNeg 0 = 0 from by decide]; rfl
theorem vi9_1 : vp_in 1 9 := by unfold vp_in; decide
theorem ar9_l1 (q : I9) : ar9 q (Int32.toNatClampNeg 1) = q.2.1 := by rw [show Int32.toNatClampNeg 1 = 1 from by decide]; rfl
theorem vi9_2 : vp_in 2 9 := by unfold vp_in; decide
theorem ar9_l2 (q : I9) : ar9 q (Int32.toNatClampNeg 2) = q.2.2.1 := by rw [show Int32.toNatClampNeg 2 = 2 from by decide]; rfl
theorem vi9_3 : vp_in 3 9 := by unfold vp_in; decide
theorem ar9_l3 (q : I9) : ar9 q (Int32.toNatClampNeg 3) = q.2.2.2.1 := by rw [show Int32.toNatClampNeg 3 = 3 from by decide]; rfl
theorem vi9_4 : vp_in 4 9 := by unfold vp_in; decide
theorem ar9_l4 (q : I9) : ar9 q (Int32.toNatClampNeg 4) = q.2.2.2.2.1 := by rw [show Int32.toNatClampNeg 4 = 4 from by decide]; rfl
theorem vi9_5 : vp_in 5 9 := by unfold vp_in; decide
theorem ar9_l5 (q : I9) : ar9 q (Int32.toNatClampNeg 5) = q.2.2.2.2.2.1 := by rw [show Int32.toNatClampNeg 5 = 5 from by decide]; rfl
theorem vi9_6 : vp_in 6 9 := by unfold vp_in; decide
theorem ar9_l6 (q : I9) : ar9 q (Int32.toNatClampNeg 6) = q.2.2.2.2.2.2.1 := by rw [show Int32.toNatClampNeg 6 = 6 from by decide]; rfl
theorem vi9_7 : vp_in 7 9 := by unfold vp_in; decide
theorem ar9_l7 (q : I9) : ar9 q (Int32.toNatClampNeg 7) = q.2.2.2.2.2.2.2.1 := by rw [show Int32.toNatClampNeg 7 = 7 from by decide]; rfl
theorem vi9_8 : vp_in 8 9 := by unfold vp_in; decide
theorem ar9_l8 (q : I9) : ar9 q (Int32.toNatClampNeg 8) = q.2.2.2.2.2.2.2.2 := by rw [show Int32.toNatClampNeg 8 = 8 from by decide]; rfl
theorem vi4_0 : vp_in 0 4 := by unfold vp_in; decide
theorem ar4_l0 (q : Sd) : ar4 q (Int32.toNatClampNeg 0) = q.1 := by rw [show Int32.toNatClampNeg 0 = 0 from by decide]; rfl
theorem vi4_1 : vp_in 1 4 := by unfold vp_in; decide
theorem ar4_l1 (q : Sd) : ar4 q (Int32.toNatClampNeg 1) = q.2.1 := by rw [show Int32.toNatClampNeg 1 = 1 from by decide]; rfl
theorem vi4_2 : vp_in 2 4 := by unfold vp_in; decide
theorem ar4_l2 (q : Sd) : ar4 q (Int32.toNatClampNeg 2) = q.2.2.1 := by rw [show Int32.toNatClampNeg 2 = 2 from by decide]; rfl
theorem vi4_3 : vp_in 3 4 := by unfold vp_in; decide
theorem ar4_l3 (q : Sd) : ar4 q (Int32.toNatClampNeg 3) = q.2.2.2 := by rw [show Int32.toNatClampNeg 3 = 3 from by decide]; rfl
theorem vi2_0 : vp_in 0 2 := by unfold vp_in; decide
theorem vi2_1 : vp_in 1 2 := by unfold vp_in; decide
theorem fq_l0 (a b : Nat) : fq a b (Int32.toNatClampNeg 0) = some a := by rw [show Int32.toNatClampNeg 0 = 0 from by decide]; rfl
theorem fq_l1 (a b : Nat) : fq a b (Int32.toNatClampNeg 1) = some b := by rw [show Int32.toNatClampNeg 1 = 1 from by decide]; rfl
theorem fdB : parseFieldDescriptor "LFivesCourtLaw$Ball;" = some (.object "FivesCourtLaw$Ball") := by decide +kernel
theorem fdQ : parseFieldDescriptor "[[I" = some (.array (.array .int)) := by decide +kernel
theorem zf10 : ∀ j, j < 10 → defaultValue (tyX3 j) = vp_V [.int 0, .int 0, .int 0, .int 0, .int 0, .int 0, .int 0, .int 0, .int 0, .int 0] j := fun j hj => by rcases (show j = 0 ∨ j = 1 ∨ j = 2 ∨ j = 3 ∨ j = 4 ∨ j = 5 ∨ j = 6 ∨ j = 7 ∨ j = 8 ∨ j = 9 by omega) with rfl | rfl | rfl | rfl | rfl | rfl | rfl | rfl | rfl | rfl <;> rfl
theorem zf9 (cA : ClassId) : vp_cell cA (9, .inl (ar9 (0, 0, 0, 0, 0, 0, 0, 0, 0))) = arrV cA 9 (fun _ => defaultValue .int) := by
  have h : (fun _ => (0 : Int32) : Nat → Int32) = ar9 (0, 0, 0, 0, 0, 0, 0, 0, 0) := by
    funext j
    match j with
    | 0 => rfl
    | 1 => rfl
    | 2 => rfl
    | 3 => rfl
    | 4 => rfl
    | 5 => rfl
    | 6 => rfl
    | 7 => rfl
    | 8 => rfl
    | _ + 9 => rfl
  rw [← h]
  rfl
theorem qn0 : (.fieldLinkNest RX2 117 RX1 "points" "I" RX2 : Cond) ∈ kNs := List.mem_of_getElem? (i := 0) rfl
theorem qn1 : (.fieldLinkNest RX2 128 RX1 "games" "I" RX2 : Cond) ∈ kNs := List.mem_of_getElem? (i := 1) rfl
theorem qn2 : (.fieldLinkNest RX2 214 RX1 "rallies" "I" RX2 : Cond) ∈ kNs := List.mem_of_getElem? (i := 2) rfl
theorem qn3 : (.fieldLinkNest RX2 231 RX1 "strokes" "I" RX2 : Cond) ∈ kNs := List.mem_of_getElem? (i := 3) rfl
theorem qn4 : (.fieldLinkNest RX2 94 RX0 "fronts" "I" RX2 : Cond) ∈ kNs := List.mem_of_getElem? (i := 4) rfl
theorem qn5 : (.fieldLinkNest RX2 232 RX0 "moments" "I" RX2 : Cond) ∈ kNs := List.mem_of_getElem? (i := 5) rfl
theorem qn6 : (.fieldLinkNest RX2 182 RX0 "ending" "I" RX2 : Cond) ∈ kNs := List.mem_of_getElem? (i := 6) rfl
theorem qn7 : (.methodLinkNest RX2 9 yX1_init RX2 : Cond) ∈ kNs := List.mem_of_getElem? (i := 7) rfl
theorem qn8 : (.methodLinkNest RX2 21 yX0_init RX2 : Cond) ∈ kNs := List.mem_of_getElem? (i := 8) rfl
theorem qn9 : (.methodLinkNest RX2 151 yX1_part RX2 : Cond) ∈ kNs := List.mem_of_getElem? (i := 9) rfl
theorem qn10 : (.methodLinkNest RX2 142 yX0_part RX2 : Cond) ∈ kNs := List.mem_of_getElem? (i := 10) rfl
theorem qn11 : (.methodLinkNest RX2 172 yX0_endPart RX2 : Cond) ∈ kNs := List.mem_of_getElem? (i := 11) rfl
theorem qn12 : (.methodLinkNest RX2 69 yX0_placeToServe RX2 : Cond) ∈ kNs := List.mem_of_getElem? (i := 12) rfl
theorem qn13 : (.methodLinkNest RX2 224 yX0_launch RX2 : Cond) ∈ kNs := List.mem_of_getElem? (i := 13) rfl
theorem qn14 : (.methodLinkNest RX2 100 yX0_become RX2 : Cond) ∈ kNs := List.mem_of_getElem? (i := 14) rfl
theorem qn15 : (.methodLinkNest RX2 228 yX0_fly RX2 : Cond) ∈ kNs := List.mem_of_getElem? (i := 15) rfl
theorem qn16 : (.methodLinkNest RX2 137 yX1_beginMatch RX2 : Cond) ∈ kNs := List.mem_of_getElem? (i := 16) rfl
theorem qn17 : (.methodLinkNest RL 93 yX4_init RL : Cond) ∈ kNs := List.mem_of_getElem? (i := 17) rfl
theorem qn18 : (.arrayOver (.array .int) : Cond) ∈ kNs := List.mem_of_getElem? (i := 18) rfl
section KS
variable {p : Program} {l : Launch} {e : Env} {R : Room} {s : State} {m : MethodId} {args : Array Value} {below : List Frame} {meth : Method} {c : Code} {D : va_G} {cI cJ : ClassId} {A : Nat → Prop} {own : String} {cc : ByteArray} {nL k n : Nat} {ret : Option FieldType} {Q : State → Prop} {w : va_W} {pc : Nat} {lv : List (Nat × Value)} {st : List Value}
theorem k_sub (ks : List Nat) {lv' : List (Nat × Value)} (h : lv_pick lv ks = lv') (kk : kW p l e R s m args below meth c D A nL k n Q w pc lv' st) : kW p l e R s m args below meth c D A nL k n Q w pc lv st :=
  fun H locs ls hP hD hS hl => kk H locs ls hP hD hS (lv_sub hl ks h)
theorem k_ishr (C : kCx p s m args meth c own cc nL ret D cI cJ A) {x y : Int32} (d : decode cc pc = .ok (.ishr, 1)) (kk : kW p l e R s m args below meth c D A nL k n Q w (pc + 1) lv (.int (x >>> (y &&& 31)) :: st)) : kW p l e R s m args below meth c D A nL k n Q w pc lv (.int y :: .int x :: st) :=
  fun H locs ls hP hD hS hl => lv_ishr C.1 C.2.1 d (kk H locs ls hP hD hS hl)
theorem k_ior (C : kCx p s m args meth c own cc nL ret D cI cJ A) {x y : Int32} (d : decode cc pc = .ok (.ior, 1)) (kk : kW p l e R s m args below meth c D A nL k n Q w (pc + 1) lv (.int (x ||| y) :: st)) : kW p l e R s m args below meth c D A nL k n Q w pc lv (.int y :: .int x :: st) :=
  fun H locs ls hP hD hS hl => lv_ior C.1 C.2.1 d (kk H locs ls hP hD hS hl)
theorem k_iushr (C : kCx p s m args meth c own cc nL ret D cI cJ A) {x y : Int32} (d : decode cc pc = .ok (.iushr, 1)) (kk : kW p l e R s m args below meth c D A nL k n Q w (pc + 1) lv (.int (x.toUInt32 >>> (y.toUInt32 &&& Int32.toUInt32 31)).toInt32 :: st)) : kW p l e R s m args below meth c D A nL k n Q w pc lv (.int y :: .int x :: st) :=
  fun H locs ls hP hD hS hl => lv_iushr C.1 C.2.1 d rfl (kk H locs ls hP hD hS hl)
theorem k_iaddL (C : kCx p s m args meth c own cc nL ret D cI cJ A) {x y : Int32} (v : Int32) (hv : x + y = v) (d : decode cc pc = .ok (.iadd, 1)) (kk : kW p l e R s m args below meth c D A nL k n Q w (pc + 1) lv (.int v :: st)) : kW p l e R s m args below meth c D A nL k n Q w pc lv (.int y :: .int x :: st) :=
  fun H locs ls hP hD hS hl => lv_iadd C.1 C.2.1 d (by rw [hv]; exact kk H locs ls hP hD hS hl)
theorem k_isubL (C : kCx p s m args meth c own cc nL ret D cI cJ A) {x y : Int32} (v : Int32) (hv : x - y = v) (d : decode cc pc = .ok (.isub, 1)) (kk : kW p l e R s m args below meth c D A nL k n Q w (pc + 1) lv (.int v :: st)) : kW p l e R s m args below meth c D A nL k n Q w pc lv (.int y :: .int x :: st) :=
  fun H locs ls hP hD hS hl => lv_isub C.1 C.2.1 d (by rw [hv]; exact kk H locs ls hP hD hS hl)
theorem k_imulL (C : kCx p s m args meth c own cc nL ret D cI cJ A) {x y : Int32} (v : Int32) (hv : x * y = v) (d : decode cc pc = .ok (.imul, 1)) (kk : kW p l e R s m args below meth c D A nL k n Q w (pc + 1) lv (.int v :: st)) : kW p l e R s m args below meth c D A nL k n Q w pc lv (.int y :: .int x :: st) :=
  fun H locs ls hP hD hS hl => lv_imul C.1 C.2.1 d (by rw [hv]; exact kk H locs ls hP hD hS hl)
end KS
theorem hdJ6_signum_0f7a4 : yJ6_signum_0f7a4.cls ≠ "java/lang/invoke/MethodHandle" ∧ yJ6_signum_0f7a4.cls ≠ "java/lang/invoke/VarHandle" ∧ (parseMethodDescriptor yJ6_signum_0f7a4.desc).map (fun d => d.parameters.length) = some 1 := by decide +kernel
def fJ6_signum (x : Int32) : Int32 := (x >>> ((31 : Int32) &&& 31)) ||| ((-x).toUInt32 >>> ((31 : Int32).toUInt32 &&& Int32.toUInt32 31)).toInt32
theorem mJ6_signum (l : Launch) (D : va_G) (cI cJ : ClassId) (x : Int32) : kCi l D cI cJ yJ6_signum_0f7a4 (.code yJ6_signum_0f7a4 cJ6_signum_0f7a4 1 (some .int)) { frames := 0, cells := 0, slots := 0, locals := 0 } [.int x] [] (fJ6_signum x) [] := by
  refine fun sz => k_of (lv := [(0, .int x)]) (by decide) sz (Nat.le_of_ble_eq_true rfl) rfl ?_
  intro p e s m args below meth c hsz C
  refine k_iload_n C dJ6_signum_0f7a4_0 0 rfl ?_
  refine k_bipush C 31 (by decide) dJ6_signum_0f7a4_1 ?_
  refine k_ishr C dJ6_signum_0f7a4_3 ?_
  refine k_iload_n C dJ6_signum_0f7a4_4 0 rfl ?_
  refine k_ineg C dJ6_signum_0f7a4_5 ?_
  refine k_bipush C 31 (by decide) dJ6_signum_0f7a4_6 ?_
  refine k_iushr C dJ6_signum_0f7a4_8 ?_
  refine k_ior C dJ6_signum_0f7a4_9 ?_
  exact k_iret C rfl rfl rfl dJ6_signum_0f7a4_10
