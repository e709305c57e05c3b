/-! what is made: objects, rows, the two constructors -/
section KN
variable {l : Launch} {D : va_G} {cI cJ : ClassId} {y : MethodName} {bytes : ByteArray} {maxL : Nat} {rm : Room} {As : List Value} {w w' : va_W} {lv : List (Nat × Value)} {ret : Option FieldType}
theorem k_ofN {Qc : Array Value → State → Outcome → State → Prop} {mc ms : Nat} (hy : plainName y.cls = true) (sz : Nat) (hn : (lg_sl As).length ≤ maxL) (hlv : lv_args 0 As = lv)
    (body : ∀ (p : Program) (e : Env) (s : State) (m : MethodId) (args : Array Value) (below : List Frame) (meth : Method) (c : Code), s.heap.size = sz → meth.name = y.name → kCx p s m args meth c y.cls bytes maxL ret D cI cJ (va_A w sz) →
      kW p l e rm s m args below meth c D (va_A w sz) maxL 0 0 (MQ below Qc args s mc ms (va_A w sz)) w 0 lv []) :
    Met l y (Cond.code y bytes maxL ret :: kAll) rm (kPc D cI cJ As w sz) Qc mc ms (va_A w sz) := by
  refine Met.ofW (cc := bytes) (maxL := maxL) (ret := ret) hy rfl ?_
  intro p e s m args below meth c s₁ B hml hv
  obtain ⟨rfl, hsz, hP, hK, hD0, hN⟩ := hv
  have hts := atoms_spec (ws := Cond.code y bytes maxL ret :: kAll) B.pre
  have hown : s.vm.findClass y.cls = some m.cls := findClass_of_methodNamed B.named
  have hin : meth.name = y.name := (name_of_methodNamed B.named B.method).1
  subst hsz
  have hD := hD0.self (sz := s.heap.size)
  have hS : va_S (va_A w s.heap.size) s.heap s.heap [] := va_S.rf
  have hl := lv_entry As (n := maxL) hn
  rw [hlv] at hl
  rw [lg_entry_eq]
  exact body p e s m As.toArray below meth c rfl hin ⟨B.exec, B.bytes, hml, hown, fun w h => hts w (List.mem_cons_of_mem _ h), hK, hN, fun q h => Or.inr h, B.returns, B.notSynchronized⟩ s.heap [] _ hP hD hS hl
end KN
section KM
variable {p : Program} {l : Launch} {e : Env} {R : Room} {s : State} {m : MethodId} {args : Array Value} {below : List Frame} {meth : Method} {c : Code} {D : va_G} {cI cJ : ClassId} {A : Nat → Prop} {own : String} {cc : ByteArray} {nL k n : Nat} {ret : Option FieldType} {Q : State → Prop} {w : va_W} {pc : Nat} {lv : List (Nat × Value)} {st : List Value}
theorem k_objInit (C : kCx p s m args meth c own cc nL ret D cI cJ A) {index a : Nat} (hq : (.methodLink own index objectInit : Cond) ∈ kAll) (hf : 1 ≤ R.frames) (hlo : (st.map fun v => v.category).sum + 12 ≤ R.locals) (d : decode cc pc = .ok (.invokespecial index, 3)) (kk : kW p l e R s m args below meth c D A nL k n Q w (pc + 3) lv st) : kW p l e R s m args below meth c D A nL k n Q w pc lv (.ref a :: st) :=
  fun H locs ls hP hD hS hl => W.objInit C.1 C.2.1 C.2.2.2.1 (C.2.2.2.2.1 _ hq) (C.2.2.2.2.1 _ q54) (C.2.2.2.2.1 _ q55) rfl (hl.1.trans C.2.2.1.symm) rfl d hf (by show 2 * 0 + _ + 12 ≤ _; omega) (W.eq (g2 := F0 m (pc + 3) ls st) rfl (kk H locs ls hP hD hS hl))
theorem k_newX0 (C : kCx p s m args meth c own cc nL ret D cI cJ A) {index : Nat} (hcl : (.classLink own index RX0 : Cond) ∈ kAll) (hin : (.instantiable RX0 11 : Cond) ∈ kAll) (hini : (.initialized RX0 : Cond) ∈ kAll) (fs : List Value) (hfs : ∀ j, j < 11 → defaultValue (tyX0 j) = vp_V fs j) (hk : k + 1 ≤ R.cells) (hn : n + 11 ≤ R.slots) (d : decode cc pc = .ok (.new index, 3)) (kk : ∀ q : Nat, kW p l e R s m args below meth c D A nL (k + 1) (n + 11) Q (w ++ [(q, .inr (0, fs))]) (pc + 3) lv (.ref q :: st)) : kW p l e R s m args below meth c D A nL k n Q w pc lv st :=
  fun H locs ls hP hD hS hl => va_new (ci := 0) (fs := fs) (C := RX0) (T := TX0) (N := 11) C.1 C.2.1 C.2.2.2.2.1 iwX0 tyX0 tyX0_ok C.2.2.2.1 (C.2.2.2.2.1 _ hcl) (C.2.2.2.2.1 _ hin) (C.2.2.2.2.1 _ hini) C.2.2.2.2.2.1 hP hD hS C.2.2.2.2.2.2.2.1 rfl hfs hk hn d (fun q H1 hP1 hD1 hS1 => kk q H1 locs ls hP1 hD1 hS1 hl)
theorem k_newX1 (C : kCx p s m args meth c own cc nL ret D cI cJ A) {index : Nat} (hcl : (.classLink own index RX1 : Cond) ∈ kAll) (hin : (.instantiable RX1 4 : Cond) ∈ kAll) (hini : (.initialized RX1 : Cond) ∈ kAll) (fs : List Value) (hfs : ∀ j, j < 4 → defaultValue (tyX1 j) = vp_V fs j) (hk : k + 1 ≤ R.cells) (hn : n + 4 ≤ R.slots) (d : decode cc pc = .ok (.new index, 3)) (kk : ∀ q : Nat, kW p l e R s m args below meth c D A nL (k + 1) (n + 4) Q (w ++ [(q, .inr (1, fs))]) (pc + 3) lv (.ref q :: st)) : kW p l e R s m args below meth c D A nL k n Q w pc lv st :=
  fun H locs ls hP hD hS hl => va_new (ci := 1) (fs := fs) (C := RX1) (T := TX1) (N := 4) C.1 C.2.1 C.2.2.2.2.1 iwX1 tyX1 tyX1_ok C.2.2.2.1 (C.2.2.2.2.1 _ hcl) (C.2.2.2.2.1 _ hin) (C.2.2.2.2.1 _ hini) C.2.2.2.2.2.1 hP hD hS C.2.2.2.2.2.2.2.1 rfl hfs hk hn d (fun q H1 hP1 hD1 hS1 => kk q H1 locs ls hP1 hD1 hS1 hl)
theorem k_newX2 (C : kCx p s m args meth c own cc nL ret D cI cJ A) {index : Nat} (hcl : (.classLink own index RX2 : Cond) ∈ kAll) (hin : (.instantiable RX2 15 : Cond) ∈ kAll) (hini : (.initialized RX2 : Cond) ∈ kAll) (fs : List Value) (hfs : ∀ j, j < 15 → defaultValue (tyX2 j) = vp_V fs j) (hk : k + 1 ≤ R.cells) (hn : n + 15 ≤ R.slots) (d : decode cc pc = .ok (.new index, 3)) (kk : ∀ q : Nat, kW p l e R s m args below meth c D A nL (k + 1) (n + 15) Q (w ++ [(q, .inr (2, fs))]) (pc + 3) lv (.ref q :: st)) : kW p l e R s m args below meth c D A nL k n Q w pc lv st :=
  fun H locs ls hP hD hS hl => va_new (ci := 2) (fs := fs) (C := RX2) (T := TX2) (N := 15) C.1 C.2.1 C.2.2.2.2.1 iwX2 tyX2 tyX2_ok C.2.2.2.1 (C.2.2.2.2.1 _ hcl) (C.2.2.2.2.1 _ hin) (C.2.2.2.2.1 _ hini) C.2.2.2.2.2.1 hP hD hS C.2.2.2.2.2.2.2.1 rfl hfs hk hn d (fun q H1 hP1 hD1 hS1 => kk q H1 locs ls hP1 hD1 hS1 hl)
theorem k_newX3 (C : kCx p s m args meth c own cc nL ret D cI cJ A) {index : Nat} (hcl : (.classLink own index RX3 : Cond) ∈ kAll) (hin : (.instantiable RX3 10 : Cond) ∈ kAll) (hini : (.initialized RX3 : Cond) ∈ kAll) (fs : List Value) (hfs : ∀ j, j < 10 → defaultValue (tyX3 j) = vp_V fs j) (hk : k + 1 ≤ R.cells) (hn : n + 10 ≤ R.slots) (d : decode cc pc = .ok (.new index, 3)) (kk : ∀ q : Nat, kW p l e R s m args below meth c D A nL (k + 1) (n + 10) Q (w ++ [(q, .inr (3, fs))]) (pc + 3) lv (.ref q :: st)) : kW p l e R s m args below meth c D A nL k n Q w pc lv st :=
  fun H locs ls hP hD hS hl => va_new (ci := 3) (fs := fs) (C := RX3) (T := TX3) (N := 10) C.1 C.2.1 C.2.2.2.2.1 iwX3 tyX3 tyX3_ok C.2.2.2.1 (C.2.2.2.2.1 _ hcl) (C.2.2.2.2.1 _ hin) (C.2.2.2.2.1 _ hini) C.2.2.2.2.2.1 hP hD hS C.2.2.2.2.2.2.2.1 rfl hfs hk hn d (fun q H1 hP1 hD1 hS1 => kk q H1 locs ls hP1 hD1 hS1 hl)
theorem k_newX4 (C : kCx p s m args meth c own cc nL ret D cI cJ A) {index : Nat} (hcl : (.classLink own index RX4 : Cond) ∈ kAll) (hin : (.instantiable RX4 11 : Cond) ∈ kAll) (hini : (.initialized RX4 : Cond) ∈ kAll) (fs : List Value) (hfs : ∀ j, j < 11 → defaultValue (tyX4 j) = vp_V fs j) (hk : k + 1 ≤ R.cells) (hn : n + 11 ≤ R.slots) (d : decode cc pc = .ok (.new index, 3)) (kk : ∀ q : Nat, kW p l e R s m args below meth c D A nL (k + 1) (n + 11) Q (w ++ [(q, .inr (4, fs))]) (pc + 3) lv (.ref q :: st)) : kW p l e R s m args below meth c D A nL k n Q w pc lv st :=
  fun H locs ls hP hD hS hl => va_new (ci := 4) (fs := fs) (C := RX4) (T := TX4) (N := 11) C.1 C.2.1 C.2.2.2.2.1 iwX4 tyX4 tyX4_ok C.2.2.2.1 (C.2.2.2.2.1 _ hcl) (C.2.2.2.2.1 _ hin) (C.2.2.2.2.1 _ hini) C.2.2.2.2.2.1 hP hD hS C.2.2.2.2.2.2.2.1 rfl hfs hk hn d (fun q H1 hP1 hD1 hS1 => kk q H1 locs ls hP1 hD1 hS1 hl)
theorem k_putFX2 (C : kCx p s m args meth c own cc nL ret D cI cJ A) (hin : meth.name = "<init>") {a index : Nat} {fs : List Value} {v : Value} {ty : FieldType} (w' : va_W) (q4 j : Nat) (he : w[q4]? = some (a, .inr (2, fs))) (hw : w.set q4 (a, .inr (2, fs.set j v)) = w') (hj : j < 15) (hq : (.fieldLink own index RX2 (TX2 j).2.1 (TX2 j).2.2.1 : Cond) ∈ kAll) (hs : (TX2 j).1 = RX2) (ho : (TX2 j).1 = own) (hfin : (TX2 j).2.2.2 = true) (hd : parseFieldDescriptor (TX2 j).2.2.1 = some ty) (hn : narrow ty v = v) (hfit : fits ty v = true) (hlen : j < fs.length) (d : decode cc pc = .ok (.putfield index, 3)) (kk : kW p l e R s m args below meth c D A nL k n Q w' (pc + 3) lv st) : kW p l e R s m args below meth c D A nL k n Q w pc lv (v :: .ref a :: st) :=
  fun H locs ls hP hD hS hl => va_putF (D := D) (ci := 2) (C := RX2) (T := TX2) (N := 15) C.1 C.2.1 C.2.2.2.2.1 iwX2 tyX2 tyX2_ok nmX2 C.2.2.2.1 C.2.2.2.2.2.1 hP hD hS q4 he rfl j hj (C.2.2.2.2.1 _ hq) (fun x h9 => by rw [hs] at h9; exact h9) hfin hin ho hd hn hfit hlen d (fun H1 locs1 hP1 hD1 hS1 => kk H1 locs1 ls (hw ▸ hP1) (hw ▸ hD1) hS1 hl)
theorem k_newI (C : kCx p s m args meth c own cc nL ret D cI cJ A) {z : Int32} (N' : Nat) (f : Nat → Int32) (ha : ∀ cA : ClassId, vp_cell cA (N', .inl f) = arrV cA N' (fun _ => defaultValue .int)) (hz : ¬ z < 0) (hN : z.toNatClampNeg = N') (hb : N' * componentBytes .int ≤ 536870912) (hk : k + 1 ≤ R.cells) (hn : n + N' ≤ R.slots) (d : decode cc pc = .ok (.newarray .int, 2)) (kk : ∀ q : Nat, kW p l e R s m args below meth c D A nL (k + 1) (n + N') Q (w ++ [(q, .inl (cI, N', .inl f))]) (pc + 2) lv (.ref q :: st)) : kW p l e R s m args below meth c D A nL k n Q w pc lv (.int z :: st) := by
  intro H locs ls hP hD hS hl
  refine va_newa (atype := .int) (ty := .int) C.1 C.2.1 (C.2.2.2.2.1 _ q461) rfl C.2.2.2.2.2.1 hP hD hS C.2.2.2.2.2.2.2.1 ha hz hN hb hk hn d (fun q cA H1 hK1 hP1 hD1 hS1 => ?_)
  have e1 : s.vm.findClass ("[" ++ FieldType.int.toString) = some cI := (C.2.2.2.2.2.1.2 0 (cI, .int) rfl).2
  have e2 : s.vm.findClass ("[" ++ FieldType.int.toString) = some cA := (hK1.2 2 (cA, .int) rfl).2
  cases Option.some.inj (e1.symm.trans e2)
  exact kk q H1 locs ls hP1 hD1 hS1 hl
theorem k_callIN (C : kCx p s m args meth c own cc nL ret D cI cJ A) {y : MethodName} {bytes : ByteArray} {maxL index b : Nat} {rm : Room} {rest : List Value} {wc : va_W} (hM : kCv l D cI cJ y (.code y bytes maxL none) rm [.ref b] wc wc) (cw : va_CN R s args own index y RX2 bytes maxL none (.code y bytes maxL none :: kAll) rm 0 0 0 ∧ y.name = "<init>" ∧ (Cond.instanceMethod y).before args s = true) (isC isR perm : List Nat) (wr : va_W) (hnC : va_nd isC = true) (hC : isC.map (fun i => w[i]?) = wc.map some) (hR : isR.map (fun i => w[i]?) = wr.map some) (hnR : va_nd isR = true) (hdis : ∀ i ∈ isR, i ∉ isC) (hnP : va_nd perm = true) (hPm : perm.map (fun i => (wr ++ wc)[i]?) = w.map some) (hcat : (rest.map fun v => v.category).sum ≤ 8) (hcs : k ≤ R.cells ∧ n ≤ R.slots) (d : decode cc pc = .ok (.invokespecial index, 3)) (kk : kW p l e R s m args below meth c D A nL k n Q w (pc + 3) lv rest) : kW p l e R s m args below meth c D A nL k n Q w pc lv (.ref b :: rest) := by
  intro H locs ls hP hD hS hl
  have hFc : ∀ q, va_A wc H.size q → A q := va_free hD hS C.2.2.2.2.2.2.2.1 isC hC
  refine va_callv (va_runIN (As := []) (rest := rest) ⟨C.1, C.2.1, C.2.2.1, C.2.2.2.1, C.2.2.2.2.1⟩ (hM H.size) cw ⟨kPc_blind, fun U hU hW => ⟨rfl, by rw [hU], by rw [hU]; exact hP.sub isC (filter_of hC), va_K.moved hW.alike C.2.2.2.2.2.1, (hD.sub isC hnC hC).weaken (fun _ _ _ _ => trivial), C.2.2.2.2.2.2.1.warm hW⟩⟩ rfl rfl hl.1 rfl (lv_room hcat) d hcs) hS (fun q _ h => hFc q h) hFc (fun u t H1 locs1 ht hvm hw hB hz1 hk1 hS1 => ?_)
  rw [ht] at hB
  obtain ⟨hP2, hD2⟩ := va_join hP hD isC isR hC hR hnR hdis hk1 hFc hB ((hD.sub isC hnC hC).self)
  exact kk H1 locs1 ls (hP2.sub perm (filter_of hPm)) (hD2.sub perm hnP hPm) hS1 hl
theorem k_callIO (C : kCx p s m args meth c own cc nL ret D cI cJ A) {y : MethodName} {bytes : ByteArray} {maxL index b : Nat} {rm : Room} {rest : List Value} {wc : va_W} (hM : kCv l D cI cJ y (.code y bytes maxL none) rm [.ref b] wc wc) (cw : CallB R s args own index y bytes maxL none (.code y bytes maxL none :: kAll) rm 0 0 0 ∧ y.name = "<init>" ∧ (Cond.instanceMethod y).before args s = true) (isC isR perm : List Nat) (wr : va_W) (hnC : va_nd isC = true) (hC : isC.map (fun i => w[i]?) = wc.map some) (hR : isR.map (fun i => w[i]?) = wr.map some) (hnR : va_nd isR = true) (hdis : ∀ i ∈ isR, i ∉ isC) (hnP : va_nd perm = true) (hPm : perm.map (fun i => (wr ++ wc)[i]?) = w.map some) (hcat : (rest.map fun v => v.category).sum ≤ 8) (hcs : k ≤ R.cells ∧ n ≤ R.slots) (d : decode cc pc = .ok (.invokespecial index, 3)) (kk : kW p l e R s m args below meth c D A nL k n Q w (pc + 3) lv rest) : kW p l e R s m args below meth c D A nL k n Q w pc lv (.ref b :: rest) := by
  intro H locs ls hP hD hS hl
  have hFc : ∀ q, va_A wc H.size q → A q := va_free hD hS C.2.2.2.2.2.2.2.1 isC hC
  refine va_callv (va_runI (As := []) (rest := rest) ⟨C.1, C.2.1, C.2.2.1, C.2.2.2.1, C.2.2.2.2.1⟩ (hM H.size) cw ⟨kPc_blind, fun U hU hW => ⟨rfl, by rw [hU], by rw [hU]; exact hP.sub isC (filter_of hC), va_K.moved hW.alike C.2.2.2.2.2.1, (hD.sub isC hnC hC).weaken (fun _ _ _ _ => trivial), C.2.2.2.2.2.2.1.warm hW⟩⟩ rfl rfl hl.1 rfl (lv_room hcat) d hcs) hS (fun q _ h => hFc q h) hFc (fun u t H1 locs1 ht hvm hw hB hz1 hk1 hS1 => ?_)
  rw [ht] at hB
  obtain ⟨hP2, hD2⟩ := va_join hP hD isC isR hC hR hnR hdis hk1 hFc hB ((hD.sub isC hnC hC).self)
  exact kk H1 locs1 ls (hP2.sub perm (filter_of hPm)) (hD2.sub perm hnP hPm) hS1 hl
end KM
theorem hdX0_init : yX0_init.cls ≠ "java/lang/invoke/MethodHandle" ∧ yX0_init.cls ≠ "java/lang/invoke/VarHandle" ∧ (parseMethodDescriptor yX0_init.desc).map (fun d => d.parameters.length) = some 0 := by decide +kernel
theorem mX0_init (l : Launch) (D : va_G) (cI cJ : ClassId) (h : Nat) (b : Ba) : kCv l D cI cJ yX0_init (.code yX0_init cX0_init 1 none) { frames := 1, cells := 0, slots := 0, locals := 20 } [.ref h] [(h, cB b)] [(h, cB b)] := by
  refine fun sz => k_of (lv := [(0, .ref h)]) (by decide) sz (Nat.le_of_ble_eq_true rfl) rfl ?_
  intro p e s m args below meth c hsz C
  refine k_aload_n C dX0_init_0 0 rfl ?_
  refine k_objInit C q84 (Nat.le_of_ble_eq_true rfl) (Nat.le_of_ble_eq_true rfl) dX0_init_1 ?_
  exact k_vret C rfl rfl dX0_init_4
theorem hdX1_init : yX1_init.cls ≠ "java/lang/invoke/MethodHandle" ∧ yX1_init.cls ≠ "java/lang/invoke/VarHandle" ∧ (parseMethodDescriptor yX1_init.desc).map (fun d => d.parameters.length) = some 0 := by decide +kernel
theorem mX1_init (l : Launch) (D : va_G) (cI cJ : ClassId) (h : Nat) (b : Sd) : kCv l D cI cJ yX1_init (.code yX1_init cX1_init 1 none) { frames := 1, cells := 0, slots := 0, locals := 20 } [.ref h] [(h, cS b)] [(h, cS b)] := by
  refine fun sz => k_of (lv := [(0, .ref h)]) (by decide) sz (Nat.le_of_ble_eq_true rfl) rfl ?_
  intro p e s m args below meth c hsz C
  refine k_aload_n C dX1_init_0 0 rfl ?_
  refine k_objInit C q61 (Nat.le_of_ble_eq_true rfl) (Nat.le_of_ble_eq_true rfl) dX1_init_1 ?_
  exact k_vret C rfl rfl dX1_init_4
def X0co : Co := ((0, 0, 0, 0), (0, 0, 0, 0), (0, 0, 0, 0, 0, 0, 0, 0, 0, 0, 0), (0, 0, 0, 0, 0, 0, 0, 0, 0, 0, 0), (0, 0, 0, 0, 0, 0, 0, 0, 0, 0, 0), (0, 0, 0, 0, 0, 0, 0, 0, 0, 0, 0), 0, 0, 0, 12, (-1), 0, 0, 0, 0)
def wC0 (a0 : Nat) : va_W := [(a0, .inr (2, [.null, .null, .null, .null, .null, .null, .int 0, .int 0, .int 0, .int 0, .int 0, .int 0, .int 0, .int 0, .int 0]))]
set_option maxHeartbeats 4000000 in
set_option maxRecDepth 100000 in
theorem mX2_init (l : Launch) (D : va_G) (cI cJ : ClassId) (a0 sz : Nat) : Met l yX2_init (.code yX2_init cX2_init 1 none :: kAll) { frames := 2, cells := 6, slots := 52, locals := 60 } (kPc D cI cJ [.ref a0] [(a0, .inr (2, [.null, .null, .null, .null, .null, .null, .int 0, .int 0, .int 0, .int 0, .int 0, .int 0, .int 0, .int 0, .int 0]))] sz) (va_Qv (fun _ : Unit => True) (fun _ t => ∃ a1 a2 a3 a4 a5 a6 : Nat, va_P D kCl (wC a0 a1 a2 a3 a4 a5 a6 X0co) t.heap ∧ va_D (va_A [(a0, .inr (2, [.null, .null, .null, .null, .null, .null, .int 0, .int 0, .int 0, .int 0, .int 0, .int 0, .int 0, .int 0, .int 0]))] sz) (wC a0 a1 a2 a3 a4 a5 a6 X0co)) (va_A [(a0, .inr (2, [.null, .null, .null, .null, .null, .null, .int 0, .int 0, .int 0, .int 0, .int 0, .int 0, .int 0, .int 0, .int 0]))] sz)) 6 52 (va_A [(a0, .inr (2, [.null, .null, .null, .null, .null, .null, .int 0, .int 0, .int 0, .int 0, .int 0, .int 0, .int 0, .int 0, .int 0]))] sz) := by
  refine k_ofN (lv := [(0, .ref a0)]) (by decide) sz (Nat.le_of_ble_eq_true rfl) rfl ?_
  intro p e s m args below meth c hsz hin C
  refine k_aload_n C dX2_init_0 0 rfl ?_
  refine k_objInit C q53 (Nat.le_of_ble_eq_true rfl) (Nat.le_of_ble_eq_true rfl) dX2_init_1 ?_
  refine k_aload_n C dX2_init_4 0 rfl ?_
  refine k_newX1 C q56 q57 q36 [.int 0, .int 0, .int 0, .int 0] (fun j hj => by rcases (show j = 0 ∨ j = 1 ∨ j = 2 ∨ j = 3 by omega) with rfl | rfl | rfl | rfl <;> rfl) (Nat.le_of_ble_eq_true rfl) (Nat.le_of_ble_eq_true rfl) dX2_init_5 (fun a1 => ?_)
  refine k_dup C rfl dX2_init_8 ?_
  refine k_callIN C (mX1_init l D cI cJ a1 (0, 0, 0, 0)) ⟨va_cnB 0 C.2.2.2.2.1 (kGN q60) rfl rfl rfl (C.2.2.2.2.2.2.1 _ qn7) (C.2.2.2.2.1 _ q36) hdX1_init ⟨Nat.le_of_ble_eq_true rfl, Nat.le_of_ble_eq_true rfl⟩, rfl, C.2.2.2.2.1 _ q59⟩ [1] [0] [0, 1] [(a0, .inr (2, [.null, .null, .null, .null, .null, .null, .int 0, .int 0, .int 0, .int 0, .int 0, .int 0, .int 0, .int 0, .int 0]))] rfl rfl rfl rfl (by decide) rfl rfl (Nat.le_of_ble_eq_true rfl) ⟨Nat.le_of_ble_eq_true rfl, Nat.le_of_ble_eq_true rfl⟩ dX2_init_9 ?_
  refine k_putFX2 (ty := .object "FivesCourt$Side") C hin [(a0, .inr (2, [.ref a1, .null, .null, .null, .null, .null, .int 0, .int 0, .int 0, .int 0, .int 0, .int 0, .int 0, .int 0, .int 0])), (a1, cS (0, 0, 0, 0))] 0 0 rfl rfl (by decide) q122 rfl rfl rfl (by decide +kernel) rfl rfl (Nat.le_of_ble_eq_true rfl) dX2_init_12 ?_
  refine k_aload_n C dX2_init_15 0 rfl ?_
  refine k_newX1 C q56 q57 q36 [.int 0, .int 0, .int 0, .int 0] (fun j hj => by rcases (show j = 0 ∨ j = 1 ∨ j = 2 ∨ j = 3 by omega) with rfl | rfl | rfl | rfl <;> rfl) (Nat.le_of_ble_eq_true rfl) (Nat.le_of_ble_eq_true rfl) dX2_init_16 (fun a2 => ?_)
  refine k_dup C rfl dX2_init_19 ?_
  refine k_callIN C (mX1_init l D cI cJ a2 (0, 0, 0, 0)) ⟨va_cnB 0 C.2.2.2.2.1 (kGN q60) rfl rfl rfl (C.2.2.2.2.2.2.1 _ qn7) (C.2.2.2.2.1 _ q36) hdX1_init ⟨Nat.le_of_ble_eq_true rfl, Nat.le_of_ble_eq_true rfl⟩, rfl, C.2.2.2.2.1 _ q59⟩ [2] [0, 1] [0, 1, 2] [(a0, .inr (2, [.ref a1, .null, .null, .null, .null, .null, .int 0, .int 0, .int 0, .int 0, .int 0, .int 0, .int 0, .int 0, .int 0])), (a1, cS (0, 0, 0, 0))] rfl rfl rfl rfl (by decide) rfl rfl (Nat.le_of_ble_eq_true rfl) ⟨Nat.le_of_ble_eq_true rfl, Nat.le_of_ble_eq_true rfl⟩ dX2_init_20 ?_
  refine k_putFX2 (ty := .object "FivesCourt$Side") C hin [(a0, .inr (2, [.ref a1, .ref a2, .null, .null, .null, .null, .int 0, .int 0, .int 0, .int 0, .int 0, .int 0, .int 0, .int 0, .int 0])), (a1, cS (0, 0, 0, 0)), (a2, cS (0, 0, 0, 0))] 0 1 rfl rfl (by decide) q123 rfl rfl rfl (by decide +kernel) rfl rfl (Nat.le_of_ble_eq_true rfl) dX2_init_23 ?_
  refine k_aload_n C dX2_init_26 0 rfl ?_
  refine k_newX0 C q79 q80 q37 [.int 0, .int 0, .int 0, .int 0, .int 0, .int 0, .int 0, .int 0, .int 0, .int 0, .int 0] (fun j hj => by rcases (show j = 0 ∨ j = 1 ∨ j = 2 ∨ j = 3 ∨ j = 4 ∨ j = 5 ∨ j = 6 ∨ j = 7 ∨ j = 8 ∨ j = 9 ∨ j = 10 by omega) with rfl | rfl | rfl | rfl | rfl | rfl | rfl | rfl | rfl | rfl | rfl <;> rfl) (Nat.le_of_ble_eq_true rfl) (Nat.le_of_ble_eq_true rfl) dX2_init_27 (fun a3 => ?_)
  refine k_dup C rfl dX2_init_30 ?_
  refine k_callIN C (mX0_init l D cI cJ a3 (0, 0, 0, 0, 0, 0, 0, 0, 0, 0, 0)) ⟨va_cnB 0 C.2.2.2.2.1 (kGN q83) rfl rfl rfl (C.2.2.2.2.2.2.1 _ qn8) (C.2.2.2.2.1 _ q37) hdX0_init ⟨Nat.le_of_ble_eq_true rfl, Nat.le_of_ble_eq_true rfl⟩, rfl, C.2.2.2.2.1 _ q82⟩ [3] [0, 1, 2] [0, 1, 2, 3] [(a0, .inr (2, [.ref a1, .ref a2, .null, .null, .null, .null, .int 0, .int 0, .int 0, .int 0, .int 0, .int 0, .int 0, .int 0, .int 0])), (a1, cS (0, 0, 0, 0)), (a2, cS (0, 0, 0, 0))] rfl rfl rfl rfl (by decide) rfl rfl (Nat.le_of_ble_eq_true rfl) ⟨Nat.le_of_ble_eq_true rfl, Nat.le_of_ble_eq_true rfl⟩ dX2_init_31 ?_
  refine k_putFX2 (ty := .object "FivesCourt$Ball") C hin [(a0, .inr (2, [.ref a1, .ref a2, .ref a3, .null, .null, .null, .int 0, .int 0, .int 0, .int 0, .int 0, .int 0, .int 0, .int 0, .int 0])), (a1, cS (0, 0, 0, 0)), (a2, cS (0, 0, 0, 0)), (a3, cB (0, 0, 0, 0, 0, 0, 0, 0, 0, 0, 0))] 0 2 rfl rfl (by decide) q124 rfl rfl rfl (by decide +kernel) rfl rfl (Nat.le_of_ble_eq_true rfl) dX2_init_34 ?_
  refine k_aload_n C dX2_init_37 0 rfl ?_
  refine k_newX0 C q79 q80 q37 [.int 0, .int 0, .int 0, .int 0, .int 0, .int 0, .int 0, .int 0, .int 0, .int 0, .int 0] (fun j hj => by rcases (show j = 0 ∨ j = 1 ∨ j = 2 ∨ j = 3 ∨ j = 4 ∨ j = 5 ∨ j = 6 ∨ j = 7 ∨ j = 8 ∨ j = 9 ∨ j = 10 by omega) with rfl | rfl | rfl | rfl | rfl | rfl | rfl | rfl | rfl | rfl | rfl <;> rfl) (Nat.le_of_ble_eq_true rfl) (Nat.le_of_ble_eq_true rfl) dX2_init_38 (fun a4 => ?_)
  refine k_dup C rfl dX2_init_41 ?_
  refine k_callIN C (mX0_init l D cI cJ a4 (0, 0, 0, 0, 0, 0, 0, 0, 0, 0, 0)) ⟨va_cnB 0 C.2.2.2.2.1 (kGN q83) rfl rfl rfl (C.2.2.2.2.2.2.1 _ qn8) (C.2.2.2.2.1 _ q37) hdX0_init ⟨Nat.le_of_ble_eq_true rfl, Nat.le_of_ble_eq_true rfl⟩, rfl, C.2.2.2.2.1 _ q82⟩ [4] [0, 1, 2, 3] [0, 1, 2, 3, 4] [(a0, .inr (2, [.ref a1, .ref a2, .ref a3, .null, .null, .null, .int 0, .int 0, .int 0, .int 0, .int 0, .int 0, .int 0, .int 0, .int 0])), (a1, cS (0, 0, 0, 0)), (a2, cS (0, 0, 0, 0)), (a3, cB (0, 0, 0, 0, 0, 0, 0, 0, 0, 0, 0))] rfl rfl rfl rfl (by decide) rfl rfl (Nat.le_of_ble_eq_true rfl) ⟨Nat.le_of_ble_eq_true rfl, Nat.le_of_ble_eq_true rfl⟩ dX2_init_42 ?_
  refine k_putFX2 (ty := .object "FivesCourt$Ball") C hin [(a0, .inr (2, [.ref a1, .ref a2, .ref a3, .ref a4, .null, .null, .int 0, .int 0, .int 0, .int 0, .int 0, .int 0, .int 0, .int 0, .int 0])), (a1, cS (0, 0, 0, 0)), (a2, cS (0, 0, 0, 0)), (a3, cB (0, 0, 0, 0, 0, 0, 0, 0, 0, 0, 0)), (a4, cB (0, 0, 0, 0, 0, 0, 0, 0, 0, 0, 0))] 0 3 rfl rfl (by decide) q125 rfl rfl rfl (by decide +kernel) rfl rfl (Nat.le_of_ble_eq_true rfl) dX2_init_45 ?_
  refine k_aload_n C dX2_init_48 0 rfl ?_
  refine k_newX0 C q79 q80 q37 [.int 0, .int 0, .int 0, .int 0, .int 0, .int 0, .int 0, .int 0, .int 0, .int 0, .int 0] (fun j hj => by rcases (show j = 0 ∨ j = 1 ∨ j = 2 ∨ j = 3 ∨ j = 4 ∨ j = 5 ∨ j = 6 ∨ j = 7 ∨ j = 8 ∨ j = 9 ∨ j = 10 by omega) with rfl | rfl | rfl | rfl | rfl | rfl | rfl | rfl | rfl | rfl | rfl <;> rfl) (Nat.le_of_ble_eq_true rfl) (Nat.le_of_ble_eq_true rfl) dX2_init_49 (fun a5 => ?_)
  refine k_dup C rfl dX2_init_52 ?_
  refine k_callIN C (mX0_init l D cI cJ a5 (0, 0, 0, 0, 0, 0, 0, 0, 0, 0, 0)) ⟨va_cnB 0 C.2.2.2.2.1 (kGN q83) rfl rfl rfl (C.2.2.2.2.2.2.1 _ qn8) (C.2.2.2.2.1 _ q37) hdX0_init ⟨Nat.le_of_ble_eq_true rfl, Nat.le_of_ble_eq_true rfl⟩, rfl, C.2.2.2.2.1 _ q82⟩ [5] [0, 1, 2, 3, 4] [0, 1, 2, 3, 4, 5] [(a0, .inr (2, [.ref a1, .ref a2, .ref a3, .ref a4, .null, .null, .int 0, .int 0, .int 0, .int 0, .int 0, .int 0, .int 0, .int 0, .int 0])), (a1, cS (0, 0, 0, 0)), (a2, cS (0, 0, 0, 0)), (a3, cB (0, 0, 0, 0, 0, 0, 0, 0, 0, 0, 0)), (a4, cB (0, 0, 0, 0, 0, 0, 0, 0, 0, 0, 0))] rfl rfl rfl rfl (by decide) rfl rfl (Nat.le_of_ble_eq_true rfl) ⟨Nat.le_of_ble_eq_true rfl, Nat.le_of_ble_eq_true rfl⟩ dX2_init_53 ?_
  refine k_putFX2 (ty := .object "FivesCourt$Ball") C hin [(a0, .inr (2, [.ref a1, .ref a2, .ref a3, .ref a4, .ref a5, .null, .int 0, .int 0, .int 0, .int 0, .int 0, .int 0, .int 0, .int 0, .int 0])), (a1, cS (0, 0, 0, 0)), (a2, cS (0, 0, 0, 0)), (a3, cB (0, 0, 0, 0, 0, 0, 0, 0, 0, 0, 0)), (a4, cB (0, 0, 0, 0, 0, 0, 0, 0, 0, 0, 0)), (a5, cB (0, 0, 0, 0, 0, 0, 0, 0, 0, 0, 0))] 0 4 rfl rfl (by decide) q126 rfl rfl rfl (by decide +kernel) rfl rfl (Nat.le_of_ble_eq_true rfl) dX2_init_56 ?_
  refine k_aload_n C dX2_init_59 0 rfl ?_
  refine k_newX0 C q79 q80 q37 [.int 0, .int 0, .int 0, .int 0, .int 0, .int 0, .int 0, .int 0, .int 0, .int 0, .int 0] (fun j hj => by rcases (show j = 0 ∨ j = 1 ∨ j = 2 ∨ j = 3 ∨ j = 4 ∨ j = 5 ∨ j = 6 ∨ j = 7 ∨ j = 8 ∨ j = 9 ∨ j = 10 by omega) with rfl | rfl | rfl | rfl | rfl | rfl | rfl | rfl | rfl | rfl | rfl <;> rfl) (Nat.le_of_ble_eq_true rfl) (Nat.le_of_ble_eq_true rfl) dX2_init_60 (fun a6 => ?_)
  refine k_dup C rfl dX2_init_63 ?_
  refine k_callIN C (mX0_init l D cI cJ a6 (0, 0, 0, 0, 0, 0, 0, 0, 0, 0, 0)) ⟨va_cnB 0 C.2.2.2.2.1 (kGN q83) rfl rfl rfl (C.2.2.2.2.2.2.1 _ qn8) (C.2.2.2.2.1 _ q37) hdX0_init ⟨Nat.le_of_ble_eq_true rfl, Nat.le_of_ble_eq_true rfl⟩, rfl, C.2.2.2.2.1 _ q82⟩ [6] [0, 1, 2, 3, 4, 5] [0, 1, 2, 3, 4, 5, 6] [(a0, .inr (2, [.ref a1, .ref a2, .ref a3, .ref a4, .ref a5, .null, .int 0, .int 0, .int 0, .int 0, .int 0, .int 0, .int 0, .int 0, .int 0])), (a1, cS (0, 0, 0, 0)), (a2, cS (0, 0, 0, 0)), (a3, cB (0, 0, 0, 0, 0, 0, 0, 0, 0, 0, 0)), (a4, cB (0, 0, 0, 0, 0, 0, 0, 0, 0, 0, 0)), (a5, cB (0, 0, 0, 0, 0, 0, 0, 0, 0, 0, 0))] rfl rfl rfl rfl (by decide) rfl rfl (Nat.le_of_ble_eq_true rfl) ⟨Nat.le_of_ble_eq_true rfl, Nat.le_of_ble_eq_true rfl⟩ dX2_init_64 ?_
  refine k_putFX2 (ty := .object "FivesCourt$Ball") C hin [(a0, .inr (2, [.ref a1, .ref a2, .ref a3, .ref a4, .ref a5, .ref a6, .int 0, .int 0, .int 0, .int 0, .int 0, .int 0, .int 0, .int 0, .int 0])), (a1, cS (0, 0, 0, 0)), (a2, cS (0, 0, 0, 0)), (a3, cB (0, 0, 0, 0, 0, 0, 0, 0, 0, 0, 0)), (a4, cB (0, 0, 0, 0, 0, 0, 0, 0, 0, 0, 0)), (a5, cB (0, 0, 0, 0, 0, 0, 0, 0, 0, 0, 0)), (a6, cB (0, 0, 0, 0, 0, 0, 0, 0, 0, 0, 0))] 0 5 rfl rfl (by decide) q127 rfl rfl rfl (by decide +kernel) rfl rfl (Nat.le_of_ble_eq_true rfl) dX2_init_67 ?_
  refine k_aload_n C dX2_init_70 0 rfl ?_
  refine k_iconst C 0 (by decide) dX2_init_71 ?_
  refine k_putX2 C [(a0, .inr (2, [.ref a1, .ref a2, .ref a3, .ref a4, .ref a5, .ref a6, .int 0, .int 0, .int 0, .int 0, .int 0, .int 0, .int 0, .int 0, .int 0])), (a1, cS (0, 0, 0, 0)), (a2, cS (0, 0, 0, 0)), (a3, cB (0, 0, 0, 0, 0, 0, 0, 0, 0, 0, 0)), (a4, cB (0, 0, 0, 0, 0, 0, 0, 0, 0, 0, 0)), (a5, cB (0, 0, 0, 0, 0, 0, 0, 0, 0, 0, 0)), (a6, cB (0, 0, 0, 0, 0, 0, 0, 0, 0, 0, 0))] 0 6 rfl rfl (by decide) q128 rfl rfl fdI rfl rfl (Nat.le_of_ble_eq_true rfl) dX2_init_72 ?_
  refine k_aload_n C dX2_init_75 0 rfl ?_
  refine k_bipush C 12 (by decide) dX2_init_76 ?_
  refine k_putX2 C [(a0, .inr (2, [.ref a1, .ref a2, .ref a3, .ref a4, .ref a5, .ref a6, .int 0, .int 0, .int 0, .int 12, .int 0, .int 0, .int 0, .int 0, .int 0])), (a1, cS (0, 0, 0, 0)), (a2, cS (0, 0, 0, 0)), (a3, cB (0, 0, 0, 0, 0, 0, 0, 0, 0, 0, 0)), (a4, cB (0, 0, 0, 0, 0, 0, 0, 0, 0, 0, 0)), (a5, cB (0, 0, 0, 0, 0, 0, 0, 0, 0, 0, 0)), (a6, cB (0, 0, 0, 0, 0, 0, 0, 0, 0, 0, 0))] 0 9 rfl rfl (by decide) q131 rfl rfl fdI rfl rfl (Nat.le_of_ble_eq_true rfl) dX2_init_78 ?_
  refine k_aload_n C dX2_init_81 0 rfl ?_
  refine k_iconst C (-1) (by decide) dX2_init_82 ?_
  refine k_putX2 C [(a0, .inr (2, [.ref a1, .ref a2, .ref a3, .ref a4, .ref a5, .ref a6, .int 0, .int 0, .int 0, .int 12, .int (-1), .int 0, .int 0, .int 0, .int 0])), (a1, cS (0, 0, 0, 0)), (a2, cS (0, 0, 0, 0)), (a3, cB (0, 0, 0, 0, 0, 0, 0, 0, 0, 0, 0)), (a4, cB (0, 0, 0, 0, 0, 0, 0, 0, 0, 0, 0)), (a5, cB (0, 0, 0, 0, 0, 0, 0, 0, 0, 0, 0)), (a6, cB (0, 0, 0, 0, 0, 0, 0, 0, 0, 0, 0))] 0 10 rfl rfl (by decide) q132 rfl rfl fdI rfl rfl (Nat.le_of_ble_eq_true rfl) dX2_init_83 ?_
  intro H locs ls hP hD hS hl
  exact W.vret C.1 C.2.1 C.2.2.2.2.2.2.2.2.1 (fun t ht hW => ⟨⟨(), rfl, trivial, a1, a2, a3, a4, a5, a6, by subst ht; exact hP, hD⟩, hS.F ht⟩) hS.2.2 dX2_init_86 C.2.2.2.2.2.2.2.2.2
theorem hdX2_init : yX2_init.cls ≠ "java/lang/invoke/MethodHandle" ∧ yX2_init.cls ≠ "java/lang/invoke/VarHandle" ∧ (parseMethodDescriptor yX2_init.desc).map (fun d => d.parameters.length) = some 0 := by decide +kernel

section KMN
variable {p : Program} {l : Launch} {e : Env} {R : Room} {s : State} {m : MethodId} {args : Array Value} {below : List Frame} {meth : Method} {c : Code} {D : va_G} {cI cJ : ClassId} {A : Nat → Prop} {own : String} {cc : ByteArray} {nL k n : Nat} {ret : Option FieldType} {Q : State → Prop} {w : va_W} {pc : Nat} {lv : List (Nat × Value)} {st : List Value}
/-- two rows of four numbers, and the row that holds them -/
theorem k_new24 (C : kCx p s m args meth c RX4 cc nL ret D cI cJ A) (hk : k + 3 ≤ R.cells) (hn : n + 10 ≤ R.slots) (d : decode cc pc = .ok (.multianewarray 13 2, 4)) (kk : ∀ z1 z2 z3 : Nat, kW p l e R s m args below meth c D A nL (k + 3) (n + 10) Q (w ++ [(z1, cQ cJ z2 z3), (z2, cA4 cI (0, 0, 0, 0)), (z3, cA4 cI (0, 0, 0, 0))]) (pc + 4) lv (.ref z1 :: st)) : kW p l e R s m args below meth c D A nL k n Q w pc lv (.int 4 :: .int 2 :: st) := by
  intro H locs ls hP hD hS hl
  have e1 : s.vm.findClass (FieldType.array .int).toString = some cI := (C.2.2.2.2.2.1.2 0 (cI, .int) rfl).2
  have e2 : s.vm.findClass ("[" ++ (FieldType.array .int).toString) = some cJ := (C.2.2.2.2.2.1.2 1 (cJ, .array .int) rfl).2
  have h4 : (fun _ => (0 : Int32) : Nat → Int32) = ar4 (0, 0, 0, 0) := by
    funext j
    match j with
    | 0 => rfl
    | 1 => rfl
    | 2 => rfl
    | 3 => rfl
    | _ + 4 => rfl
  have hz : ∀ c : ClassId, Jvm.Free.Multi.innerC c 4 (defaultValue .int) = vp_cell c (4, .inl (ar4 (0, 0, 0, 0))) := by
    intro c
    rw [← h4]
    exact arrV_new c 4 (.int 0)
  refine va_mna (X := w) (L := []) (f := fun _ => cA4 cI (0, 0, 0, 0)) (ty := .int) (cy := cI) (N' := 2) (K' := 4) (z := (4, .inl (ar4 (0, 0, 0, 0)))) C.1 C.2.1 C.2.2.2.1 (C.2.2.2.2.1 _ q421) (C.2.2.2.2.2.2.1 _ qn18) (C.2.2.2.2.1 _ q461) e1 C.2.2.2.2.2.1 (by rw [show va_pl [] (fun _ => cA4 cI (0, 0, 0, 0)) = [] from rfl, List.append_nil]; exact hP) (by rw [show va_pl [] (fun _ => cA4 cI (0, 0, 0, 0)) = [] from rfl, List.append_nil]; exact hD) hS C.2.2.2.2.2.2.2.1 (by decide) (by decide) (by decide) (by decide) (by decide) (by decide) (by decide) (by decide) (by decide) (by omega) (by omega) hz d (fun q r cA H1 hr1 hr2 hK1 hP1 hD1 hS1 => ?_)
  have e3 : s.vm.findClass ("[" ++ (FieldType.array .int).toString) = some cA := (hK1.2 2 (cA, .array .int) rfl).2
  cases Option.some.inj (e2.symm.trans e3)
  have eQ : (fun i => if i < 2 then some (r i) else none : Nat → Option Nat) = fq (r 0) (r 1) := by
    funext i
    match i with
    | 0 => rfl
    | 1 => rfl
    | i + 2 => show (if i + 2 < 2 then some (r (i + 2)) else none) = none; rw [if_neg (by omega)]
  have eL : va_pl ([] ++ (List.range 2).map r) (vr_up (fun _ => cA4 cI (0, 0, 0, 0)) ((List.range 2).map r) (.inl (cI, (4, .inl (ar4 (0, 0, 0, 0)))))) = [(r 0, cA4 cI (0, 0, 0, 0)), (r 1, cA4 cI (0, 0, 0, 0))] := by
    show [(r 0, vr_up _ _ _ _), (r 1, vr_up _ _ _ _)] = _
    rw [vr_up_in (by show r 0 ∈ [r 0, r 1]; exact List.mem_cons_self), vr_up_in (by show r 1 ∈ [r 0, r 1]; exact List.mem_cons_of_mem _ List.mem_cons_self)]
  rw [eQ, eL, List.append_assoc] at hP1 hD1
  exact W.widen (k := k + 3) (n := n + 10) (by omega) (by omega) (kk q (r 0) (r 1) H1 locs ls hP1 hD1 hS1 hl)
end KMN
