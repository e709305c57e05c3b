/-! the two means: a quotient that may be drawn -/
section KDR
variable {p : Program} {l : Launch} {e : Env} {R : Room} {s : State} {m : MethodId} {args : Array Value} {below : List Frame} {meth : Method} {c : Code} {D : va_G} {cI cJ : ClassId} {A : Nat → Prop} {own : String} {cc : ByteArray} {nL k n : Nat} {ret : Option FieldType} {Q : State → Prop} {w : va_W} {pc : Nat} {lv : List (Nat × Value)} {st : List Value} {cs : List Choice} {d0 : Drawn}
theorem kNW.dr (h : kNW s) (d : Drawn) : kNW (s.setDrawn d) := fun w hw => (Cond.before_setDrawn #[] s d w).trans (h w hw)
theorem kCx.dr (C : kCx p s m args meth c own cc nL ret D cI cJ A) (d : Drawn) : kCx p (s.setDrawn d) m args meth c own cc nL ret D cI cJ A :=
  ⟨C.1, C.2.1, C.2.2.1, C.2.2.2.1, dr_words C.2.2.2.2.1 d, C.2.2.2.2.2.1, C.2.2.2.2.2.2.1.dr d, C.2.2.2.2.2.2.2⟩
theorem k_ddiv (hd0 : s.drawn.sameBut d0 cs) (hn : nanBits ∈ cs) (C : kCx p s m args meth c own cc nL ret D cI cJ A) {x y : UInt64} (d : decode cc pc = .ok (.ddiv, 1)) (kk : ∀ (r : UInt64) (d' : Drawn), alike64 r (FP.ddiv x y) = true → s.drawn.sameBut d' cs → kW p l e R (s.setDrawn d') m args below meth c D A nL k n Q w (pc + 1) lv (.double r :: st)) : kW p l e R (s.setDrawn d0) m args below meth c D A nL k n Q w pc lv (.double y :: .double x :: st) :=
  fun H locs ls hP hD hS hl => lv_ddiv_any hd0 hn C.1 C.2.1 d (fun r d' h1 h2 => kk r d' h1 h2 H locs ls hP hD hS hl)
theorem k_dretD (hd0 : s.drawn.sameBut d0 cs) (C : kCx p s m args meth c own cc nL ret D cI cJ A) (hr : ret = some .double) {x : UInt64} {w1 : va_W} {post : UInt64 → Prop} (hv : post x) (he : w = w1) (d : decode cc pc = .ok (.dreturn, 1)) : kW p l e R (s.setDrawn d0) m args below meth c D A nL k n (MQD cs below (va_Qd (fun (r : UInt64) (_ : Unit) => post r) (fun _ t => va_P D kCl w1 t.heap) A) args s k n A) w pc lv [.double x] :=
  fun H locs ls hP hD hS hl => W.endD hd0 (W.dret C.1 C.2.1 (C.2.2.2.2.2.2.2.2.1.trans hr) (fun t ht hW => ⟨⟨x, (), rfl, hv, by subst he; subst ht; exact hP⟩, va_S.F (s := s.setDrawn d0) hS ht⟩) hS.2.2 d C.2.2.2.2.2.2.2.2.2)
theorem k_ofD {y : MethodName} {bytes : ByteArray} {maxL : Nat} {rm : Room} {As : List Value} {Qc : Array Value → State → Outcome → State → Prop} (hy : plainName y.cls = true) (sz : Nat) (hn : (lg_sl As).length ≤ maxL) (hlv : lv_args 0 As = lv)
    (body : ∀ (p : Program) (e : Env) (s : State) (m : MethodId) (args : Array Value) (below : List Frame) (meth : Method) (c : Code), s.heap.size = sz → s.drawn.sameBut s.drawn cs → kCx p s m args meth c y.cls bytes maxL ret D cI cJ (va_A w sz) →
      kW p l e rm (s.setDrawn s.drawn) m args below meth c D (va_A w sz) maxL 0 0 (MQD cs below Qc args s 0 0 (va_A w sz)) w 0 lv []) :
    MetD cs l y (Cond.code y bytes maxL ret :: kAll) rm (kPc D cI cJ As w sz) Qc 0 0 (va_A w sz) := by
  refine MetD.ofW (cc := bytes) (maxL := maxL) (ret := ret) hy rfl ?_
  intro p e s m args below meth c s₁ B hml hv hdr
  obtain ⟨rfl, hsz, hP, hK, hD0, hN⟩ := hv
  have hts := atoms_spec (ws := Cond.code y bytes maxL ret :: kAll) B.pre
  have hown : s.vm.findClass y.cls = some m.cls := findClass_of_methodNamed B.named
  subst hsz
  have hD := hD0.self (sz := s.heap.size)
  have hS : va_S (va_A w s.heap.size) s.heap s.heap [] := va_S.rf
  have hl := lv_entry As (n := maxL) hn
  rw [hlv] at hl
  rw [lg_entry_eq]
  exact body p e s m As.toArray below meth c rfl hdr ⟨B.exec, B.bytes, hml, hown, fun w h => hts w (List.mem_cons_of_mem _ h), hK, hN, fun q h => Or.inr h, B.returns, B.notSynchronized⟩ s.heap [] _ hP hD hS hl
theorem k_callVD (hd0 : s.drawn.sameBut d0 cs) (C : kCx p s m args meth c own cc nL ret D cI cJ A) {y : MethodName} {bytes : ByteArray} {maxL index b : Nat} {rm : Room} {As rest : List Value} {wc wc' : va_W} {rt : Option FieldType} {post : UInt64 → Prop} (hM : ∀ sz : Nat, MetD cs l y (.code y bytes maxL rt :: kAll) rm (kPc D cI cJ (.ref b :: As) wc sz) (va_Qd (fun (r : UInt64) (_ : Unit) => post r) (fun _ t => va_P D kCl wc' t.heap) (va_A wc sz)) 0 0 (va_A wc sz)) (cw : CallW R (s.setDrawn d0) args own y.cls index y bytes maxL rt (.code y bytes maxL rt :: kAll) rm 0 0 As.length) (isC isR perm : List Nat) (wr w' : va_W) (hnC : va_nd isC = true) (hC : isC.map (fun i => w[i]?) = wc.map some) (hR : isR.map (fun i => w[i]?) = wr.map some) (hnR : va_nd isR = true) (hdis : ∀ i ∈ isR, i ∉ isC) (as : List Nat) (ha1 : wc.map (fun q => q.1) = as) (ha2 : wc'.map (fun q => q.1) = as) (hnP : va_nd perm = true) (hPm : perm.map (fun i => (wr ++ wc')[i]?) = w'.map some) (q4 ci : Nat) {fs : List Value} {q27 : vw_C} (hcl : kCl[ci]? = some q27) (hqn : q27.1 = y.cls) (he : w[q4]? = some (b, .inr (ci, fs))) (hcat : (rest.map fun v => v.category).sum ≤ 8) (hcs : k ≤ R.cells ∧ n ≤ R.slots) (hst : st = As.reverse ++ .ref b :: rest) (d : decode cc pc = .ok (.invokevirtual index, 3))
    (kk : ∀ (r : UInt64) (d' : Drawn), post r → s.drawn.sameBut d' cs → kW p l e R (s.setDrawn d') m args below meth c D A nL k n Q w' (pc + 3) lv (.double r :: rest)) : kW p l e R (s.setDrawn d0) m args below meth c D A nL k n Q w pc lv st := by
  intro H locs ls hP hD hS hl
  subst hst
  have C' := C.dr d0
  have hS' : va_S A s.heap H locs := hS
  have hFc : ∀ q, va_A wc H.size q → A q := va_free hD hS' C.2.2.2.2.2.2.2.1 isC hC
  refine va_calldD hd0 (va_runV_D (As := As) (rest := rest) ⟨C'.1, C'.2.1, C'.2.2.1, C'.2.2.2.1, C'.2.2.2.2.1⟩ (hM H.size) cw ⟨kPc_blind, hqn ▸ va_recv C'.2.2.2.2.2.1 hP hcl he, fun U hU hW => ⟨rfl, by rw [hU], by rw [hU]; exact hP.sub isC (filter_of hC), va_K.moved hW.alike C'.2.2.2.2.2.1, (hD.sub isC hnC hC).weaken (fun _ _ _ _ => trivial), C'.2.2.2.2.2.2.1.warm hW⟩⟩ rfl rfl hl.1 rfl (lv_room hcat) d hcs) hS' (fun q _ h => hFc q h) hFc (fun r u t H1 locs1 ht hvm hw hB hz1 hk1 hS1 d' hd' => ?_)
  rw [ht] at hB
  obtain ⟨hP2, hD2⟩ := va_join hP hD isC isR hC hR hnR hdis hk1 hFc hB (kD_addr (ha1.trans ha2.symm) ((hD.sub isC hnC hC).self))
  exact kk r d' hw hd' H1 locs1 ls (hP2.sub perm (filter_of hPm)) (hD2.sub perm hnP hPm) hS1 hl
theorem k_dstore (C : kCx p s m args meth c own cc nL ret D cI cJ A) {j : Nat} {x : UInt64} (lv' : List (Nat × Value)) (hj : j + 1 < nL) (hl' : (j, Value.double x) :: lv.filter (fun q => !(q.1 == j) && (!(q.1 == j + 1) && !(q.1 + 1 == j && q.2.category == 2))) = lv') (d : decode cc pc = .ok (.dstore j, 2)) (kk : kW p l e R s m args below meth c D A nL k n Q w (pc + 2) lv' st) : kW p l e R s m args below meth c D A nL k n Q w pc lv (.double x :: st) :=
  fun H locs ls hP hD hS hl => lv_dstore C.1 C.2.1 d hl hj hl' (fun ls' hl2 => kk H locs ls' hP hD hS hl2)
theorem k_dcmp (C : kCx p s m args meth c own cc nL ret D cI cJ A) {x y : UInt64} {op : CmpOp} (d : decode cc pc = .ok (.dcmp op, 1)) (kk : kW p l e R s m args below meth c D A nL k n Q w (pc + 1) lv (.int (Op.cmpValue (FP.dcmp x y) op) :: st)) : kW p l e R s m args below meth c D A nL k n Q w pc lv (.double y :: .double x :: st) :=
  fun H locs ls hP hD hS hl => lv_dcmp C.1 C.2.1 d (kk H locs ls hP hD hS hl)
end KDR
/-- what both means answer -/
def kMean (wr ws : Int32) (r : UInt64) : Prop := (wr = 0 ∧ r = 0) ∨ (¬ wr = 0 ∧ alike64 r (FP.ddiv (FP.i2d ws) (FP.i2d wr)) = true)
theorem nan_dec {x : UInt64} (h : isNaN64 x = true) : FP.Core.decode FP.Core.b64 x.toNat = .nan := by
  have h1 := isNaN64_iff.mp h
  have h2 : x.toNat &&& 0x7fffffffffffffff = x.toNat % 2 ^ 63 := Nat.and_two_pow_sub_one_eq_mod x.toNat 63
  rw [h2] at h1
  have hE : FP.Core.fieldE FP.Core.b64 x.toNat = 2047 := by
    show x.toNat / 2 ^ 52 % 2 ^ 11 = 2047
    omega
  have hT : ¬ FP.Core.fieldT FP.Core.b64 x.toNat = 0 := by
    show ¬ x.toNat % 2 ^ 52 = 0
    omega
  unfold FP.Core.decode
  rw [if_pos (by rw [hE]; rfl), if_neg hT]
theorem nan_cmp {x : UInt64} (h : isNaN64 x = true) (y : UInt64) : FP.dcmp x y = none := by
  show FP.Core.order (FP.Core.decode FP.Core.b64 x.toNat) _ = none
  rw [nan_dec h]
  rfl
/-- two answers of one mean: what the law's comparisons see -/
theorem mean_law {wr ws : Int32} {r q : UInt64} (h1 : kMean wr ws r) (h2 : kMean wr ws q) : Op.cmpValue (FP.dcmp r q) .l = 0 ∨ (¬ Op.cmpValue (FP.dcmp r r) .l = 0 ∧ ¬ Op.cmpValue (FP.dcmp q q) .l = 0) := by
  have key : ∀ x y z : UInt64, alike64 x z = true → alike64 y z = true → x = y ∨ (isNaN64 x = true ∧ isNaN64 y = true) := by
    intro x y z a b
    simp only [alike64, Bool.or_eq_true, decide_eq_true_eq, Bool.and_eq_true] at a b
    rcases a with rfl | ⟨a1, a2⟩ <;> rcases b with rfl | ⟨b1, b2⟩
    · exact Or.inl rfl
    · exact Or.inr ⟨b2, b1⟩
    · exact Or.inr ⟨a1, a2⟩
    · exact Or.inr ⟨a1, b1⟩
  have fin : r = q ∨ (isNaN64 r = true ∧ isNaN64 q = true) := by
    rcases h1 with ⟨a, b⟩ | ⟨a, b⟩ <;> rcases h2 with ⟨a', b'⟩ | ⟨a', b'⟩
    · exact Or.inl (b.trans b'.symm)
    · exact absurd a a'
    · exact absurd a' a
    · exact key _ _ _ b b'
  rcases fin with rfl | ⟨h3, h4⟩
  · by_cases h : Op.cmpValue (FP.dcmp r r) .l = 0
    · exact Or.inl h
    · exact Or.inr ⟨h, h⟩
  · right
    rw [nan_cmp h3, nan_cmp h4]
    exact ⟨by decide, by decide⟩
theorem hdX2_mean : yX2_mean.cls ≠ "java/lang/invoke/MethodHandle" ∧ yX2_mean.cls ≠ "java/lang/invoke/VarHandle" ∧ (parseMethodDescriptor yX2_mean.desc).map (fun d => d.parameters.length) = some 0 := by decide +kernel
set_option maxHeartbeats 4000000 in
set_option maxRecDepth 100000 in
theorem mX2_mean (l : Launch) (D : va_G) (cI cJ : ClassId) (a0 a1 a2 a3 a4 a5 a6 : Nat) (X : Co) (sz : Nat) : MetD lw_cs l yX2_mean (.code yX2_mean cX2_mean 1 (some .double) :: kAll) { frames := 0, cells := 0, slots := 0, locals := 0 } (kPc D cI cJ [.ref a0] (wC a0 a1 a2 a3 a4 a5 a6 X) sz) (va_Qd (fun (r : UInt64) (_ : Unit) => kMean X.2.2.2.2.2.2.2.2.2.2.2.1 X.2.2.2.2.2.2.2.2.2.2.2.2.1 r) (fun _ t => va_P D kCl (wC a0 a1 a2 a3 a4 a5 a6 X) t.heap) (va_A (wC a0 a1 a2 a3 a4 a5 a6 X) sz)) 0 0 (va_A (wC a0 a1 a2 a3 a4 a5 a6 X) sz) := by
  refine k_ofD (lv := [(0, .ref a0)]) (by decide) sz (Nat.le_of_ble_eq_true rfl) rfl ?_
  intro p e s m args below meth c hsz hd0 C
  have C' := C.dr s.drawn
  refine k_aload_n C' dX2_mean_0 0 rfl ?_
  refine k_getX2 C' 0 11 rfl (by decide) rfl q133 rfl dX2_mean_1 ?_
  refine k_if_ne C' 9 (by decide) dX2_mean_4 (fun c1 => ?_) (fun c1 => ?_)
  · refine k_aload_n C' dX2_mean_9 0 rfl ?_
    refine k_getX2 C' 0 12 rfl (by decide) rfl q134 rfl dX2_mean_10 ?_
    refine k_i2d C' dX2_mean_13 ?_
    refine k_aload_n C' dX2_mean_14 0 rfl ?_
    refine k_getX2 C' 0 11 rfl (by decide) rfl q133 rfl dX2_mean_15 ?_
    refine k_i2d C' dX2_mean_18 ?_
    refine k_ddiv hd0 lw_bits C dX2_mean_19 (fun r d' h1 h2 => ?_)
    exact k_dretD h2 C rfl (Or.inr ⟨c1, h1⟩) rfl dX2_mean_20
  · refine k_dconst0 C' dX2_mean_7 ?_
    exact k_dretD hd0 C rfl (Or.inl ⟨c1, rfl⟩) rfl dX2_mean_8
