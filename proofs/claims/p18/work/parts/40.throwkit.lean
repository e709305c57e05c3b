/-! methods that throw, and the law's own helpers that catch: one more judgement over the kit's rows -/
abbrev kIAE : String := "java/lang/IllegalArgumentException"
abbrev kISE : String := "java/lang/IllegalStateException"
abbrev kIOO : String := "java/lang/IndexOutOfBoundsException"
abbrev kNm : List String := ["java/lang/RuntimeException", "java/lang/Exception"]
def kTd : List Cond := [.declares ⟨"java/lang/RuntimeException", "<init>", "(Ljava/lang/String;)V"⟩, .declares ⟨"java/lang/Exception", "<init>", "(Ljava/lang/String;)V"⟩, .declares ⟨"java/lang/Throwable", "<init>", "(Ljava/lang/String;)V"⟩]
theorem atA_tbl : ∀ w ∈ (vx_atS RX2 53 kIAE kNm).filter goodWord, w ∈ lw_tbl := by decide +kernel
theorem atS_tbl : ∀ w ∈ (vx_atS RX2 68 kISE kNm).filter goodWord, w ∈ lw_tbl := by decide +kernel
theorem atO_tbl : ∀ w ∈ (vx_atS RX2 127 kIOO kNm).filter goodWord, w ∈ lw_tbl := by decide +kernel
theorem atA_rest : ∀ w ∈ (vx_atS RX2 53 kIAE kNm).filter (fun w => !goodWord w), w ∈ Cond.castable kIAE kIAE :: kTd := by decide +kernel
theorem atS_rest : ∀ w ∈ (vx_atS RX2 68 kISE kNm).filter (fun w => !goodWord w), w ∈ Cond.castable kISE kISE :: kTd := by decide +kernel
theorem atO_rest : ∀ w ∈ (vx_atS RX2 127 kIOO kNm).filter (fun w => !goodWord w), w ∈ Cond.castable kIOO kIOO :: kTd := by decide +kernel
theorem atA_ot : ∀ w ∈ Cond.classLink RX2 49 kIAE :: Cond.initialized kIAE :: vx_atS RX2 53 kIAE kNm, vx_ot w = true := by decide +kernel
theorem atS_ot : ∀ w ∈ Cond.classLink RX2 64 kISE :: Cond.initialized kISE :: vx_atS RX2 68 kISE kNm, vx_ot w = true := by decide +kernel
theorem atO_ot : ∀ w ∈ Cond.classLink RX2 123 kIOO :: Cond.initialized kIOO :: vx_atS RX2 127 kIOO kNm, vx_ot w = true := by decide +kernel
def kTw : List Cond := [.castable kIAE kIAE, .castable kISE kISE, .castable kIOO kIOO, .declares ⟨"java/lang/RuntimeException", "<init>", "(Ljava/lang/String;)V"⟩, .declares ⟨"java/lang/Exception", "<init>", "(Ljava/lang/String;)V"⟩, .declares ⟨"java/lang/Throwable", "<init>", "(Ljava/lang/String;)V"⟩]
def kTx : List (Nat × String) := [(51, "no such stroke"), (66, "nothing to serve"), (76, "no rally goes on"), (110, "set to 3 or 5"), (115, "the game can not be set"), (125, "no such side"), (140, "no such part of the ball"), (145, "nothing told of that"), (161, "no such count"), (166, "0 to 60 moments"), (168, "no such part of the flight"), (170, "no such part of the end")]
/-- what a throw needs of the start: castable classes, the texts, the two statics of Throwable; and which class is not which -/
def kTE (A : Nat → Prop) (U : State) (H : Heap) : Prop := (∀ w ∈ kTw, va_Nw w U) ∧ (∀ q ∈ kTx, ∃ sa, vk_R RX2 q.1 q.2 sa U) ∧ vx_Zq Bundle.tN "UNASSIGNED_STACK" Bundle.steD A U H ∧ vx_Zq Bundle.tN "SUPPRESSED_SENTINEL" Bundle.listD A U H
theorem kTE.warm {A : Nat → Prop} {s U : State} {H : Heap} (hW : s.WarmedH U.vm) (h : kTE A s H) : kTE A U H := by
  obtain ⟨h1, h2, h3, h4⟩ := h
  refine ⟨fun w hw => ?_, fun q hq => ?_, h3.moved hW.alike, h4.moved hW.alike⟩
  · have h0 := h1 w hw
    simp only [kTw, List.mem_cons, List.not_mem_nil, or_false] at hw
    rcases hw with rfl | rfl | rfl | rfl | rfl | rfl <;> first | exact va_Nw.warmC hW h0 | exact va_Nw.warmD hW h0
  · obtain ⟨sa, h⟩ := h2 q hq
    exact ⟨sa, vk_R.warm hW h⟩
theorem kTE.same {A : Nat → Prop} {u U : State} {H : Heap} (hv : u.vm = U.vm) (h : kTE A u H) : kTE A U H := by
  obtain ⟨h1, h2, h3, h4⟩ := h
  have hal : u.vm.Alike U.vm := by rw [hv]; exact Vm.Alike.refl _
  refine ⟨fun w hw => ?_, fun q hq => ?_, h3.moved hal, h4.moved hal⟩
  · have h0 := h1 w hw
    simp only [kTw, List.mem_cons, List.not_mem_nil, or_false] at hw
    rcases hw with rfl | rfl | rfl | rfl | rfl | rfl <;> exact va_Nw.same rfl hv h0
  · obtain ⟨sa, h⟩ := h2 q hq
    exact ⟨sa, vk_R.same hv.symm h⟩
theorem kTE.at {A B : Nat → Prop} {s : State} {H : Heap} {locs : List Loc} (h : kTE A s s.heap) (hS : va_S A s.heap H locs) (hAB : ∀ q, B q → A q) : kTE B s H :=
  ⟨h.1, h.2.1, (h.2.2.1.kept hS.2.1).narrow hAB, (h.2.2.2.kept hS.2.1).narrow hAB⟩
def kEx (k : Int32) (E : String) : Prop := (k = 1 ∧ E = kIAE) ∨ (k = 2 ∧ E = kISE) ∨ (k = 3 ∧ E = kIOO)
def kPx (D : va_G) (cI cJ : ClassId) (As : List Value) (w : va_W) (sz : Nat) : Array Value → State → Prop := va_Pc As (fun U => U.heap.size = sz ∧ va_P D kCl w U.heap ∧ va_K D kCl (kTy cI cJ) U ∧ va_D (fun _ => True) w ∧ kNW U ∧ kTE (va_A w sz) U U.heap)
theorem kPx_blind {D : va_G} {cI cJ : ClassId} {As : List Value} {w : va_W} {sz : Nat} : FrameBlind (kPx D cI cJ As w sz) := fun a U g mk h =>
  ⟨h.1, h.2.1, h.2.2.1, va_K.moved (u := U) (U := U.calling g mk a) (Vm.Alike.refl U.vm) h.2.2.2.1, h.2.2.2.2.1, kNW.same (u := U) (U := U.calling g mk a) rfl h.2.2.2.2.2.1, kTE.same (u := U) (U := U.calling g mk a) rfl h.2.2.2.2.2.2⟩
/-- a method that returns v with code 0, or throws by its code -/
def kCX (l : Launch) (D : va_G) (cI cJ : ClassId) (y : MethodName) (cd : Cond) (rm : Room) (As : List Value) (w : va_W) (k v : Int32) (w' : va_W) : Prop :=
  ∀ sz : Nat, vx_Met l y (cd :: kAll) rm (kPx D cI cJ As w sz) (va_Qi (fun (r : Int32) (_ : Unit) => k = 0 ∧ r = v) (fun _ t => va_P D kCl w' t.heap) (va_A w sz)) (vx_X (fun _ : Unit => True) (fun E _ t => kEx k E ∧ va_P D kCl w t.heap) (va_A w sz)) 1 6 (va_A w sz)
/-- a helper with a table of its own: it returns k, and makes one exception at most -/
def kCH (l : Launch) (D : va_G) (cI cJ : ClassId) (y : MethodName) (cd : Cond) (rm : Room) (As : List Value) (w : va_W) (k : Int32) (w' : va_W) : Prop :=
  ∀ sz : Nat, Met l y (cd :: kAll) rm (kPx D cI cJ As w sz) (va_Qi (fun (r : Int32) (_ : Unit) => r = k) (fun _ t => va_P D kCl w' t.heap) (va_A w sz)) 1 6 (va_A w sz)
section KXB
variable {l : Launch} {D : va_G} {cI cJ : ClassId} {y : MethodName} {bytes : ByteArray} {maxL : Nat} {rm : Room} {As : List Value} {w w' : va_W} {lv : List (Nat × Value)} {ret : Option FieldType} {hh : List (Nat × Nat × Nat × Nat)}
theorem k_ofX {Qc : Array Value → State → Outcome → State → Prop} {XC : String → State → State → Prop} {mc ms : Nat} (hy : plainName y.cls = true) (sz : Nat) (hn : (lg_sl As).length ≤ maxL) (hlv : lv_args 0 As = lv)
    (body : ∀ (p : Program) (e : Env) (s : State) (m : MethodId) (args : Array Value) (below : List Frame) (meth : Method) (c : Code), s.heap.size = sz → (∀ x ∈ c.exceptionTable.toList, False) → kTE (va_A w sz) s s.heap → kCx p s m args meth c y.cls bytes maxL ret D cI cJ (va_A w sz) →
      kW p l e rm s m args below meth c D (va_A w sz) maxL 0 0 (vx_MQ below Qc XC args s mc ms (va_A w sz)) w 0 lv []) :
    vx_Met l y (Cond.code y bytes maxL ret :: kAll) rm (kPx D cI cJ As w sz) Qc XC mc ms (va_A w sz) := by
  refine vx_ofW (cc := bytes) (maxL := maxL) (ret := ret) hy rfl ?_
  intro p e s m args below meth c s₁ B hml hx0 hv
  obtain ⟨rfl, hsz, hP, hK, hD0, hN, hT⟩ := hv
  have hts := atoms_spec (ws := Cond.code y bytes maxL ret :: kAll) B.pre
  have hown : s.vm.findClass y.cls = some m.cls := findClass_of_methodNamed B.named
  subst hsz
  have hD := hD0.self (sz := s.heap.size)
  have hS : va_S (va_A w s.heap.size) s.heap s.heap [] := va_S.rf
  have hl := lv_entry As (n := maxL) hn
  rw [hlv] at hl
  rw [lg_entry_eq]
  exact body p e s m As.toArray below meth c rfl hx0 hT ⟨B.exec, B.bytes, hml, hown, fun w h => hts w (List.mem_cons_of_mem _ h), hK, hN, fun q h => Or.inr h, B.returns, B.notSynchronized⟩ s.heap [] _ hP hD hS hl
theorem k_ofH {Qc : Array Value → State → Outcome → State → Prop} {mc ms : Nat} (hy : plainName y.cls = true) (sz : Nat) (hn : (lg_sl As).length ≤ maxL) (hlv : lv_args 0 As = lv)
    (body : ∀ (p : Program) (e : Env) (s : State) (m : MethodId) (args : Array Value) (below : List Frame) (meth : Method) (c : Code), s.heap.size = sz → c.exceptionTable.toList = tableOf hh → kTE (va_A w sz) s s.heap → kCx p s m args meth c y.cls bytes maxL ret D cI cJ (va_A w sz) →
      kW p l e rm s m args below meth c D (va_A w sz) maxL 0 0 (MQ below Qc args s mc ms (va_A w sz)) w 0 lv []) :
    Met l y (Cond.codeWith y bytes maxL ret hh :: kAll) rm (kPx D cI cJ As w sz) Qc mc ms (va_A w sz) := by
  refine MetFree.of_bodyS (code := bytes) (maxLocals := maxL) (ret := ret) hy ?_ ?_
  · intro args s m h hn
    obtain ⟨m9, meth, c, hn9, h1, h2, h3, h4, -, h5, h6, -⟩ := Cond.codeWith_spec (atoms_spec (ws := Cond.codeWith y bytes maxL ret hh :: kAll) h _ List.mem_cons_self)
    cases hn.symm.trans hn9
    exact ⟨meth, c, h1, h2, h3, h4, h5, h6⟩
  · intro p e s m args below meth c s₁ B hml hv _
    have hh0 : s₁.heap = s.heap := by rw [B.state]; rfl
    obtain ⟨rfl, hsz, hP, hK, hD0, hN, hT⟩ := hv
    have hts := atoms_spec (ws := Cond.codeWith y bytes maxL ret hh :: kAll) B.pre
    have hown : s.vm.findClass y.cls = some m.cls := findClass_of_methodNamed B.named
    have htb := vx_table (x := y) B (hts _ List.mem_cons_self)
    subst hsz
    have hD := hD0.self (sz := s.heap.size)
    have hS : va_S (va_A w s.heap.size) s.heap s.heap [] := va_S.rf
    have hl := lv_entry As (n := maxL) hn
    rw [hlv] at hl
    have K := body p e s m As.toArray below meth c rfl htb hT ⟨B.exec, B.bytes, hml, hown, fun w h => hts w (List.mem_cons_of_mem _ h), hK, hN, fun q h => Or.inr h, B.returns, B.notSynchronized⟩ s.heap [] _ hP hD hS hl
    rw [← lg_entry_eq] at K
    obtain ⟨t, a1, o, b1, b2, b3⟩ := K s₁ hh0 (Stand.of_body B)
    exact ⟨t, o, a1, b1, b2, b3⟩
end KXB
section KX
variable {p : Program} {l : Launch} {e : Env} {R : Room} {s : State} {m : MethodId} {args : Array Value} {below : List Frame} {meth : Method} {c : Code} {D : va_G} {cI cJ : ClassId} {A : Nat → Prop} {own : String} {cc : ByteArray} {nL k n : Nat} {ret : Option FieldType} {Q : State → Prop} {w : va_W} {pc : Nat} {lv : List (Nat × Value)} {st : List Value}
theorem k_widen {k' n' : Nat} (h1 : k ≤ k') (h2 : n ≤ n') (kk : kW p l e R s m args below meth c D A nL k' n' Q w pc lv st) : kW p l e R s m args below meth c D A nL k n Q w pc lv st :=
  fun H locs ls hP hD hS hl => W.widen h1 h2 (kk H locs ls hP hD hS hl)
theorem k_toX {Qc : Array Value → State → Outcome → State → Prop} {XC : String → State → State → Prop} {F : Addr → Prop} (kk : kW p l e R s m args below meth c D A nL 1 6 (MQ below Qc args s 1 6 F) w pc lv st) : kW p l e R s m args below meth c D A nL 0 0 (vx_MQ below Qc XC args s 1 6 F) w pc lv st :=
  fun H locs ls hP hD hS hl => W.widen (Nat.zero_le _) (Nat.zero_le _) (vx_ret (kk H locs ls hP hD hS hl))
theorem k_iretX (C : kCx p s m args meth c own cc nL ret D cI cJ A) (hr : ret = some .int) {x kc v : Int32} {w1 : va_W} (hk : kc = 0) (hv : x = v) (he : w = w1) (d : decode cc pc = .ok (.ireturn, 1)) : kW p l e R s m args below meth c D A nL k n (MQ below (va_Qi (fun (r : Int32) (_ : Unit) => kc = 0 ∧ r = v) (fun _ t => va_P D kCl w1 t.heap) A) args s k n A) w pc lv [.int x] :=
  fun H locs ls hP hD hS hl => W.iret C.1 C.2.1 (C.2.2.2.2.2.2.2.2.1.trans hr) (fun t ht hW => ⟨⟨x, (), rfl, ⟨hk, hv⟩, by subst he; subst ht; exact hP⟩, hS.F ht⟩) hS.2.2 d C.2.2.2.2.2.2.2.2.2
theorem k_throw (C : kCx p s m args meth c RX2 cc nL ret D cI cJ A) (T : kTE A s s.heap) (hl : l.stackTraces = false) (hx0 : ∀ x ∈ c.exceptionTable.toList, False) {cls text : String} {ik is ic mc ms : Nat} {kc : Int32} {w0 : va_W} {Qc : Array Value → State → Outcome → State → Prop}
    (hkE : kEx kc cls) (he : w = w0) (hfit : Bundle.fit cls = true) (hk : (.classLink RX2 ik cls : Cond) ∈ kAll) (hi : (.initialized cls : Cond) ∈ kAll) (htx : (is, text) ∈ kTx) (hg1 : ∀ w ∈ (vx_atS RX2 ic cls kNm).filter goodWord, w ∈ lw_tbl) (hg2 : ∀ w ∈ (vx_atS RX2 ic cls kNm).filter (fun w => !goodWord w), w ∈ Cond.castable cls cls :: kTd) (hcs : (.castable cls cls : Cond) ∈ kTw)
    (hot : ∀ w ∈ Cond.classLink RX2 ik cls :: Cond.initialized cls :: vx_atS RX2 ic cls kNm, vx_ot w = true)
    (hRf : 5 < R.frames) (hRl : (st.map fun v => v.category).sum + 82 ≤ R.locals) (hRc : k + 1 ≤ R.cells) (hRs : n + 6 ≤ R.slots) (hc : k + 1 ≤ mc) (hs : n + 6 ≤ ms)
    (d0 : decode cc pc = .ok (.new ik, 3)) (d3 : decode cc (pc + 3) = .ok (.dup, 1)) (d4 : decode cc (pc + 4) = .ok (.ldc is, 2)) (d6 : decode cc (pc + 6) = .ok (.invokespecial ic, 3)) (d9 : decode cc (pc + 9) = .ok (.athrow, 1)) :
    kW p l e R s m args below meth c D A nL k n (vx_MQ below Qc (vx_X (fun _ : Unit => True) (fun E _ t => kEx kc E ∧ va_P D kCl w0 t.heap) A) args s mc ms A) w pc lv st := by
  intro H locs ls hP hD hS hl0
  subst he
  obtain ⟨sa, hsa⟩ := T.2.1 _ htx
  have hB : ∀ w' ∈ Cond.castable cls cls :: kTd, w'.before args s = true := vx_c (va_Nw.use rfl (T.1 _ hcs)) (vx_c (va_Nw.use rfl (T.1 _ (by decide))) (vx_c (va_Nw.use rfl (T.1 _ (by decide))) (vx_c (va_Nw.use rfl (T.1 _ (by decide))) vx_n)))
  have hat : ∀ w' ∈ vx_atS RX2 ic cls kNm, w'.before args s = true := vx_hat (fun w' h9 => C.2.2.2.2.1 w' (List.mem_filter.mpr ⟨hg1 w' h9, (List.mem_filter.mp h9).2⟩)) hg2 hB
  refine vx_throwS (names := kNm) (A := A) C.1 C.2.1 hl C.2.2.2.1 hfit (by decide) (C.2.2.2.2.1 _ hk) (C.2.2.2.2.1 _ hi) hsa hat hot T.2.2.1 T.2.2.2 hS (hl0.1.trans C.2.2.1.symm) d0 d3 d4 d6 d9 (fun x hx => (hx0 x hx).elim) hRf hRl hRc hRs C.2.2.2.2.2.2.2.2.2 (fun t hal hz hq => ?_) hS.2.2 hc hs
  refine ⟨(), trivial, ⟨hkE, fun k9 q9 h9 => (hP k9 q9 h9).kept (hq q9.1 (hP k9 q9 h9).lt)⟩, Nat.le_trans hS.1 hz, fun q h1 h2 => ?_⟩
  rw [hq q (Nat.lt_of_lt_of_le h1 hS.1)]
  exact hS.2.1 q h1 h2
/-- where a call has thrown q9, of the class E: this frame with its world as it was -/
def kXW (p : Program) (l : Launch) (e : Env) (R : Room) (s : State) (m : MethodId) (args : Array Value) (below : List Frame) (meth : Method) (c : Code) (D : va_G) (A : Nat → Prop) (nL : Nat) (k n : Nat) (Q : State → Prop) (w : va_W) (pc : Nat) (lv : List (Nat × Value)) (st : List Value) (E : String) (q9 : Nat) : Prop :=
  ∀ (H : Heap) (locs : List Loc) (ls : Array Slot) (ce : Cell), va_P D kCl w H → va_D A w → va_S A s.heap H locs → lv_has ls nL lv → H[q9]? = some ce → ce.vm = .none → s.vm.findClass E = some ce.cls → vx_W p l e R s m args below meth c H locs k n Q (F0 m pc ls st) q9
theorem k_catch (C : kCx p s m args meth c own cc nL ret D cI cJ A) (T : kTE A s s.heap) {E name : String} {q9 : Nat} (pre : List ExceptionTableEntry) (x : ExceptionTableEntry) (suf : List ExceptionTableEntry) (hsplit : c.exceptionTable.toList = pre ++ x :: suf)
    (hpass : ∀ z ∈ pre, z.catchType ≠ 0 ∧ ∃ nm : String, (.classLink own z.catchType nm : Cond) ∈ kAll ∧ va_Nc E nm s) (hx : covers x pc = true) (h0 : x.catchType ≠ 0) (hlink : (.classLink own x.catchType name : Cond) ∈ kAll) (hcast : (.castable E name : Cond) ∈ kTw)
    (kk : kW p l e R s m args below meth c D A nL k n Q w x.handlerPc lv [.ref q9]) : kXW p l e R s m args below meth c D A nL k n Q w pc lv st E q9 := by
  intro H locs ls ce hP hD hS hl hce hcv hcl
  exact vx_catch C.2.2.2.1 pre x suf hsplit (fun z hz => Or.inr ⟨(hpass z hz).1, (hpass z hz).2.choose, C.2.2.2.2.1 _ (hpass z hz).2.choose_spec.1, (hpass z hz).2.choose_spec.2⟩) hx h0 (C.2.2.2.2.1 _ hlink) (va_Nw.use rfl (T.1 _ hcast)) hce hcv hcl (kk H locs ls hP hD hS hl)
theorem k_callX (C : kCx p s m args meth c own cc nL ret D cI cJ A) (T : kTE A s s.heap) {y : MethodName} {bytes : ByteArray} {maxL index b : Nat} {rm : Room} {As rest : List Value} {wc wc' : va_W} {rt : Option FieldType} {kc v : Int32} (hM : kCX l D cI cJ y (.code y bytes maxL rt) rm (.ref b :: As) wc kc v wc') (cw : CallW R s args own y.cls index y bytes maxL rt (.code y bytes maxL rt :: kAll) rm 1 6 As.length) (isC isR perm : List Nat) (wr w' : va_W) (hnC : va_nd isC = true) (hC : isC.map (fun i => w[i]?) = wc.map some) (hR : isR.map (fun i => w[i]?) = wr.map some) (hnR : va_nd isR = true) (hdis : ∀ i ∈ isR, i ∉ isC) (as : List Nat) (ha1 : wc.map (fun q => q.1) = as) (ha2 : wc'.map (fun q => q.1) = as) (hnP : va_nd perm = true) (hPm : perm.map (fun i => (wr ++ wc')[i]?) = w'.map some) (hPx : perm.map (fun i => (wr ++ wc)[i]?) = w.map some) (q0 ci : Nat) {fs : List Value} {q9 : vw_C} (hcl : kCl[ci]? = some q9) (hqn : q9.1 = y.cls) (he : w[q0]? = some (b, .inr (ci, fs))) (hcat : (rest.map fun v => v.category).sum ≤ 8) (hcs : k + 1 ≤ R.cells ∧ n + 6 ≤ R.slots) (hst : st = As.reverse ++ .ref b :: rest) (d : decode cc pc = .ok (.invokevirtual index, 3))
    (kx : ∀ (E : String) (q9 : Nat), kEx kc E → kXW p l e R s m args below meth c D A nL (k + 1) (n + 6) Q w pc lv rest E q9)
    (kk : kc = 0 → kW p l e R s m args below meth c D A nL (k + 1) (n + 6) Q w' (pc + 3) lv (.int v :: rest)) : kW p l e R s m args below meth c D A nL k n Q w pc lv st := by
  intro H locs ls hP hD hS hl
  subst hst
  have hFc : ∀ q, va_A wc H.size q → A q := va_free hD hS C.2.2.2.2.2.2.2.1 isC hC
  refine vx_calli (vx_runV (As := As) (rest := rest) ⟨C.1, C.2.1, C.2.2.1, C.2.2.2.1, C.2.2.2.2.1⟩ (hM H.size) cw ⟨kPx_blind, hqn ▸ va_recv C.2.2.2.2.2.1 hP hcl he, fun U hU hW => ⟨rfl, by rw [hU], by rw [hU]; exact hP.sub isC (filter_of hC), va_K.moved hW.alike C.2.2.2.2.2.1, (hD.sub isC hnC hC).weaken (fun _ _ _ _ => trivial), C.2.2.2.2.2.2.1.warm hW, by rw [hU]; exact (T.at hS hFc).warm hW⟩⟩ rfl rfl hl.1 rfl (lv_room hcat) d hcs) hS (fun q _ h => hFc q h) hFc (fun q _ h => hFc q h) (fun E ce q9 u t H1 locs1 ht hvm hw hB hz1 hk1 hS1 h1 h2 h3 => ?_) (fun r u t H1 locs1 ht hvm hw hB hz1 hk1 hS1 => ?_)
  · obtain ⟨hE, hB⟩ := hB
    rw [ht] at hB
    obtain ⟨hP2, hD2⟩ := va_join hP hD isC isR hC hR hnR hdis hk1 hFc hB ((hD.sub isC hnC hC).self)
    exact kx E q9 hE H1 locs1 ls ce (hP2.sub perm (filter_of hPx)) (hD2.sub perm hnP hPx) hS1 hl h1 h2 h3
  · rw [ht] at hB
    obtain ⟨hk0, rfl⟩ := hw
    obtain ⟨hP2, hD2⟩ := va_join hP hD isC isR hC hR hnR hdis hk1 hFc hB (kD_addr (ha1.trans ha2.symm) ((hD.sub isC hnC hC).self))
    exact kk hk0 H1 locs1 ls (hP2.sub perm (filter_of hPm)) (hD2.sub perm hnP hPm) hS1 hl
/-- a call of a helper with a table -/
theorem k_callH (C : kCx p s m args meth c own cc nL ret D cI cJ A) (T : kTE A s s.heap) {y : MethodName} {bytes : ByteArray} {maxL index : Nat} {hh : List (Nat × Nat × Nat × Nat)} {rm : Room} {As rest : List Value} {wc wc' : va_W} {kc : Int32} (hM : kCH l D cI cJ y (.codeWith y bytes maxL (some .int) hh) rm As wc kc wc') (cw : vx_CSW R s args own index y bytes maxL (some .int) hh (.codeWith y bytes maxL (some .int) hh :: kAll) rm 1 6 As.length) (isC isR perm : List Nat) (wr w' : va_W) (hnC : va_nd isC = true) (hC : isC.map (fun i => w[i]?) = wc.map some) (hR : isR.map (fun i => w[i]?) = wr.map some) (hnR : va_nd isR = true) (hdis : ∀ i ∈ isR, i ∉ isC) (as : List Nat) (ha1 : wc.map (fun q => q.1) = as) (ha2 : wc'.map (fun q => q.1) = as) (hnP : va_nd perm = true) (hPm : perm.map (fun i => (wr ++ wc')[i]?) = w'.map some) (hcat : (rest.map fun v => v.category).sum ≤ 8) (hcs : k + 1 ≤ R.cells ∧ n + 6 ≤ R.slots) (hst : st = As.reverse ++ rest) (d : decode cc pc = .ok (.invokestatic index, 3))
    (kk : kW p l e R s m args below meth c D A nL (k + 1) (n + 6) Q w' (pc + 3) lv (.int kc :: rest)) : kW p l e R s m args below meth c D A nL k n Q w pc lv st := by
  intro H locs ls hP hD hS hl
  subst hst
  have hFc : ∀ q, va_A wc H.size q → A q := va_free hD hS C.2.2.2.2.2.2.2.1 isC hC
  refine va_calli (vx_runSW (As := As) (rest := rest) ⟨C.1, C.2.1, C.2.2.1, C.2.2.2.1, C.2.2.2.2.1⟩ (hM H.size) cw ⟨kPx_blind, fun U hU hW => ⟨rfl, by rw [hU], by rw [hU]; exact hP.sub isC (filter_of hC), va_K.moved hW.alike C.2.2.2.2.2.1, (hD.sub isC hnC hC).weaken (fun _ _ _ _ => trivial), C.2.2.2.2.2.2.1.warm hW, by rw [hU]; exact (T.at hS hFc).warm hW⟩⟩ rfl rfl hl.1 rfl (lv_room hcat) d hcs) hS (fun q _ h => hFc q h) hFc (fun r u t H1 locs1 ht hvm hw hB hz1 hk1 hS1 => ?_)
  rw [ht] at hB
  subst hw
  obtain ⟨hP2, hD2⟩ := va_join hP hD isC isR hC hR hnR hdis hk1 hFc hB (kD_addr (ha1.trans ha2.symm) ((hD.sub isC hnC hC).self))
  exact kk H1 locs1 ls (hP2.sub perm (filter_of hPm)) (hD2.sub perm hnP hPm) hS1 hl
end KX
