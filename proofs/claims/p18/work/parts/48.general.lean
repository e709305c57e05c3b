/-! methods that make cells: their contracts tell the world behind them by a predicate -/
def kGi (l : Launch) (D : va_G) (cI cJ : ClassId) (y : MethodName) (cd : Cond) (rm : Room) (As : List Value) (w : va_W) (mc ms : Nat) (post : Int32 → va_W → Prop) : Prop :=
  ∀ sz : Nat, Met l y (cd :: kAll) rm (kPc D cI cJ As w sz) (va_Qi post (fun U t => va_D (va_A w sz) U ∧ va_P D kCl U t.heap) (va_A w sz)) mc ms (va_A w sz)
def kGr (l : Launch) (D : va_G) (cI cJ : ClassId) (y : MethodName) (cd : Cond) (rm : Room) (As : List Value) (w : va_W) (mc ms : Nat) (post : Nat → va_W → Prop) : Prop :=
  ∀ sz : Nat, Met l y (cd :: kAll) rm (kPc D cI cJ As w sz) (va_Qr (fun _ : Unit => True) (fun _ a t => ∃ U, post a U ∧ va_D (va_A w sz) U ∧ va_P D kCl U t.heap) (va_A w sz)) mc ms (va_A w sz)
def kGv (l : Launch) (D : va_G) (cI cJ : ClassId) (y : MethodName) (cd : Cond) (rm : Room) (As : List Value) (w : va_W) (mc ms : Nat) (post : va_W → Prop) : Prop :=
  ∀ sz : Nat, Met l y (cd :: kAll) rm (kPc D cI cJ As w sz) (va_Qv post (fun U t => va_D (va_A w sz) U ∧ va_P D kCl U t.heap) (va_A w sz)) mc ms (va_A w sz)
/-- a method with a table of its own, that may make one exception -/
def kGH (l : Launch) (D : va_G) (cI cJ : ClassId) (y : MethodName) (cd : Cond) (rm : Room) (As : List Value) (w : va_W) (mc ms : Nat) (post : Int32 → va_W → Prop) : Prop :=
  ∀ sz : Nat, Met l y (cd :: kAll) rm (kPx D cI cJ As w sz) (va_Qi post (fun U t => va_D (va_A w sz) U ∧ va_P D kCl U t.heap) (va_A w sz)) mc ms (va_A w sz)
/-- a method that answers a double -/
def kCd (l : Launch) (D : va_G) (cI cJ : ClassId) (y : MethodName) (cd : Cond) (rm : Room) (As : List Value) (w : va_W) (v : UInt64) : Prop :=
  ∀ sz : Nat, Met l y (cd :: kAll) rm (kPc D cI cJ As w sz) (va_Qd (fun (r : UInt64) (_ : Unit) => r = v) (fun _ t => va_P D kCl w t.heap) (va_A w sz)) 0 0 (va_A w sz)
section KG
variable {p : Program} {l : Launch} {e : Env} {R : Room} {s : State} {m : MethodId} {args : Array Value} {below : List Frame} {meth : Method} {c : Code} {D : va_G} {cI cJ : ClassId} {A : Nat → Prop} {own : String} {cc : ByteArray} {nL k n : Nat} {ret : Option FieldType} {Q : State → Prop} {w : va_W} {pc : Nat} {lv : List (Nat × Value)} {st : List Value}
theorem k_wsub (perm : List Nat) {w' : va_W} (hnP : va_nd perm = true) (hPm : perm.map (fun i => w[i]?) = w'.map some) (kk : kW p l e R s m args below meth c D A nL k n Q w' pc lv st) : kW p l e R s m args below meth c D A nL k n Q w pc lv st :=
  fun H locs ls hP hD hS hl => kk H locs ls (hP.sub perm (filter_of hPm)) (hD.sub perm hnP hPm) hS hl
theorem k_iretG (C : kCx p s m args meth c own cc nL ret D cI cJ A) (hr : ret = some .int) {x : Int32} {post : Int32 → va_W → Prop} (hp : post x w) (d : decode cc pc = .ok (.ireturn, 1)) : kW p l e R s m args below meth c D A nL k n (MQ below (va_Qi post (fun U t => va_D A U ∧ va_P D kCl U t.heap) A) args s k n A) w pc lv [.int x] :=
  fun H locs ls hP hD hS hl => W.iret C.1 C.2.1 (C.2.2.2.2.2.2.2.2.1.trans hr) (fun t ht hW => ⟨⟨x, w, rfl, hp, hD, by subst ht; exact hP⟩, hS.F ht⟩) hS.2.2 d C.2.2.2.2.2.2.2.2.2
theorem k_zretG (C : kCx p s m args meth c own cc nL ret D cI cJ A) (hr : ret = some .boolean) {x : Int32} {post : Int32 → va_W → Prop} (hb : narrow .boolean (.int x) = .int x) (hp : post x w) (d : decode cc pc = .ok (.ireturn, 1)) : kW p l e R s m args below meth c D A nL k n (MQ below (va_Qi post (fun U t => va_D A U ∧ va_P D kCl U t.heap) A) args s k n A) w pc lv [.int x] :=
  fun H locs ls hP hD hS hl => W.zret C.1 C.2.1 (C.2.2.2.2.2.2.2.2.1.trans hr) hb (fun t ht hW => ⟨⟨x, w, rfl, hp, hD, by subst ht; exact hP⟩, hS.F ht⟩) hS.2.2 d C.2.2.2.2.2.2.2.2.2
theorem k_vretG (C : kCx p s m args meth c own cc nL ret D cI cJ A) (hr : ret = none) {post : va_W → Prop} (hp : post w) (d : decode cc pc = .ok (.return_, 1)) : kW p l e R s m args below meth c D A nL k n (MQ below (va_Qv post (fun U t => va_D A U ∧ va_P D kCl U t.heap) A) args s k n A) w pc lv [] :=
  fun H locs ls hP hD hS hl => W.vret C.1 C.2.1 (C.2.2.2.2.2.2.2.2.1.trans hr) (fun t ht hW => ⟨⟨w, rfl, hp, hD, by subst ht; exact hP⟩, hS.F ht⟩) hS.2.2 d C.2.2.2.2.2.2.2.2.2
theorem k_aretG (C : kCx p s m args meth c own cc nL ret D cI cJ A) {o : String} (hr : ret = some (.object o)) {x : Nat} {post : Nat → va_W → Prop} (hp : post x w) (d : decode cc pc = .ok (.areturn, 1)) : kW p l e R s m args below meth c D A nL k n (MQ below (va_Qr (fun _ : Unit => True) (fun _ a t => ∃ U, post a U ∧ va_D A U ∧ va_P D kCl U t.heap) A) args s k n A) w pc lv [.ref x] :=
  fun H locs ls hP hD hS hl => W.aret C.1 C.2.1 (C.2.2.2.2.2.2.2.2.1.trans hr) (Or.inl ⟨_, rfl⟩) (Or.inr ⟨_, rfl⟩) (fun t ht hW => ⟨⟨(), x, rfl, trivial, w, hp, hD, by subst ht; exact hP⟩, hS.F ht⟩) hS.2.2 d C.2.2.2.2.2.2.2.2.2
theorem k_dret (C : kCx p s m args meth c own cc nL ret D cI cJ A) (hr : ret = some .double) {x v : UInt64} {w1 : va_W} (hv : x = v) (he : w = w1) (d : decode cc pc = .ok (.dreturn, 1)) : kW p l e R s m args below meth c D A nL k n (MQ below (va_Qd (fun (r : UInt64) (_ : Unit) => r = v) (fun _ t => va_P D kCl w1 t.heap) A) args s k n A) w pc lv [.double x] :=
  fun H locs ls hP hD hS hl => W.dret C.1 C.2.1 (C.2.2.2.2.2.2.2.2.1.trans hr) (fun t ht hW => ⟨⟨x, (), rfl, hv, by subst he; subst ht; exact hP⟩, hS.F ht⟩) hS.2.2 d C.2.2.2.2.2.2.2.2.2
theorem k_ddivN (C : kCx p s m args meth c own cc nL ret D cI cJ A) {x y : UInt64} (hne : vf_n64 (FP.ddiv x y)) (d : decode cc pc = .ok (.ddiv, 1)) (kk : kW p l e R s m args below meth c D A nL k n Q w (pc + 1) lv (.double (FP.ddiv x y) :: st)) : kW p l e R s m args below meth c D A nL k n Q w pc lv (.double y :: .double x :: st) :=
  fun H locs ls hP hD hS hl => lv_ddiv C.1 C.2.1 d hne (kk H locs ls hP hD hS hl)
theorem k_callGV_i (C : kCx p s m args meth c own cc nL ret D cI cJ A) {y : MethodName} {bytes : ByteArray} {maxL index b : Nat} {rm : Room} {As rest : List Value} {wc : va_W} {rt : Option FieldType} {mc ms : Nat} {post : Int32 → va_W → Prop} (hM : kGi l D cI cJ y (.code y bytes maxL rt) rm (.ref b :: As) wc mc ms post) (cw : CallW R s args own y.cls index y bytes maxL rt (.code y bytes maxL rt :: kAll) rm mc ms As.length) (isC isR : List Nat) (wr : va_W) (hnC : va_nd isC = true) (hC : isC.map (fun i => w[i]?) = wc.map some) (hR : isR.map (fun i => w[i]?) = wr.map some) (hnR : va_nd isR = true) (hdis : ∀ i ∈ isR, i ∉ isC) (q0 ci : Nat) {fs : List Value} {q9 : vw_C} (hcl : kCl[ci]? = some q9) (hqn : q9.1 = y.cls) (he : w[q0]? = some (b, .inr (ci, fs))) (hcat : (rest.map fun v => v.category).sum ≤ 8) (hcs : k + mc ≤ R.cells ∧ n + ms ≤ R.slots) (hst : st = As.reverse ++ .ref b :: rest) (d : decode cc pc = .ok (.invokevirtual index, 3)) (kk : ∀ (r : Int32) (U : va_W), post r U → kW p l e R s m args below meth c D A nL (k + mc) (n + ms) Q (wr ++ U) (pc + 3) lv (.int r :: rest)) : kW p l e R s m args below meth c D A nL k n Q w pc lv st := by
  intro H locs ls hP hD hS hl
  subst hst
  have hFc : ∀ q, va_A wc H.size q → A q := va_free hD hS C.2.2.2.2.2.2.2.1 isC hC
  refine va_calli (va_runV (As := As) (rest := rest) ⟨C.1, C.2.1, C.2.2.1, C.2.2.2.1, C.2.2.2.2.1⟩ (hM H.size) cw ⟨kPc_blind, hqn ▸ va_recv C.2.2.2.2.2.1 hP hcl he, fun U hU hW => ⟨rfl, by rw [hU], by rw [hU]; exact hP.sub isC (filter_of hC), va_K.moved hW.alike C.2.2.2.2.2.1, (hD.sub isC hnC hC).weaken (fun _ _ _ _ => trivial), C.2.2.2.2.2.2.1.warm hW⟩⟩ rfl rfl hl.1 rfl (lv_room hcat) d hcs) hS (fun q _ h => hFc q h) hFc (fun r u t H1 locs1 ht hvm hw hB hz1 hk1 hS1 => ?_)
  obtain ⟨hDc, hB⟩ := hB
  rw [ht] at hB
  obtain ⟨hP2, hD2⟩ := va_join hP hD isC isR hC hR hnR hdis hk1 hFc hB hDc
  exact kk r u hw H1 locs1 ls hP2 hD2 hS1 hl
theorem k_callGV_r (C : kCx p s m args meth c own cc nL ret D cI cJ A) {y : MethodName} {bytes : ByteArray} {maxL index b : Nat} {rm : Room} {As rest : List Value} {wc : va_W} {rt : Option FieldType} {mc ms : Nat} {post : Nat → va_W → Prop} (hM : kGr l D cI cJ y (.code y bytes maxL rt) rm (.ref b :: As) wc mc ms post) (cw : CallW R s args own y.cls index y bytes maxL rt (.code y bytes maxL rt :: kAll) rm mc ms As.length) (isC isR : List Nat) (wr : va_W) (hnC : va_nd isC = true) (hC : isC.map (fun i => w[i]?) = wc.map some) (hR : isR.map (fun i => w[i]?) = wr.map some) (hnR : va_nd isR = true) (hdis : ∀ i ∈ isR, i ∉ isC) (q0 ci : Nat) {fs : List Value} {q9 : vw_C} (hcl : kCl[ci]? = some q9) (hqn : q9.1 = y.cls) (he : w[q0]? = some (b, .inr (ci, fs))) (hcat : (rest.map fun v => v.category).sum ≤ 8) (hcs : k + mc ≤ R.cells ∧ n + ms ≤ R.slots) (hst : st = As.reverse ++ .ref b :: rest) (d : decode cc pc = .ok (.invokevirtual index, 3)) (kk : ∀ (r : Nat) (U : va_W), post r U → kW p l e R s m args below meth c D A nL (k + mc) (n + ms) Q (wr ++ U) (pc + 3) lv (.ref r :: rest)) : kW p l e R s m args below meth c D A nL k n Q w pc lv st := by
  intro H locs ls hP hD hS hl
  subst hst
  have hFc : ∀ q, va_A wc H.size q → A q := va_free hD hS C.2.2.2.2.2.2.2.1 isC hC
  refine va_callr (va_runV (As := As) (rest := rest) ⟨C.1, C.2.1, C.2.2.1, C.2.2.2.1, C.2.2.2.2.1⟩ (hM H.size) cw ⟨kPc_blind, hqn ▸ va_recv C.2.2.2.2.2.1 hP hcl he, fun U hU hW => ⟨rfl, by rw [hU], by rw [hU]; exact hP.sub isC (filter_of hC), va_K.moved hW.alike C.2.2.2.2.2.1, (hD.sub isC hnC hC).weaken (fun _ _ _ _ => trivial), C.2.2.2.2.2.2.1.warm hW⟩⟩ rfl rfl hl.1 rfl (lv_room hcat) d hcs) hS (fun q _ h => hFc q h) hFc (fun u ra t H1 locs1 ht hvm hw hB hz1 hk1 hS1 => ?_)
  obtain ⟨u, hw, hB⟩ := hB
  obtain ⟨hDc, hB⟩ := hB
  rw [ht] at hB
  obtain ⟨hP2, hD2⟩ := va_join hP hD isC isR hC hR hnR hdis hk1 hFc hB hDc
  exact kk ra u hw H1 locs1 ls hP2 hD2 hS1 hl
theorem k_callGS_r (C : kCx p s m args meth c own cc nL ret D cI cJ A) {y : MethodName} {bytes : ByteArray} {maxL index : Nat} {rm : Room} {As rest : List Value} {wc : va_W} {rt : Option FieldType} {mc ms : Nat} {post : Nat → va_W → Prop} (hM : kGr l D cI cJ y (.code y bytes maxL rt) rm (As) wc mc ms post) (cw : CallB R s args own index y bytes maxL rt (.code y bytes maxL rt :: kAll) rm mc ms As.length ∧ (Cond.static y).before args s = true) (isC isR : List Nat) (wr : va_W) (hnC : va_nd isC = true) (hC : isC.map (fun i => w[i]?) = wc.map some) (hR : isR.map (fun i => w[i]?) = wr.map some) (hnR : va_nd isR = true) (hdis : ∀ i ∈ isR, i ∉ isC) (hcat : (rest.map fun v => v.category).sum ≤ 8) (hcs : k + mc ≤ R.cells ∧ n + ms ≤ R.slots) (hst : st = As.reverse ++ rest) (d : decode cc pc = .ok (.invokestatic index, 3)) (kk : ∀ (r : Nat) (U : va_W), post r U → kW p l e R s m args below meth c D A nL (k + mc) (n + ms) Q (wr ++ U) (pc + 3) lv (.ref r :: rest)) : kW p l e R s m args below meth c D A nL k n Q w pc lv st := by
  intro H locs ls hP hD hS hl
  subst hst
  have hFc : ∀ q, va_A wc H.size q → A q := va_free hD hS C.2.2.2.2.2.2.2.1 isC hC
  refine va_callr (va_runS (As := As) (rest := rest) ⟨C.1, C.2.1, C.2.2.1, C.2.2.2.1, C.2.2.2.2.1⟩ (hM H.size) cw ⟨kPc_blind, fun U hU hW => ⟨rfl, by rw [hU], by rw [hU]; exact hP.sub isC (filter_of hC), va_K.moved hW.alike C.2.2.2.2.2.1, (hD.sub isC hnC hC).weaken (fun _ _ _ _ => trivial), C.2.2.2.2.2.2.1.warm hW⟩⟩ rfl rfl hl.1 rfl (lv_room hcat) d hcs) hS (fun q _ h => hFc q h) hFc (fun u ra t H1 locs1 ht hvm hw hB hz1 hk1 hS1 => ?_)
  obtain ⟨u, hw, hB⟩ := hB
  obtain ⟨hDc, hB⟩ := hB
  rw [ht] at hB
  obtain ⟨hP2, hD2⟩ := va_join hP hD isC isR hC hR hnR hdis hk1 hFc hB hDc
  exact kk ra u hw H1 locs1 ls hP2 hD2 hS1 hl
theorem k_callGS_i (C : kCx p s m args meth c own cc nL ret D cI cJ A) {y : MethodName} {bytes : ByteArray} {maxL index : Nat} {rm : Room} {As rest : List Value} {wc : va_W} {rt : Option FieldType} {mc ms : Nat} {post : Int32 → va_W → Prop} (hM : kGi l D cI cJ y (.code y bytes maxL rt) rm (As) wc mc ms post) (cw : CallB R s args own index y bytes maxL rt (.code y bytes maxL rt :: kAll) rm mc ms As.length ∧ (Cond.static y).before args s = true) (isC isR : List Nat) (wr : va_W) (hnC : va_nd isC = true) (hC : isC.map (fun i => w[i]?) = wc.map some) (hR : isR.map (fun i => w[i]?) = wr.map some) (hnR : va_nd isR = true) (hdis : ∀ i ∈ isR, i ∉ isC) (hcat : (rest.map fun v => v.category).sum ≤ 8) (hcs : k + mc ≤ R.cells ∧ n + ms ≤ R.slots) (hst : st = As.reverse ++ rest) (d : decode cc pc = .ok (.invokestatic index, 3)) (kk : ∀ (r : Int32) (U : va_W), post r U → kW p l e R s m args below meth c D A nL (k + mc) (n + ms) Q (wr ++ U) (pc + 3) lv (.int r :: rest)) : kW p l e R s m args below meth c D A nL k n Q w pc lv st := by
  intro H locs ls hP hD hS hl
  subst hst
  have hFc : ∀ q, va_A wc H.size q → A q := va_free hD hS C.2.2.2.2.2.2.2.1 isC hC
  refine va_calli (va_runS (As := As) (rest := rest) ⟨C.1, C.2.1, C.2.2.1, C.2.2.2.1, C.2.2.2.2.1⟩ (hM H.size) cw ⟨kPc_blind, fun U hU hW => ⟨rfl, by rw [hU], by rw [hU]; exact hP.sub isC (filter_of hC), va_K.moved hW.alike C.2.2.2.2.2.1, (hD.sub isC hnC hC).weaken (fun _ _ _ _ => trivial), C.2.2.2.2.2.2.1.warm hW⟩⟩ rfl rfl hl.1 rfl (lv_room hcat) d hcs) hS (fun q _ h => hFc q h) hFc (fun r u t H1 locs1 ht hvm hw hB hz1 hk1 hS1 => ?_)
  obtain ⟨hDc, hB⟩ := hB
  rw [ht] at hB
  obtain ⟨hP2, hD2⟩ := va_join hP hD isC isR hC hR hnR hdis hk1 hFc hB hDc
  exact kk r u hw H1 locs1 ls hP2 hD2 hS1 hl
theorem k_callV_l (C : kCx p s m args meth c own cc nL ret D cI cJ A) {y : MethodName} {bytes : ByteArray} {maxL index b : Nat} {rm : Room} {As rest : List Value} {wc wc' : va_W} {rt : Option FieldType} {v : Int64} (hM : kCl_ l D cI cJ y (.code y bytes maxL rt) rm (.ref b :: As) wc v wc') (cw : CallW R s args own y.cls index y bytes maxL rt (.code y bytes maxL rt :: kAll) rm 0 0 As.length) (isC isR perm : List Nat) (wr w' : va_W) (hnC : va_nd isC = true) (hC : isC.map (fun i => w[i]?) = wc.map some) (hR : isR.map (fun i => w[i]?) = wr.map some) (hnR : va_nd isR = true) (hdis : ∀ i ∈ isR, i ∉ isC) (as : List Nat) (ha1 : wc.map (fun q => q.1) = as) (ha2 : wc'.map (fun q => q.1) = as) (hnP : va_nd perm = true) (hPm : perm.map (fun i => (wr ++ wc')[i]?) = w'.map some) (q0 ci : Nat) {fs : List Value} {q9 : vw_C} (hcl : kCl[ci]? = some q9) (hqn : q9.1 = y.cls) (he : w[q0]? = some (b, .inr (ci, fs))) (hcat : (rest.map fun v => v.category).sum ≤ 8) (hcs : k ≤ R.cells ∧ n ≤ R.slots) (hst : st = As.reverse ++ .ref b :: rest) (d : decode cc pc = .ok (.invokevirtual index, 3)) (kk : kW p l e R s m args below meth c D A nL k n Q w' (pc + 3) lv (.long v :: rest)) : kW p l e R s m args below meth c D A nL k n Q w pc lv st := by
  intro H locs ls hP hD hS hl
  subst hst
  have hFc : ∀ q, va_A wc H.size q → A q := va_free hD hS C.2.2.2.2.2.2.2.1 isC hC
  refine va_calll (va_runV (As := As) (rest := rest) ⟨C.1, C.2.1, C.2.2.1, C.2.2.2.1, C.2.2.2.2.1⟩ (hM H.size) cw ⟨kPc_blind, hqn ▸ va_recv C.2.2.2.2.2.1 hP hcl he, fun U hU hW => ⟨rfl, by rw [hU], by rw [hU]; exact hP.sub isC (filter_of hC), va_K.moved hW.alike C.2.2.2.2.2.1, (hD.sub isC hnC hC).weaken (fun _ _ _ _ => trivial), C.2.2.2.2.2.2.1.warm hW⟩⟩ rfl rfl hl.1 rfl (lv_room hcat) d hcs) hS (fun q _ h => hFc q h) hFc (fun r u t H1 locs1 ht hvm hw hB hz1 hk1 hS1 => ?_)
  · rw [ht] at hB
    subst hw
    have hDc : va_D (va_A wc H.size) wc' := kD_addr (ha1.trans ha2.symm) ((hD.sub isC hnC hC).self)
    obtain ⟨hP2, hD2⟩ := va_join hP hD isC isR hC hR hnR hdis hk1 hFc hB hDc
    exact kk H1 locs1 ls (hP2.sub perm (filter_of hPm)) (hD2.sub perm hnP hPm) hS1 hl
theorem k_callV_d (C : kCx p s m args meth c own cc nL ret D cI cJ A) {y : MethodName} {bytes : ByteArray} {maxL index b : Nat} {rm : Room} {As rest : List Value} {wc : va_W} {rt : Option FieldType} {v : UInt64} (hM : kCd l D cI cJ y (.code y bytes maxL rt) rm (.ref b :: As) wc v) (cw : CallW R s args own y.cls index y bytes maxL rt (.code y bytes maxL rt :: kAll) rm 0 0 As.length) (isC isR perm : List Nat) (wr w' : va_W) (hnC : va_nd isC = true) (hC : isC.map (fun i => w[i]?) = wc.map some) (hR : isR.map (fun i => w[i]?) = wr.map some) (hnR : va_nd isR = true) (hdis : ∀ i ∈ isR, i ∉ isC) (as : List Nat) (ha1 : wc.map (fun q => q.1) = as) (ha2 : wc.map (fun q => q.1) = as) (hnP : va_nd perm = true) (hPm : perm.map (fun i => (wr ++ wc)[i]?) = w'.map some) (q0 ci : Nat) {fs : List Value} {q9 : vw_C} (hcl : kCl[ci]? = some q9) (hqn : q9.1 = y.cls) (he : w[q0]? = some (b, .inr (ci, fs))) (hcat : (rest.map fun v => v.category).sum ≤ 8) (hcs : k ≤ R.cells ∧ n ≤ R.slots) (hst : st = As.reverse ++ .ref b :: rest) (d : decode cc pc = .ok (.invokevirtual index, 3)) (kk : kW p l e R s m args below meth c D A nL k n Q w' (pc + 3) lv (.double v :: rest)) : kW p l e R s m args below meth c D A nL k n Q w pc lv st := by
  intro H locs ls hP hD hS hl
  subst hst
  have hFc : ∀ q, va_A wc H.size q → A q := va_free hD hS C.2.2.2.2.2.2.2.1 isC hC
  refine va_calld (va_runV (As := As) (rest := rest) ⟨C.1, C.2.1, C.2.2.1, C.2.2.2.1, C.2.2.2.2.1⟩ (hM H.size) cw ⟨kPc_blind, hqn ▸ va_recv C.2.2.2.2.2.1 hP hcl he, fun U hU hW => ⟨rfl, by rw [hU], by rw [hU]; exact hP.sub isC (filter_of hC), va_K.moved hW.alike C.2.2.2.2.2.1, (hD.sub isC hnC hC).weaken (fun _ _ _ _ => trivial), C.2.2.2.2.2.2.1.warm hW⟩⟩ rfl rfl hl.1 rfl (lv_room hcat) d hcs) hS (fun q _ h => hFc q h) hFc (fun r u t H1 locs1 ht hvm hw hB hz1 hk1 hS1 => ?_)
  · rw [ht] at hB
    subst hw
    have hDc : va_D (va_A wc H.size) wc := kD_addr (ha1.trans ha2.symm) ((hD.sub isC hnC hC).self)
    obtain ⟨hP2, hD2⟩ := va_join hP hD isC isR hC hR hnR hdis hk1 hFc hB hDc
    exact kk H1 locs1 ls (hP2.sub perm (filter_of hPm)) (hD2.sub perm hnP hPm) hS1 hl
theorem k_callX0 (C : kCx p s m args meth c own cc nL ret D cI cJ A) (T : kTE A s s.heap) {y : MethodName} {bytes : ByteArray} {maxL index b : Nat} {rm : Room} {As rest : List Value} {wc wc' : va_W} {rt : Option FieldType} {kc v : Int32} (hM : kCX l D cI cJ y (.code y bytes maxL rt) rm (.ref b :: As) wc kc v wc') (cw : CallW R s args own y.cls index y bytes maxL rt (.code y bytes maxL rt :: kAll) rm 1 6 As.length) (isC isR perm : List Nat) (wr w' : va_W) (hnC : va_nd isC = true) (hC : isC.map (fun i => w[i]?) = wc.map some) (hR : isR.map (fun i => w[i]?) = wr.map some) (hnR : va_nd isR = true) (hdis : ∀ i ∈ isR, i ∉ isC) (as : List Nat) (ha1 : wc.map (fun q => q.1) = as) (ha2 : wc'.map (fun q => q.1) = as) (hnP : va_nd perm = true) (hPm : perm.map (fun i => (wr ++ wc')[i]?) = w'.map some) (q0 ci : Nat) {fs : List Value} {q9 : vw_C} (hcl : kCl[ci]? = some q9) (hqn : q9.1 = y.cls) (he : w[q0]? = some (b, .inr (ci, fs))) (hcat : (rest.map fun v => v.category).sum ≤ 8) (hcs : k + 1 ≤ R.cells ∧ n + 6 ≤ R.slots) (hst : st = As.reverse ++ .ref b :: rest) (d : decode cc pc = .ok (.invokevirtual index, 3))
    (h0 : kc = 0) (kk : kW p l e R s m args below meth c D A nL (k + 1) (n + 6) Q w' (pc + 3) lv (.int v :: rest)) : kW p l e R s m args below meth c D A nL k n Q w pc lv st := by
  intro H locs ls hP hD hS hl
  subst hst
  have hFc : ∀ q, va_A wc H.size q → A q := va_free hD hS C.2.2.2.2.2.2.2.1 isC hC
  refine vx_calli (vx_runV (As := As) (rest := rest) ⟨C.1, C.2.1, C.2.2.1, C.2.2.2.1, C.2.2.2.2.1⟩ (hM H.size) cw ⟨kPx_blind, hqn ▸ va_recv C.2.2.2.2.2.1 hP hcl he, fun U hU hW => ⟨rfl, by rw [hU], by rw [hU]; exact hP.sub isC (filter_of hC), va_K.moved hW.alike C.2.2.2.2.2.1, (hD.sub isC hnC hC).weaken (fun _ _ _ _ => trivial), C.2.2.2.2.2.2.1.warm hW, by rw [hU]; exact (T.at hS hFc).warm hW⟩⟩ rfl rfl hl.1 rfl (lv_room hcat) d hcs) hS (fun q _ h => hFc q h) hFc (fun q _ h => hFc q h) (fun E ce q9 u t H1 locs1 ht hvm hw hB hz1 hk1 hS1 h1 h2 h3 => ?_) (fun r u t H1 locs1 ht hvm hw hB hz1 hk1 hS1 => ?_)
  · obtain ⟨hE, hB⟩ := hB
    exact (show False by rw [h0] at hE; rcases hE with ⟨h, _⟩ | ⟨h, _⟩ | ⟨h, _⟩ <;> exact absurd h (by decide)).elim
  · rw [ht] at hB
    obtain ⟨hk0, rfl⟩ := hw
    obtain ⟨hP2, hD2⟩ := va_join hP hD isC isR hC hR hnR hdis hk1 hFc hB (kD_addr (ha1.trans ha2.symm) ((hD.sub isC hnC hC).self))
    exact kk H1 locs1 ls (hP2.sub perm (filter_of hPm)) (hD2.sub perm hnP hPm) hS1 hl
theorem k_callGH (C : kCx p s m args meth c own cc nL ret D cI cJ A) (T : kTE A s s.heap) {y : MethodName} {bytes : ByteArray} {maxL index : Nat} {hh : List (Nat × Nat × Nat × Nat)} {rm : Room} {As rest : List Value} {wc : va_W} {mc ms : Nat} {rt : Option FieldType} {post : Int32 → va_W → Prop} (hM : kGH l D cI cJ y (.codeWith y bytes maxL rt hh) rm As wc mc ms post) (cw : vx_CSW R s args own index y bytes maxL rt hh (.codeWith y bytes maxL rt hh :: kAll) rm mc ms As.length) (isC isR : List Nat) (wr : va_W) (hnC : va_nd isC = true) (hC : isC.map (fun i => w[i]?) = wc.map some) (hR : isR.map (fun i => w[i]?) = wr.map some) (hnR : va_nd isR = true) (hdis : ∀ i ∈ isR, i ∉ isC) (hcat : (rest.map fun v => v.category).sum ≤ 8) (hcs : k + mc ≤ R.cells ∧ n + ms ≤ R.slots) (hst : st = As.reverse ++ rest) (d : decode cc pc = .ok (.invokestatic index, 3))
    (kk : ∀ (r : Int32) (U : va_W), post r U → kW p l e R s m args below meth c D A nL (k + mc) (n + ms) Q (wr ++ U) (pc + 3) lv (.int r :: rest)) : kW p l e R s m args below meth c D A nL k n Q w pc lv st := by
  intro H locs ls hP hD hS hl
  subst hst
  have hFc : ∀ q, va_A wc H.size q → A q := va_free hD hS C.2.2.2.2.2.2.2.1 isC hC
  refine va_calli (vx_runSW (As := As) (rest := rest) ⟨C.1, C.2.1, C.2.2.1, C.2.2.2.1, C.2.2.2.2.1⟩ (hM H.size) cw ⟨kPx_blind, fun U hU hW => ⟨rfl, by rw [hU], by rw [hU]; exact hP.sub isC (filter_of hC), va_K.moved hW.alike C.2.2.2.2.2.1, (hD.sub isC hnC hC).weaken (fun _ _ _ _ => trivial), C.2.2.2.2.2.2.1.warm hW, by rw [hU]; exact (T.at hS hFc).warm hW⟩⟩ rfl rfl hl.1 rfl (lv_room hcat) d hcs) hS (fun q _ h => hFc q h) hFc (fun r u t H1 locs1 ht hvm hw hB hz1 hk1 hS1 => ?_)
  obtain ⟨hDc, hB⟩ := hB
  rw [ht] at hB
  obtain ⟨hP2, hD2⟩ := va_join hP hD isC isR hC hR hnR hdis hk1 hFc hB hDc
  exact kk r u hw H1 locs1 ls hP2 hD2 hS1 hl
end KG
