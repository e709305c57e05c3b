/-! the law's small helpers -/
section KLW
variable {p : Program} {l : Launch} {e : Env} {R : Room} {s : State} {m : MethodId} {args : Array Value} {below : List Frame} {meth : Method} {c : Code} {D : va_G} {cI cJ : ClassId} {A : Nat → Prop} {own : String} {cc : ByteArray} {nL k n : Nat} {ret : Option FieldType} {Q : State → Prop} {w : va_W} {pc : Nat} {lv : List (Nat × Value)} {st : List Value}
theorem k_sld (C : kCx p s m args meth c own cc nL ret D cI cJ A) {b L : Nat} {xs : Nat → Int32} (hX : va_X b L xs s s.heap) (hbl : b < s.heap.size) (hbA : ¬ A b) {i : Int32} (hin : vp_in i L) (d : decode cc pc = .ok (.iaload, 1)) (kk : kW p l e R s m args below meth c D A nL k n Q w (pc + 1) lv (.int (xs i.toNatClampNeg) :: st)) : kW p l e R s m args below meth c D A nL k n Q w pc lv (.int i :: .ref b :: st) :=
  fun H locs ls hP hD hS hl => va_sld C.1 C.2.1 hX hbl hbA hS hin d (kk H locs ls hP hD hS hl)
theorem k_slen (C : kCx p s m args meth c own cc nL ret D cI cJ A) {b L : Nat} {xs : Nat → Int32} (hX : va_X b L xs s s.heap) (hbl : b < s.heap.size) (hbA : ¬ A b) (d : decode cc pc = .ok (.arraylength, 1)) (kk : kW p l e R s m args below meth c D A nL k n Q w (pc + 1) lv (.int (nI L) :: st)) : kW p l e R s m args below meth c D A nL k n Q w pc lv (.ref b :: st) :=
  fun H locs ls hP hD hS hl => va_slen C.1 C.2.1 hX hbl hbA hS d (kk H locs ls hP hD hS hl)
theorem k_lstore (C : kCx p s m args meth c own cc nL ret D cI cJ A) {j : Nat} {x : Int64} (lv' : List (Nat × Value)) (hj : j + 1 < nL) (hl' : (j, Value.long x) :: lv.filter (fun q => !(q.1 == j) && (!(q.1 == j + 1) && !(q.1 + 1 == j && q.2.category == 2))) = lv') (d : decode cc pc = .ok (.lstore j, 2)) (kk : kW p l e R s m args below meth c D A nL k n Q w (pc + 2) lv' st) : kW p l e R s m args below meth c D A nL k n Q w pc lv (.long x :: st) :=
  fun H locs ls hP hD hS hl => lv_lstore C.1 C.2.1 d hl hj hl' (fun ls' hl2 => kk H locs ls' hP hD hS hl2)
theorem k_lload (C : kCx p s m args meth c own cc nL ret D cI cJ A) {j : Nat} {x : Int64} (d : decode cc pc = .ok (.lload j, 2)) (q : Nat) (h : lv[q]? = some (j, .long x)) (kk : kW p l e R s m args below meth c D A nL k n Q w (pc + 2) lv (.long x :: st)) : kW p l e R s m args below meth c D A nL k n Q w pc lv st :=
  fun H locs ls hP hD hS hl => lv_lload C.1 C.2.1 d (lv_at hl q h) (kk H locs ls hP hD hS hl)
/-- what a helper knows that reads the script alone -/
def kPs (D : va_G) (cI cJ : ClassId) (As : List Value) (b L : Nat) (xs : Nat → Int32) (sz : Nat) : Array Value → State → Prop := va_Pc As (fun U => U.heap.size = sz ∧ va_P D kCl [] U.heap ∧ va_K D kCl (kTy cI cJ) U ∧ va_D (fun _ => True) [] ∧ kNW U ∧ va_X b L xs U U.heap ∧ b < sz)
theorem kPs_blind {D : va_G} {cI cJ : ClassId} {As : List Value} {b L : Nat} {xs : Nat → Int32} {sz : Nat} : FrameBlind (kPs D cI cJ As b L xs sz) := fun a U g mk h =>
  ⟨h.1, h.2.1, h.2.2.1, va_K.moved (u := U) (U := U.calling g mk a) (Vm.Alike.refl U.vm) h.2.2.2.1, h.2.2.2.2.1, kNW.same (u := U) (U := U.calling g mk a) rfl h.2.2.2.2.2.1, va_X.moved (u := U) (U := U.calling g mk a) (Vm.Alike.refl U.vm) h.2.2.2.2.2.2.1, h.2.2.2.2.2.2.2⟩
theorem k_cell (C : kCx p s m args meth c own cc nL ret D cI cJ A) {b L : Nat} {xs : Nat → Int32} (hX : va_X b L xs s s.heap) (hbl : b < s.heap.size) (hbA : ¬ A b) {y : MethodName} {bytes : ByteArray} {maxL index : Nat} {rm : Room} {rest : List Value} {z : Int32}
    (hM : ∀ sz : Nat, Met l y (.code y bytes maxL (some .int) :: kAll) rm (kPs D cI cJ [.ref b, .int z] b L xs sz) (va_Qi (fun (_ : Int32) (_ : Unit) => True) (fun _ _ => True) (va_A [] sz)) 0 0 (va_A [] sz))
    (cw : CallB R s args own index y bytes maxL (some .int) (.code y bytes maxL (some .int) :: kAll) rm 0 0 2 ∧ (Cond.static y).before args s = true) (hcat : (rest.map fun v => v.category).sum ≤ 8) (hcs : k ≤ R.cells ∧ n ≤ R.slots) (d : decode cc pc = .ok (.invokestatic index, 3))
    (kk : ∀ r : Int32, kW p l e R s m args below meth c D A nL k n Q w (pc + 3) lv (.int r :: rest)) : kW p l e R s m args below meth c D A nL k n Q w pc lv (.int z :: .ref b :: rest) := by
  intro H locs ls hP hD hS hl
  have hFc : ∀ q, va_A [] H.size q → A q := fun q h => by
    rcases h with ⟨k9, e9, h⟩ | h
    · simp at h
    · exact C.2.2.2.2.2.2.2.1 q (Nat.le_trans hS.1 h)
  have hXH : va_X b L xs s H := hX.kept (hS.2.1 b hbl hbA)
  refine va_calli (va_runS (As := [.ref b, .int z]) (rest := rest) ⟨C.1, C.2.1, C.2.2.1, C.2.2.2.1, C.2.2.2.2.1⟩ (hM H.size) cw ⟨kPs_blind, fun U hU hW => ⟨rfl, by rw [hU], fun k9 q9 h9 => by simp at h9, va_K.moved hW.alike C.2.2.2.2.2.1, ⟨fun i j p q h => by simp at h, fun k q h => by simp at h⟩, C.2.2.2.2.2.2.1.warm hW, by rw [hU]; exact hXH.moved hW.alike, Nat.lt_of_lt_of_le hbl hS.1⟩⟩ rfl rfl hl.1 rfl (lv_room hcat) d hcs) hS (fun q _ h => hFc q h) hFc (fun r u t H1 locs1 ht hvm hw hB hz1 hk1 hS1 => ?_)
  have hk : ∀ (k9 : Nat) (x : Nat × va_E), w[k9]? = some x → H1[x.1]? = H[x.1]? := fun k9 x hx => hk1 x.1 ((hP k9 x hx).lt) (fun h => by
    rcases h with ⟨k8, e8, h⟩ | h
    · simp at h
    · exact absurd (hP k9 x hx).lt (Nat.not_lt.mpr h))
  exact kk r H1 locs1 ls (hP.kept hk) hD hS1 hl
end KLW
theorem nI_b (p : Int32) {d : Nat} (h0 : 0 < d) (hd : d < 2 ^ 31) : ∃ j : Nat, j < d ∧ (p &&& 2147483647) - (p &&& 2147483647) / nI d * nI d = nI j := by
  obtain ⟨a, ha, e⟩ := pk_andE p (m := 2147483647) 31 (by decide)
  exact ⟨a % d, Nat.mod_lt _ h0, by rw [e, pk_rem ha h0 hd]⟩
theorem hdL_below : yL_below.cls ≠ "java/lang/invoke/MethodHandle" ∧ yL_below.cls ≠ "java/lang/invoke/VarHandle" ∧ (parseMethodDescriptor yL_below.desc).map (fun d => d.parameters.length) = some 2 := by decide +kernel
noncomputable def fL_below (p0 : Int32) (p1 : Int32) : Int32 :=
  ((p0 &&& 2147483647) - (p0 &&& 2147483647) / p1 * p1)
set_option maxHeartbeats 4000000 in
set_option maxRecDepth 100000 in
theorem mL_below (l : Launch) (D : va_G) (cI cJ : ClassId) (p0 : Int32) (p1 : Int32) (hy : ¬ p1 = 0)  : kCi l D cI cJ yL_below (.code yL_below cL_below 2 (some .int)) { frames := 0, cells := 0, slots := 0, locals := 0 } [.int p0, .int p1] [] (fL_below p0 p1) [] := by
  refine fun sz => k_of (lv := [(0, .int p0), (1, .int p1)]) (by decide) sz (by exact Nat.le_of_ble_eq_true rfl) rfl ?_
  intro p e s m args below meth c hsz C
  refine k_iload_n C dL_below_0 0 rfl ?_
  refine k_ldc C q556 dL_below_1 ?_
  refine k_iand C dL_below_3 ?_
  refine k_iload_n C dL_below_4 1 rfl ?_
  refine k_irem C hy dL_below_5 ?_
  have hL : fL_below p0 p1 = ((p0 &&& 2147483647) - (p0 &&& 2147483647) / p1 * p1) := by exact rfl
  exact k_iret C rfl (hL.symm) rfl dL_below_6

theorem below_b (p : Int32) {d : Nat} (h0 : 0 < d) (hd : d < 2 ^ 31) : ∃ j : Nat, j < d ∧ fL_below p (nI d) = nI j := nI_b p h0 hd
theorem hdL_cell : yL_cell.cls ≠ "java/lang/invoke/MethodHandle" ∧ yL_cell.cls ≠ "java/lang/invoke/VarHandle" ∧ (parseMethodDescriptor yL_cell.desc).map (fun d => d.parameters.length) = some 2 := by decide +kernel
theorem mL_cell (l : Launch) (D : va_G) (cI cJ : ClassId) (b L : Nat) (xs : Nat → Int32) (z : Int32) (hz : 0 ≤ z.toInt) (hL : L < 2 ^ 31) (sz : Nat) : Met l yL_cell (.code yL_cell cL_cell 2 (some .int) :: kAll) { frames := 0, cells := 0, slots := 0, locals := 0 } (kPs D cI cJ [.ref b, .int z] b L xs sz) (va_Qi (fun (_ : Int32) (_ : Unit) => True) (fun _ _ => True) (va_A [] sz)) 0 0 (va_A [] sz) := by
  refine Met.ofW (cc := cL_cell) (maxL := 2) (ret := some .int) (by decide) rfl ?_
  intro p e s m args below meth c s₁ B hml hv
  obtain ⟨rfl, hsz, hP, hK, hD0, hN, hX, hb⟩ := hv
  have hts := atoms_spec (ws := Cond.code yL_cell cL_cell 2 (some .int) :: kAll) B.pre
  have hown : s.vm.findClass yL_cell.cls = some m.cls := findClass_of_methodNamed B.named
  subst hsz
  have hD := hD0.self (sz := s.heap.size)
  have hS : va_S (va_A [] s.heap.size) s.heap s.heap [] := va_S.rf
  have hl := lv_entry [.ref b, .int z] (n := 2) (Nat.le_of_ble_eq_true rfl)
  rw [lg_entry_eq]
  have C : kCx p s m [.ref b, .int z].toArray meth c yL_cell.cls cL_cell 2 (some .int) D cI cJ (va_A [] s.heap.size) := ⟨B.exec, B.bytes, hml, hown, fun w h => hts w (List.mem_cons_of_mem _ h), hK, hN, fun q h => Or.inr h, B.returns, B.notSynchronized⟩
  have hbA : ¬ va_A [] s.heap.size b := fun h => by
    rcases h with ⟨k9, e9, h⟩ | h
    · simp at h
    · omega
  have fin : ∀ (x : Int32) (lv : List (Nat × Value)), kW p l e { frames := 0, cells := 0, slots := 0, locals := 0 } s m [.ref b, .int z].toArray below meth c D (va_A [] s.heap.size) 2 0 0 (MQ below (va_Qi (fun (_ : Int32) (_ : Unit) => True) (fun _ _ => True) (va_A [] s.heap.size)) [.ref b, .int z].toArray s 0 0 (va_A [] s.heap.size)) [] 18 lv [.int x] := fun x lv H locs ls hP hD hS hl =>
    W.iret C.1 C.2.1 C.2.2.2.2.2.2.2.2.1 (fun t ht hW => ⟨⟨x, (), rfl, trivial, trivial⟩, hS.F ht⟩) hS.2.2 dL_cell_18 C.2.2.2.2.2.2.2.2.2
  suffices K : kW p l e { frames := 0, cells := 0, slots := 0, locals := 0 } s m [.ref b, .int z].toArray below meth c D (va_A [] s.heap.size) 2 0 0 (MQ below (va_Qi (fun (_ : Int32) (_ : Unit) => True) (fun _ _ => True) (va_A [] s.heap.size)) [.ref b, .int z].toArray s 0 0 (va_A [] s.heap.size)) [] 0 [(0, .ref b), (1, .int z)] [] from K s.heap [] _ hP hD hS hl
  refine k_iload_n C dL_cell_0 1 rfl ?_
  refine k_aload_n C dL_cell_1 0 rfl ?_
  refine k_slen C hX hb hbA dL_cell_2 ?_
  refine k_icmp_ge C 12 (by decide) dL_cell_3 (fun c1 => ?_) (fun c1 => ?_)
  · refine k_ldc C q493 dL_cell_12 ?_
    refine k_iload_n C dL_cell_14 1 rfl ?_
    refine k_iconst C 3 (by decide) dL_cell_15 ?_
    refine k_iadd C dL_cell_16 ?_
    refine k_imul C dL_cell_17 ?_
    exact fin _ _
  · have hin : vp_in z L := by
      rw [kleI, nI_toInt hL] at c1
      obtain ⟨j, hj, rfl⟩ := nI_of (x := z) (by rw [kltI, n0]; omega)
      rw [nI_toInt hj] at c1
      exact vp_in_nI (by omega) hL
    refine k_aload_n C dL_cell_6 0 rfl ?_
    refine k_iload_n C dL_cell_7 1 rfl ?_
    refine k_sld C hX hb hbA hin dL_cell_8 ?_
    refine k_goto C 18 (by decide) dL_cell_9 ?_
    exact fin _ _