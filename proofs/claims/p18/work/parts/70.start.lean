/-! the law, from its entry -/
theorem kNs_tbl : ∀ w ∈ kNs, w ∈ lw_tbl := by decide +kernel
theorem kNs_on : ∀ w ∈ kNs, w.onTables = true ∨ w = .arrayOver (.array .int) := by decide +kernel
theorem kTw_tbl : ∀ w ∈ kTw, w ∈ lw_tbl := by decide +kernel
theorem kTw_on : ∀ w ∈ kTw, w.onTables = true := by decide +kernel
theorem kTx_tbl : ∀ q ∈ kTx, Cond.stringRef RX2 q.1 q.2 ∈ lw_tbl := by decide +kernel
theorem kTx_nar : ∀ q ∈ kTx, Cond.exactly (Term.string RX2 q.1) "java/lang/String" ∈ flatC (Jvm.Cond.and given_1 narrow_1) := by decide +kernel
theorem kLs : Cond.laysStatic Bundle.tN "UNASSIGNED_STACK" Bundle.steD ∈ lw_tbl ∧ Cond.laysStatic Bundle.tN "SUPPRESSED_SENTINEL" Bundle.listD ∈ lw_tbl ∧ Cond.initialized Bundle.tN ∈ lw_tbl := by decide +kernel
theorem kNar : Cond.isRef (.static Bundle.tN "UNASSIGNED_STACK" Bundle.steD) ∈ flatC (Jvm.Cond.and given_1 narrow_1) ∧ Cond.isRef (.static Bundle.tN "SUPPRESSED_SENTINEL" Bundle.listD) ∈ flatC (Jvm.Cond.and given_1 narrow_1) := by decide +kernel
theorem law_TE {s : State} {b : Nat} (hts : ∀ w ∈ lw_tbl, w.before #[Value.ref b] s = true) (hgv : (Jvm.Cond.and given_1 narrow_1).before #[Value.ref b] s = true) : kTE (fun q => s.heap.size ≤ q) s s.heap := by
  have hf := flat_of_before _ hgv
  have hA : ∀ a : Nat, a < s.heap.size → ¬ (fun q : Nat => s.heap.size ≤ q) a := fun a h => Nat.not_le.mpr h
  refine ⟨fun w hw => va_Nw.of (kTw_on w hw) (hts w (kTw_tbl w hw)), fun q hq => ?_, vx_Zqof (hts _ kLs.1) (hts _ kLs.2.2) (hf _ kNar.1) hA, vx_Zqof (hts _ kLs.2.1) (hts _ kLs.2.2) (hf _ kNar.2) hA⟩
  obtain ⟨a, c, cell, k, h1, -⟩ := Cond.exactly_spec (hf _ (kTx_nar q hq))
  exact ⟨a, vk_R.of (hts _ (kTx_tbl q hq)) h1⟩
set_option maxHeartbeats 4000000 in
set_option maxRecDepth 100000 in
/-- the law, from its entry: two systems made, then the loop -/
theorem whole_start {p : Program} {e : Env} {s : State} {m : MethodId} {below : List Frame} {meth : Method} {c : Code} (l : Launch) (hflags : l.flags = flags0) {b L : Nat} {xs : Nat → Int32} (hL : L ≤ 260) (C0 : lw_At p s m meth c b L xs) : W p l e room_1 s m #[Value.ref b] below meth c s.heap [] 0 0 (lw_Z below #[Value.ref b] s) (entryFrame m ([Value.ref b] : List Value).toArray 23) := by
  obtain ⟨hx, hb, hr, hml, hown, hts, hX, hbl, hlocks, hgv⟩ := id C0
  have hlt : l.stackTraces = false := by unfold Launch.stackTraces; rw [hflags]; decide +kernel
  have T0 := law_TE hts hgv
  have htk : ∀ w ∈ kAll, w.before #[Value.ref b] s = true := fun w h => hts w (kAll_tbl h)
  have hN : kNW s := fun w hw => by
    rcases kNs_on w hw with h | rfl
    · exact va_Nw.of h (hts w (kNs_tbl w hw))
    · exact hts _ (kNs_tbl _ hw)
  obtain ⟨c0, i0, hKn0⟩ := u_known htk iwX0 (htk _ q80)
  obtain ⟨c1, i1, hKn1⟩ := u_known htk iwX1 (htk _ q57)
  obtain ⟨c2, i2, hKn2⟩ := u_known htk iwX2 (htk _ q49)
  obtain ⟨c3, i3, hKn3⟩ := u_known htk iwX3 (htk _ q505)
  obtain ⟨c4, i4, hKn4⟩ := u_known htk iwX4 (htk _ q416)
  obtain ⟨cI, kI, mI, hI1, hI2, hI3⟩ := Cond.arrayClass_spec (htk _ q461)
  obtain ⟨mJ, cJ, kJ, hJ0, hJi, hJ2, hJ3, hJ1⟩ := aoa_spec (hN _ qn18)
  obtain ⟨dC, dI, hKc⟩ : ∃ (dC : Nat → ClassId) (dI : Nat → Nat → Nat), ∀ (k : Nat) (q : vw_C), kCl[k]? = some q → u_Kn s q.1 q.2.1 q.2.2 (dC k) (dI k) := by
    refine ⟨fun k => if k = 0 then c0 else if k = 1 then c1 else if k = 2 then c2 else if k = 3 then c3 else c4, fun k => if k = 0 then i0 else if k = 1 then i1 else if k = 2 then i2 else if k = 3 then i3 else i4, ?_⟩
    intro k q hq
    match k, hq with
    | 0, hq => cases hq; exact hKn0
    | 1, hq => cases hq; exact hKn1
    | 2, hq => cases hq; exact hKn2
    | 3, hq => cases hq; exact hKn3
    | 4, hq => cases hq; exact hKn4
    | k + 5, hq => simp [kCl] at hq
  have hK : va_K (dC, dI) kCl (kTy cI cJ) s := by
    refine ⟨hKc, fun k q h => ?_⟩
    match k, h with
    | 0, h => cases h; exact ⟨fun n z => ⟨fun k h => (by cases h), kI, hI2, mI, hI3⟩, hI1⟩
    | 1, h => cases h; exact ⟨fun n z => ⟨fun k h => (by cases h), kJ, hJ2, mJ, hJ3⟩, hJ1⟩
    | k + 2, h => simp [kTy] at h
  have C0 : kCx p s m #[Value.ref b] meth c RL cL_law 23 ret (dC, dI) cI cJ (fun q => s.heap.size ≤ q) := ⟨hx, hb, hml, hown, htk, hK, hN, fun q h => h, hr, hlocks⟩
  have C := C0
  have hS : va_S (fun q : Nat => s.heap.size ≤ q) s.heap s.heap [] := va_S.rf
  have hP : va_P (dC, dI) kCl [] s.heap := fun k q h => by simp at h
  have hD : va_D (fun q : Nat => s.heap.size ≤ q) [] := ⟨fun i j p q h => by simp at h, fun k q h => by simp at h⟩
  have hl := lv_entry ([.ref b]) (n := 23) (Nat.le_of_ble_eq_true rfl)
  rw [lg_entry_eq]
  suffices K : kW p l e room_1 s m #[Value.ref b] below meth c (dC, dI) (fun q => s.heap.size ≤ q) 23 0 0 (lw_Z below #[Value.ref b] s) [] 0 [(0, .ref b)] [] from K s.heap [] _ hP hD hS hl
  clear hl hP hD hS
  refine k_newX2 C q48 q49 q35 [.null, .null, .null, .null, .null, .null, .int 0, .int 0, .int 0, .int 0, .int 0, .int 0, .int 0, .int 0, .int 0] (fun j hj => by rcases (show j = 0 ∨ j = 1 ∨ j = 2 ∨ j = 3 ∨ j = 4 ∨ j = 5 ∨ j = 6 ∨ j = 7 ∨ j = 8 ∨ j = 9 ∨ j = 10 ∨ j = 11 ∨ j = 12 ∨ j = 13 ∨ j = 14 by omega) with rfl | rfl | rfl | rfl | rfl | rfl | rfl | rfl | rfl | rfl | rfl | rfl | rfl | rfl | rfl <;> rfl) (Nat.le_of_ble_eq_true rfl) (Nat.le_of_ble_eq_true rfl) dL_law_0 (fun a0 => ?_)
  refine k_dup C rfl dL_law_3 ?_
  intro H locs ls hP hD hS hl
  have hFc := va_free (wc := [(a0, .inr (2, [.null, .null, .null, .null, .null, .null, .int 0, .int 0, .int 0, .int 0, .int 0, .int 0, .int 0, .int 0, .int 0]))]) hD hS C.2.2.2.2.2.2.2.1 [0] rfl
  refine va_callv (va_runI (As := []) (rest := [.ref a0]) ⟨C.1, C.2.1, C.2.2.1, C.2.2.2.1, C.2.2.2.2.1⟩ (mX2_init l (dC, dI) cI cJ a0 H.size) (cwI 0 C.2.2.2.2.1 (kGN q52) rfl rfl rfl (C.2.2.2.2.1 _ q35) (C.2.2.2.2.1 _ q50) (C.2.2.2.2.1 _ q51) rfl hdX2_init ⟨Nat.le_of_ble_eq_true rfl, Nat.le_of_ble_eq_true rfl⟩) ⟨kPc_blind, fun U hU hW => ⟨rfl, by rw [hU], by rw [hU]; exact hP.sub [0] rfl, va_K.moved hW.alike C.2.2.2.2.2.1, (hD.sub [0] (by decide) rfl).weaken (fun _ _ _ _ => trivial), C.2.2.2.2.2.2.1.warm hW⟩⟩ rfl rfl hl.1 rfl (lv_room (Nat.le_of_ble_eq_true rfl)) dL_law_4 ⟨Nat.le_of_ble_eq_true rfl, Nat.le_of_ble_eq_true rfl⟩) hS (fun q _ h => hFc q h) hFc (fun u t H1 locs1 ht hvm hw hB hz1 hk1 hS1 => ?_)
  obtain ⟨a1, a2, a3, a4, a5, a6, hP1, hD1⟩ := hB
  rw [ht] at hP1
  obtain ⟨hP2, hD2⟩ := va_join (wr := []) (w1 := wC a0 a1 a2 a3 a4 a5 a6 X0co) hP hD [0] [] rfl rfl (by decide) (by decide) hk1 hFc hP1 hD1
  suffices K : kW p l e room_1 s m #[Value.ref b] below meth c (dC, dI) (fun q => s.heap.size ≤ q) 23 7 67 (lw_Z below #[Value.ref b] s) (wC a0 a1 a2 a3 a4 a5 a6 X0co) 7 [(0, .ref b)] [.ref a0] from K H1 locs1 ls hP2 hD2 hS1 hl
  clear hl hP hD hS hP1 hD1 hP2 hD2 hS1 hFc hk1
  refine k_astore_n C [(1, .ref a0), (0, .ref b)] (by decide) rfl dL_law_7 ?_
  refine k_newX4 C q415 q416 q38 [.int 0, .int 0, .int 0, .null, .null, .int 0, .int 0, .int 0, .int 0, .int 0, .int 0] (fun j hj => by rcases (show j = 0 ∨ j = 1 ∨ j = 2 ∨ j = 3 ∨ j = 4 ∨ j = 5 ∨ j = 6 ∨ j = 7 ∨ j = 8 ∨ j = 9 ∨ j = 10 by omega) with rfl | rfl | rfl | rfl | rfl | rfl | rfl | rfl | rfl | rfl | rfl <;> rfl) (Nat.le_of_ble_eq_true rfl) (Nat.le_of_ble_eq_true rfl) dL_law_8 (fun z0 => ?_)
  refine k_dup C rfl dL_law_11 ?_
  intro H locs ls hP hD hS hl
  have hFc := va_free (wc := [(z0, .inr (4, [.int 0, .int 0, .int 0, .null, .null, .int 0, .int 0, .int 0, .int 0, .int 0, .int 0]))]) hD hS C.2.2.2.2.2.2.2.1 [7] rfl
  refine va_callv (va_runIN (As := []) (rest := [.ref z0]) ⟨C.1, C.2.1, C.2.2.1, C.2.2.2.1, C.2.2.2.2.1⟩ (mX4_init l (dC, dI) cI cJ z0 H.size) ⟨va_cnB 0 C.2.2.2.2.1 (kGN q419) rfl rfl rfl (C.2.2.2.2.2.2.1 _ qn17) (C.2.2.2.2.1 _ q38) hdX4_init ⟨Nat.le_of_ble_eq_true rfl, Nat.le_of_ble_eq_true rfl⟩, rfl, C.2.2.2.2.1 _ q418⟩ ⟨kPc_blind, fun U hU hW => ⟨rfl, by rw [hU], by rw [hU]; exact hP.sub [7] rfl, va_K.moved hW.alike C.2.2.2.2.2.1, (hD.sub [7] (by decide) rfl).weaken (fun _ _ _ _ => trivial), C.2.2.2.2.2.2.1.warm hW⟩⟩ rfl rfl hl.1 rfl (lv_room (Nat.le_of_ble_eq_true rfl)) dL_law_12 ⟨Nat.le_of_ble_eq_true rfl, Nat.le_of_ble_eq_true rfl⟩) hS (fun q _ h => hFc q h) hFc (fun u t H1 locs1 ht hvm hw hB hz1 hk1 hS1 => ?_)
  obtain ⟨z1, z2, z3, rfl⟩ := hw
  obtain ⟨hD1, hP1⟩ := hB
  rw [ht] at hP1
  obtain ⟨hP2, hD2⟩ := va_join (wr := wC a0 a1 a2 a3 a4 a5 a6 X0co) (w1 := wZ cI cJ z0 z1 z2 z3 .null Z0zs) hP hD [7] [0, 1, 2, 3, 4, 5, 6] rfl rfl (by decide) (by decide) hk1 hFc hP1 hD1
  suffices K : kW p l e room_1 s m #[Value.ref b] below meth c (dC, dI) (fun q => s.heap.size ≤ q) 23 11 88 (lw_Z below #[Value.ref b] s) (wC a0 a1 a2 a3 a4 a5 a6 X0co ++ wZ cI cJ z0 z1 z2 z3 .null Z0zs) 15 [(1, .ref a0), (0, .ref b)] [.ref z0] from K H1 locs1 ls hP2 hD2 hS1 hl
  clear hl hP hD hS hP1 hD1 hP2 hD2 hS1 hFc hk1
  refine k_astore_n C [(2, .ref z0), (1, .ref a0), (0, .ref b)] (by decide) rfl dL_law_15 ?_
  refine k_iconst C 0 (by decide) dL_law_16 ?_
  refine k_istore_n C [(3, .int 0), (2, .ref z0), (1, .ref a0), (0, .ref b)] (by decide) rfl dL_law_17 ?_
  refine k_iconst C 0 (by decide) dL_law_18 ?_
  refine k_istore C [(4, .int 0), (3, .int 0), (2, .ref z0), (1, .ref a0), (0, .ref b)] (by decide) rfl dL_law_19 ?_
  refine k_sub [4, 3, 2, 1, 0] rfl ?_
  refine k_widen (k' := 20 + 1000 * 0) (n' := 120 + 6000 * 0) (by omega) (by omega) ?_
  exact law_loop l hlt hX hbl C0 T0 hL a0 a1 a2 a3 a4 a5 a6 z0 16 0 0 X0co Z0zs none _ rfl (wSim_none cI cJ z0 z1 z2 z3 Z0zs) Rel_0
