theorem kNs_tbl : ∀ w ∈ kNs, w ∈ lw_tbl := by decide +kernel
theorem kNs_on : ∀ w ∈ kNs, w.onTables = true := by decide +kernel
theorem kTw_tbl : ∀ w ∈ kTw, w ∈ lw_tbl := by decide +kernel
theorem kTw_on : ∀ w ∈ kTw, w.onTables = true := by decide +kernel
theorem kTx_tbl : ∀ q ∈ kTx, Cond.stringRef RX2 q.1 q.2 ∈ lw_tbl := by decide +kernel
theorem kTx_nar : ∀ q ∈ kTx, Cond.exactly (Term.string RX2 q.1) "java/lang/String" ∈ flatC (Jvm.Cond.and given_1 narrow_1) := by decide +kernel
theorem kLs : Cond.laysStatic Bundle.tN "UNASSIGNED_STACK" Bundle.steD ∈ lw_tbl ∧ Cond.laysStatic Bundle.tN "SUPPRESSED_SENTINEL" Bundle.listD ∈ lw_tbl ∧ Cond.initialized Bundle.tN ∈ lw_tbl := by decide +kernel
theorem kNar : Cond.isRef (.static Bundle.tN "UNASSIGNED_STACK" Bundle.steD) ∈ flatC (Jvm.Cond.and given_1 narrow_1) ∧ Cond.isRef (.static Bundle.tN "SUPPRESSED_SENTINEL" Bundle.listD) ∈ flatC (Jvm.Cond.and given_1 narrow_1) ∧ Cond.not (.castable kISE kIAE) ∈ flatC (Jvm.Cond.and given_1 narrow_1) ∧ Cond.not (.castable kIOO kIAE) ∈ flatC (Jvm.Cond.and given_1 narrow_1) := by decide +kernel
theorem law_TE {s : State} {b : Nat} (hts : ∀ w ∈ lw_tbl, w.before #[Value.ref b] s = true) (hgv : (Jvm.Cond.and given_1 narrow_1).before #[Value.ref b] s = true) : kTE (fun q => s.heap.size ≤ q) s s.heap := by
  have hf := flat_of_before _ hgv
  have hA : ∀ a : Nat, a < s.heap.size → ¬ (fun q : Nat => s.heap.size ≤ q) a := fun a h => Nat.not_le.mpr h
  refine ⟨fun w hw => va_Nw.of (kTw_on w hw) (hts w (kTw_tbl w hw)), fun q hq => ?_, vx_Zqof (hts _ kLs.1) (hts _ kLs.2.2) (hf _ kNar.1) hA, vx_Zqof (hts _ kLs.2.1) (hts _ kLs.2.2) (hf _ kNar.2.1) hA, va_Nc.of (hf _ kNar.2.2.1), va_Nc.of (hf _ kNar.2.2.2)⟩
  obtain ⟨a, c, cell, k, h1, -⟩ := Cond.exactly_spec (hf _ (kTx_nar q hq))
  exact ⟨a, vk_R.of (hts _ (kTx_tbl q hq)) h1⟩
set_option maxHeartbeats 4000000 in
set_option maxRecDepth 100000 in
/-- the law, from its entry: two systems made, then the loop -/
theorem whole_start {p : Program} {e : Env} {s : State} {m : MethodId} {below : List Frame} {meth : Method} {c : Code} (l : Launch) (hflags : l.flags = flags0) {b L : Nat} {xs : Nat → Int32} (hL : L ≤ 2560) (C0 : lw_At p s m meth c b L xs) : W p l e room_1 s m #[Value.ref b] below meth c s.heap [] 0 0 (lw_Z below #[Value.ref b] s) (entryFrame m ([Value.ref b] : List Value).toArray 9) := by
  obtain ⟨hx, hb, hr, hml, hown, hts, hX, hbl, hlocks, hgv⟩ := id C0
  have hlt : l.stackTraces = false := by unfold Launch.stackTraces; rw [hflags]; decide +kernel
  have T0 := law_TE hts hgv
  have htk : ∀ w ∈ kAll, w.before #[Value.ref b] s = true := fun w h => hts w (kAll_tbl h)
  obtain ⟨c0, i0, hKn0⟩ := u_known htk iwX0 (htk _ q103)
  obtain ⟨c1, i1, hKn1⟩ := u_known htk iwX1 (htk _ q80)
  obtain ⟨c2, i2, hKn2⟩ := u_known htk iwX2 (htk _ q72)
  obtain ⟨c3, i3, hKn3⟩ := u_known htk iwX3 (htk _ q565)
  obtain ⟨cI, kI, mI, hI1, hI2, hI3⟩ := Cond.arrayClass_spec (htk _ q625)
  obtain ⟨cJ, kJ, mJ, hJ1, hJ2, hJ3⟩ := Cond.arrayClass_spec (htk _ q805)
  obtain ⟨dC, dI, hKc⟩ : ∃ (dC : Nat → ClassId) (dI : Nat → Nat → Nat), ∀ (k : Nat) (q : vw_C), kCl[k]? = some q → u_Kn s q.1 q.2.1 q.2.2 (dC k) (dI k) := by
    refine ⟨fun k => if k = 0 then c0 else if k = 1 then c1 else if k = 2 then c2 else c3, fun k => if k = 0 then i0 else if k = 1 then i1 else if k = 2 then i2 else i3, ?_⟩
    intro k q hq
    match k, hq with
    | 0, hq => cases hq; exact hKn0
    | 1, hq => cases hq; exact hKn1
    | 2, hq => cases hq; exact hKn2
    | 3, hq => cases hq; exact hKn3
    | k + 4, hq => simp [kCl] at hq
  have hK : va_K (dC, dI) kCl (kTy cI cJ) s := by
    refine ⟨hKc, fun k q h => ?_⟩
    match k, h with
    | 0, h => cases h; exact ⟨fun n z => ⟨fun k h => (by cases h), kI, hI2, mI, hI3⟩, hI1⟩
    | 1, h => cases h; exact ⟨fun n z => ⟨fun k h => (by cases h), kJ, hJ2, mJ, hJ3⟩, hJ1⟩
    | k + 2, h => simp [kTy] at h
  have hN : kNW s := fun w hw => va_Nw.of (kNs_on w hw) (hts w (kNs_tbl w hw))
  have C0 : kCx p s m #[Value.ref b] meth c RL cL_law 9 ret (dC, dI) cI cJ (fun q => s.heap.size ≤ q) := ⟨hx, hb, hml, hown, htk, hK, hN, fun q h => h, hr, hlocks⟩
  have hd0 := Drawn.sameBut.refl s.drawn lw_cs
  have C := C0.dr s.drawn
  refine W.base ?_
  have hS : va_S (fun q : Nat => s.heap.size ≤ q) s.heap s.heap [] := va_S.rf
  have hP : va_P (dC, dI) kCl [] s.heap := fun k q h => by simp at h
  have hD : va_D (fun q : Nat => s.heap.size ≤ q) [] := ⟨fun i j p q h => by simp at h, fun k q h => by simp at h⟩
  have hl := lv_entry ([.ref b]) (n := 9) (Nat.le_of_ble_eq_true rfl)
  rw [lg_entry_eq]
  suffices K : kW p l e room_1 (s.setDrawn s.drawn) m #[Value.ref b] below meth c (dC, dI) (fun q => s.heap.size ≤ q) 9 0 0 (lw_Z below #[Value.ref b] s) [] 0 [(0, .ref b)] [] from K s.heap [] _ hP hD hS hl
  clear hl hP hD hS
  refine k_newX2 C q71 q72 q58 [.null, .null, .null, .null, .null, .null, .int 0, .int 0, .int 0, .int 0, .int 0, .int 0, .int 0, .int 0, .int 0] (fun j hj => by rcases (show j = 0 ∨ j = 1 ∨ j = 2 ∨ j = 3 ∨ j = 4 ∨ j = 5 ∨ j = 6 ∨ j = 7 ∨ j = 8 ∨ j = 9 ∨ j = 10 ∨ j = 11 ∨ j = 12 ∨ j = 13 ∨ j = 14 by omega) with rfl | rfl | rfl | rfl | rfl | rfl | rfl | rfl | rfl | rfl | rfl | rfl | rfl | rfl | rfl <;> rfl) (Nat.le_of_ble_eq_true rfl) (Nat.le_of_ble_eq_true rfl) dL_law_0 (fun a0 => ?_)
  refine k_dup C rfl dL_law_3 ?_
  intro H locs ls hP hD hS hl
  have hFc := va_free (wc := [(a0, .inr (2, [.null, .null, .null, .null, .null, .null, .int 0, .int 0, .int 0, .int 0, .int 0, .int 0, .int 0, .int 0, .int 0]))]) hD hS C.2.2.2.2.2.2.2.1 [0] rfl
  refine va_callv (va_runI (As := []) (rest := [.ref a0]) ⟨C.1, C.2.1, C.2.2.1, C.2.2.2.1, C.2.2.2.2.1⟩ (mX2_init l (dC, dI) cI cJ a0 H.size) (cwI 0 C.2.2.2.2.1 (kGN q75) rfl rfl rfl (C.2.2.2.2.1 _ q58) (C.2.2.2.2.1 _ q73) (C.2.2.2.2.1 _ q74) rfl hdX2_init ⟨Nat.le_of_ble_eq_true rfl, Nat.le_of_ble_eq_true rfl⟩) ⟨kPc_blind, fun U hU hW => ⟨rfl, by rw [hU], by rw [hU]; exact hP.sub [0] rfl, va_K.moved hW.alike C.2.2.2.2.2.1, (hD.sub [0] (by decide) rfl).weaken (fun _ _ _ _ => trivial), C.2.2.2.2.2.2.1.warm hW⟩⟩ rfl rfl hl.1 rfl (lv_room (Nat.le_of_ble_eq_true rfl)) dL_law_4 ⟨Nat.le_of_ble_eq_true rfl, Nat.le_of_ble_eq_true rfl⟩) hS (fun q _ h => hFc q h) hFc (fun u t H1 locs1 ht hvm hw hB hz1 hk1 hS1 => ?_)
  obtain ⟨a1, a2, a3, a4, a5, a6, hP1, hD1⟩ := hB
  rw [ht] at hP1
  obtain ⟨hP2, hD2⟩ := va_join (wr := []) (w1 := wC a0 a1 a2 a3 a4 a5 a6 X0co) hP hD [0] [] rfl rfl (by decide) (by decide) hk1 hFc hP1 hD1
  suffices K : kW p l e room_1 (s.setDrawn s.drawn) m #[Value.ref b] below meth c (dC, dI) (fun q => s.heap.size ≤ q) 9 7 67 (lw_Z below #[Value.ref b] s) (wC a0 a1 a2 a3 a4 a5 a6 X0co) 7 [(0, .ref b)] [.ref a0] from K H1 locs1 ls hP2 hD2 hS1 hl
  clear hl hP hD hS hP1 hD1 hP2 hD2 hS1 hFc hk1
  refine k_astore_n C [(1, .ref a0), (0, .ref b)] (by decide) rfl dL_law_7 ?_
  refine k_newX3 C q564 q565 q61 [.int 0, .int 0, .int 0, .int 0, .int 0, .null, .null, .null, .null, .null, .int 0, .int 0, .int 0, .int 0, .int 0, .int 0, .null, .int 0] (fun j hj => by rcases (show j = 0 ∨ j = 1 ∨ j = 2 ∨ j = 3 ∨ j = 4 ∨ j = 5 ∨ j = 6 ∨ j = 7 ∨ j = 8 ∨ j = 9 ∨ j = 10 ∨ j = 11 ∨ j = 12 ∨ j = 13 ∨ j = 14 ∨ j = 15 ∨ j = 16 ∨ j = 17 by omega) with rfl | rfl | rfl | rfl | rfl | rfl | rfl | rfl | rfl | rfl | rfl | rfl | rfl | rfl | rfl | rfl | rfl | rfl <;> rfl) (Nat.le_of_ble_eq_true rfl) (Nat.le_of_ble_eq_true rfl) dL_law_8 (fun b0 => ?_)
  refine k_dup C rfl dL_law_11 ?_
  intro H locs ls hP hD hS hl
  have hFc := va_free (wc := [(b0, .inr (3, [.int 0, .int 0, .int 0, .int 0, .int 0, .null, .null, .null, .null, .null, .int 0, .int 0, .int 0, .int 0, .int 0, .int 0, .null, .int 0]))]) hD hS C.2.2.2.2.2.2.2.1 [7] rfl
  refine va_callv (va_runI (As := []) (rest := [.ref b0]) ⟨C.1, C.2.1, C.2.2.1, C.2.2.2.1, C.2.2.2.2.1⟩ (mX3_init l (dC, dI) cI cJ b0 H.size) (cwI 0 C.2.2.2.2.1 (kGN q568) rfl rfl rfl (C.2.2.2.2.1 _ q61) (C.2.2.2.2.1 _ q566) (C.2.2.2.2.1 _ q567) rfl hdX3_init ⟨Nat.le_of_ble_eq_true rfl, Nat.le_of_ble_eq_true rfl⟩) ⟨kPc_blind, fun U hU hW => ⟨rfl, by rw [hU], by rw [hU]; exact hP.sub [7] rfl, va_K.moved hW.alike C.2.2.2.2.2.1, (hD.sub [7] (by decide) rfl).weaken (fun _ _ _ _ => trivial), C.2.2.2.2.2.2.1.warm hW⟩⟩ rfl rfl hl.1 rfl (lv_room (Nat.le_of_ble_eq_true rfl)) dL_law_12 ⟨Nat.le_of_ble_eq_true rfl, Nat.le_of_ble_eq_true rfl⟩) hS (fun q _ h => hFc q h) hFc (fun u t H1 locs1 ht hvm hw hB hz1 hk1 hS1 => ?_)
  obtain ⟨b1, b2, b3, b4, b5, b6, hP1, hD1⟩ := hB
  rw [ht] at hP1
  obtain ⟨hP2, hD2⟩ := va_join (wr := wC a0 a1 a2 a3 a4 a5 a6 X0co) (w1 := wM cI b0 b1 b2 b3 b4 b5 b6 Y0mo) hP hD [7] [0, 1, 2, 3, 4, 5, 6] rfl rfl (by decide) (by decide) hk1 hFc hP1 hD1
  suffices K : kW p l e room_1 (s.setDrawn s.drawn) m #[Value.ref b] below meth c (dC, dI) (fun q => s.heap.size ≤ q) 9 14 111 (lw_Z below #[Value.ref b] s) (wC a0 a1 a2 a3 a4 a5 a6 X0co ++ wM cI b0 b1 b2 b3 b4 b5 b6 Y0mo) 15 [(1, .ref a0), (0, .ref b)] [.ref b0] from K H1 locs1 ls hP2 hD2 hS1 hl
  clear hl hP hD hS hP1 hD1 hP2 hD2 hS1 hFc hk1
  refine k_astore_n C [(2, .ref b0), (1, .ref a0), (0, .ref b)] (by decide) rfl dL_law_15 ?_
  refine k_iconst C 1 (by decide) dL_law_16 ?_
  have h1 : (fun _ => (0 : Int64) : Nat → Int64) = aJ 0 := by
    funext j
    match j with
    | 0 => rfl
    | _ + 1 => rfl
  refine k_newJ C 1 (aJ 0) (fun cA => by rw [← h1]; rfl) (by decide) (by decide) (by decide) (Nat.le_of_ble_eq_true rfl) (Nat.le_of_ble_eq_true rfl) dL_law_17 (fun o => ?_)
  refine k_astore_n C [(3, .ref o), (2, .ref b0), (1, .ref a0), (0, .ref b)] (by decide) rfl dL_law_19 ?_
  refine k_iconst C 0 (by decide) dL_law_20 ?_
  refine k_istore C [(4, .int 0), (3, .ref o), (2, .ref b0), (1, .ref a0), (0, .ref b)] (by decide) rfl dL_law_21 ?_
  refine k_sub [4, 3, 2, 1, 0] rfl ?_
  exact law_loop l hlt hX hbl C0 T0 hL a0 a1 a2 a3 a4 a5 a6 o b0 b1 b2 b3 b4 b5 b6 513 0 X0co Y0mo 0 s.drawn (Nat.zero_le _) (by omega) hd0 Rel_0
