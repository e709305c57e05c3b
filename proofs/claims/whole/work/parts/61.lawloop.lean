/-! the law: mean, digest, its loop -/
section KLL
variable {p : Program} {l : Launch} {e : Env} {R : Room} {s : State} {m : MethodId} {args : Array Value} {below : List Frame} {meth : Method} {c : Code} {D : va_G} {cI cJ : ClassId} {A : Nat → Prop} {own : String} {cc : ByteArray} {nL k n : Nat} {ret : Option FieldType} {Q : State → Prop} {w : va_W} {pc : Nat} {lv : List (Nat × Value)} {st : List Value}
theorem k_callV_l (C : kCx p s m args meth c own cc nL ret D cI cJ A) {y : MethodName} {bytes : ByteArray} {maxL index b : Nat} {rm : Room} {As rest : List Value} {wc wc' : va_W} {rt : Option FieldType} {v : Int64} (hM : kCl_ l D cI cJ y (.code y bytes maxL rt) rm (.ref b :: As) wc v wc') (cw : CallW R s args own y.cls index y bytes maxL rt (.code y bytes maxL rt :: kAll) rm 0 0 As.length) (isC isR perm : List Nat) (wr w' : va_W) (hnC : va_nd isC = true) (hC : isC.map (fun i => w[i]?) = wc.map some) (hR : isR.map (fun i => w[i]?) = wr.map some) (hnR : va_nd isR = true) (hdis : ∀ i ∈ isR, i ∉ isC) (as : List Nat) (ha1 : wc.map (fun q => q.1) = as) (ha2 : wc'.map (fun q => q.1) = as) (hnP : va_nd perm = true) (hPm : perm.map (fun i => (wr ++ wc')[i]?) = w'.map some) (q0 ci : Nat) {fs : List Value} {q9 : vw_C} (hcl : kCl[ci]? = some q9) (hqn : q9.1 = y.cls) (he : w[q0]? = some (b, .inr (ci, fs))) (hcat : (rest.map fun v => v.category).sum ≤ 8) (hcs : k ≤ R.cells ∧ n ≤ R.slots) (hst : st = As.reverse ++ .ref b :: rest) (d : decode cc pc = .ok (.invokevirtual index, 3)) (kk : kW p l e R s m args below meth c D A nL k n Q w' (pc + 3) lv (.long v :: rest)) : kW p l e R s m args below meth c D A nL k n Q w pc lv st := by
  intro H locs ls hP hD hS hl
  subst hst
  have hFc : ∀ q, va_A wc H.size q → A q := va_free hD hS C.2.2.2.2.2.2.2.1 isC hC
  refine va_calll (va_runV (As := As) (rest := rest) ⟨C.1, C.2.1, C.2.2.1, C.2.2.2.1, C.2.2.2.2.1⟩ (hM H.size) cw ⟨kPc_blind, hqn ▸ va_recv C.2.2.2.2.2.1 hP hcl he, fun U hU hW => ⟨rfl, by rw [hU], by rw [hU]; exact hP.sub isC (filter_of hC), va_K.moved hW.alike C.2.2.2.2.2.1, (hD.sub isC hnC hC).weaken (fun _ _ _ _ => trivial), C.2.2.2.2.2.2.1.warm hW⟩⟩ rfl rfl hl.1 rfl (lv_room hcat) d hcs) hS (fun q _ h => hFc q h) hFc (fun r u t H1 locs1 ht hvm hw hB hz1 hk1 hS1 => ?_)
  · rw [ht] at hB
    subst hw
    have hDc : va_D (va_A wc H.size) wc' := kD_addr (ha1.trans ha2.symm) ((hD.sub isC hnC hC).self)
    obtain ⟨hP2, hD2⟩ := va_join hP hD isC isR hC hR hnR hdis hk1 hFc hB hDc
    exact kk H1 locs1 ls (hP2.sub perm (filter_of hPm)) (hD2.sub perm hnP hPm) hS1 hl
end KLL
theorem pr_mean {i : Nat} {X : Co} {Y : Mo} (h : Rel i X Y) : Y.2.2.2.2.2.2.2.2.2.2.2.1 = X.2.2.2.2.2.2.2.2.2.2.2.1 ∧ Y.2.2.2.2.2.2.2.2.2.2.2.2.2.2.2.2.1 = X.2.2.2.2.2.2.2.2.2.2.2.2.1 ∧ Rel (i + 1) X (fX3_mean Y) := by
  refine ⟨?_, ?_, (h.touch _ 0 _).mono⟩ <;> (obtain ⟨p1, g1, r1, k1, p2, g2, r2, k2, bs, be, ba, bt, sv, ra, sk, go, mw, wr, ws, le, wg, st, bl, th, tu, sk', is, mo, h1, h2, h3, h4, h5⟩ := h; subst h1; subst h2; rfl)
set_option maxHeartbeats 4000000 in
set_option maxRecDepth 100000 in
theorem lw_mean {p : Program} {e : Env} {s : State} {m : MethodId} {below : List Frame} {meth : Method} {c : Code} {D : va_G} {cI cJ : ClassId} (l : Launch) (hl : l.stackTraces = false) {b L : Nat} {xs : Nat → Int32} (hX : va_X b L xs s s.heap) (hbl : b < s.heap.size) (C0 : kCx p s m #[Value.ref b] meth c RL cL_law 9 ret D cI cJ (fun q => s.heap.size ≤ q)) (T0 : kTE (fun q => s.heap.size ≤ q) s s.heap) (a0 a1 a2 a3 a4 a5 a6 o : Nat) (b0 b1 b2 b3 b4 b5 b6 : Nat) {i0 : Nat} (hi : i0 < 512) {x4 : Int32} (X : Co) (Y : Mo) (u : Int64) (d0 : Drawn) (hd0 : s.drawn.sameBut d0 lw_cs) (hR : Rel i0 X Y) (kk : (∀ (X : Co) (Y : Mo) (u : Int64) (d0 : Drawn), s.drawn.sameBut d0 lw_cs → Rel (i0 + 1) X Y → kW p l e room_1 (s.setDrawn d0) m #[Value.ref b] below meth c D (fun q => s.heap.size ≤ q) 9 (15 + (i0 + 1)) (112 + 6 * (i0 + 1)) (lw_Z below #[Value.ref b] s) (wC a0 a1 a2 a3 a4 a5 a6 X ++ (wM cI b0 b1 b2 b3 b4 b5 b6 Y ++ [(o, cJ1 cJ u)])) 991 [(0, .ref b), (1, .ref a0), (2, .ref b0), (3, .ref o), (4, .int x4)] [])) : kW p l e room_1 (s.setDrawn d0) m #[Value.ref b] below meth c D (fun q => s.heap.size ≤ q) 9 (15 + i0) (112 + 6 * i0) (lw_Z below #[Value.ref b] s) (wC a0 a1 a2 a3 a4 a5 a6 X ++ (wM cI b0 b1 b2 b3 b4 b5 b6 Y ++ [(o, cJ1 cJ u)])) 936 [(0, .ref b), (1, .ref a0), (2, .ref b0), (3, .ref o), (4, .int x4)] [] := by
  have C := C0.dr d0
  obtain ⟨e1, e2, hR1⟩ := pr_mean hR
  refine k_aload_n C dL_law_936 1 rfl ?_
  refine k_callVD hd0 C0 (mX2_mean l D cI cJ a0 a1 a2 a3 a4 a5 a6 X) (cwV 0 C.2.2.2.2.1 (kGV q191 q192 q193 q58 q194) rfl rfl rfl ⟨rfl, hdX2_mean⟩ ⟨Nat.le_of_ble_eq_true rfl, Nat.le_of_ble_eq_true rfl⟩) [0, 1, 2, 3, 4, 5, 6] [7, 8, 9, 10, 11, 12, 13, 14] [8, 9, 10, 11, 12, 13, 14, 0, 1, 2, 3, 4, 5, 6, 7] (wM cI b0 b1 b2 b3 b4 b5 b6 Y ++ [(o, cJ1 cJ u)]) (wC a0 a1 a2 a3 a4 a5 a6 X ++ (wM cI b0 b1 b2 b3 b4 b5 b6 Y ++ [(o, cJ1 cJ u)])) rfl rfl rfl rfl (by decide) [a0, a1, a2, a3, a4, a5, a6] rfl rfl rfl rfl 0 2 rfl rfl rfl (Nat.le_of_ble_eq_true rfl) ⟨by show 15 + i0 ≤ 1056; omega, by show 112 + 6 * i0 ≤ 8406; omega⟩ rfl dL_law_937 (fun r d1 h1 hd1 => ?_)
  have C1 := C0.dr d1
  refine k_dstore C1 [(5, .double r), (0, .ref b), (1, .ref a0), (2, .ref b0), (3, .ref o), (4, .int x4)] (by decide) rfl dL_law_940 ?_
  refine k_aload_n C1 dL_law_942 3 rfl ?_
  refine k_callVD hd1 C0 (mX3_mean l D cI cJ b0 b1 b2 b3 b4 b5 b6 Y) (cwV 0 C1.2.2.2.2.1 (kGV q795 q796 q797 q61 q798) rfl rfl rfl ⟨rfl, hdX3_mean⟩ ⟨Nat.le_of_ble_eq_true rfl, Nat.le_of_ble_eq_true rfl⟩) [7, 8, 9, 10, 11, 12, 13] [0, 1, 2, 3, 4, 5, 6, 14] [0, 1, 2, 3, 4, 5, 6, 8, 9, 10, 11, 12, 13, 14, 7] (wC a0 a1 a2 a3 a4 a5 a6 X ++ [(o, cJ1 cJ u)]) (wC a0 a1 a2 a3 a4 a5 a6 X ++ (wM cI b0 b1 b2 b3 b4 b5 b6 (fX3_mean Y) ++ [(o, cJ1 cJ u)])) rfl rfl rfl rfl (by decide) [b0, b1, b2, b3, b4, b5, b6] rfl rfl rfl rfl 7 3 rfl rfl rfl (Nat.le_of_ble_eq_true rfl) ⟨by show 15 + i0 ≤ 1056; omega, by show 112 + 6 * i0 ≤ 8406; omega⟩ rfl dL_law_943 (fun q d2 h2 hd2 => ?_)
  have C2 := C0.dr d2
  rw [e1, e2] at h2
  refine k_dstore C2 [(7, .double q), (5, .double r), (0, .ref b), (1, .ref a0), (2, .ref b0), (3, .ref o), (4, .int x4)] (by decide) rfl dL_law_946 ?_
  refine k_dload C2 dL_law_948 1 rfl ?_
  refine k_dload C2 dL_law_950 0 rfl ?_
  refine k_dcmp C2 dL_law_952 ?_
  rcases mean_law h1 h2 with h3 | ⟨h3, h4⟩
  · refine k_if_eq C2 974 (by decide) dL_law_953 (fun _ => ?_) (fun h => absurd h3 h)
    refine k_goto C2 991 (by decide) dL_law_974 ?_
    refine k_sub [2, 3, 4, 5, 6] rfl ?_
    exact k_widen (by omega) (by omega) (kk _ _ _ d2 hd2 hR1)
  · refine k_if_eq C2 974 (by decide) dL_law_953 (fun _ => ?_) (fun _ => ?_)
    ·
      refine k_goto C2 991 (by decide) dL_law_974 ?_
      refine k_sub [2, 3, 4, 5, 6] rfl ?_
      exact k_widen (by omega) (by omega) (kk _ _ _ d2 hd2 hR1)
    · refine k_dload C2 dL_law_956 1 rfl ?_
      refine k_dload C2 dL_law_958 1 rfl ?_
      refine k_dcmp C2 dL_law_960 ?_
      refine k_if_eq C2 972 (by decide) dL_law_961 (fun h => absurd h h3) (fun _ => ?_)
      refine k_dload C2 dL_law_964 0 rfl ?_
      refine k_dload C2 dL_law_966 0 rfl ?_
      refine k_dcmp C2 dL_law_968 ?_
      refine k_if_ne C2 974 (by decide) dL_law_969 (fun _ => ?_) (fun h => absurd h h4)
      refine k_goto C2 991 (by decide) dL_law_974 ?_
      refine k_sub [2, 3, 4, 5, 6] rfl ?_
      exact k_widen (by omega) (by omega) (kk _ _ _ d2 hd2 hR1)
set_option maxHeartbeats 4000000 in
set_option maxRecDepth 100000 in
theorem lw_digest {p : Program} {e : Env} {s : State} {m : MethodId} {below : List Frame} {meth : Method} {c : Code} {D : va_G} {cI cJ : ClassId} (l : Launch) (hl : l.stackTraces = false) {b L : Nat} {xs : Nat → Int32} (hX : va_X b L xs s s.heap) (hbl : b < s.heap.size) (C0 : kCx p s m #[Value.ref b] meth c RL cL_law 9 ret D cI cJ (fun q => s.heap.size ≤ q)) (T0 : kTE (fun q => s.heap.size ≤ q) s s.heap) (a0 a1 a2 a3 a4 a5 a6 o : Nat) (b0 b1 b2 b3 b4 b5 b6 : Nat) {i0 : Nat} (hi : i0 < 512) {x4 : Int32} (X : Co) (Y : Mo) (u : Int64) (d0 : Drawn) (hd0 : s.drawn.sameBut d0 lw_cs) (hR : Rel i0 X Y) (kk : (∀ (X : Co) (Y : Mo) (u : Int64) (d0 : Drawn), s.drawn.sameBut d0 lw_cs → Rel (i0 + 1) X Y → kW p l e room_1 (s.setDrawn d0) m #[Value.ref b] below meth c D (fun q => s.heap.size ≤ q) 9 (15 + (i0 + 1)) (112 + 6 * (i0 + 1)) (lw_Z below #[Value.ref b] s) (wC a0 a1 a2 a3 a4 a5 a6 X ++ (wM cI b0 b1 b2 b3 b4 b5 b6 Y ++ [(o, cJ1 cJ u)])) 991 [(0, .ref b), (1, .ref a0), (2, .ref b0), (3, .ref o), (4, .int x4)] [])) : kW p l e room_1 (s.setDrawn d0) m #[Value.ref b] below meth c D (fun q => s.heap.size ≤ q) 9 (15 + i0) (112 + 6 * i0) (lw_Z below #[Value.ref b] s) (wC a0 a1 a2 a3 a4 a5 a6 X ++ (wM cI b0 b1 b2 b3 b4 b5 b6 Y ++ [(o, cJ1 cJ u)])) 977 [(0, .ref b), (1, .ref a0), (2, .ref b0), (3, .ref o), (4, .int x4)] [] := by
  have C := C0.dr d0
  obtain ⟨hN, hval, hR1⟩ := pr_digest hi hR
  refine k_aload_n C dL_law_977 1 rfl ?_
  refine k_callV_l C (mX2_digest l D cI cJ a0 a1 a2 a3 a4 a5 a6 X) (cwV 0 C.2.2.2.2.1 (kGV q195 q196 q197 q58 q198) rfl rfl rfl ⟨rfl, hdX2_digest⟩ ⟨Nat.le_of_ble_eq_true rfl, Nat.le_of_ble_eq_true rfl⟩) [0, 1, 2, 3, 4, 5, 6] [7, 8, 9, 10, 11, 12, 13, 14] [8, 9, 10, 11, 12, 13, 14, 0, 1, 2, 3, 4, 5, 6, 7] (wM cI b0 b1 b2 b3 b4 b5 b6 Y ++ [(o, cJ1 cJ u)]) (wC a0 a1 a2 a3 a4 a5 a6 X ++ (wM cI b0 b1 b2 b3 b4 b5 b6 Y ++ [(o, cJ1 cJ u)])) rfl rfl rfl rfl (by decide) [a0, a1, a2, a3, a4, a5, a6] rfl rfl rfl rfl 0 2 rfl rfl rfl (Nat.le_of_ble_eq_true rfl) ⟨by show 15 + i0 ≤ 1056; omega, by show 112 + 6 * i0 ≤ 8406; omega⟩ rfl dL_law_978 ?_
  rw [hval]
  refine k_aload_n C dL_law_981 2 rfl ?_
  refine k_callV_l C (mX3_digest l D cI cJ b0 b1 b2 b3 b4 b5 b6 Y hN) (cwV 0 C.2.2.2.2.1 (kGV q799 q800 q801 q61 q802) rfl rfl rfl ⟨rfl, hdX3_digest⟩ ⟨Nat.le_of_ble_eq_true rfl, Nat.le_of_ble_eq_true rfl⟩) [7, 8, 9, 10, 11, 12, 13] [0, 1, 2, 3, 4, 5, 6, 14] [0, 1, 2, 3, 4, 5, 6, 8, 9, 10, 11, 12, 13, 14, 7] (wC a0 a1 a2 a3 a4 a5 a6 X ++ [(o, cJ1 cJ u)]) (wC a0 a1 a2 a3 a4 a5 a6 X ++ (wM cI b0 b1 b2 b3 b4 b5 b6 (fX3_digest Y).2 ++ [(o, cJ1 cJ u)])) rfl rfl rfl rfl (by decide) [b0, b1, b2, b3, b4, b5, b6] rfl rfl rfl rfl 7 3 rfl rfl rfl (Nat.le_of_ble_eq_true rfl) ⟨by show 15 + i0 ≤ 1056; omega, by show 112 + 6 * i0 ≤ 8406; omega⟩ rfl dL_law_982 ?_
  generalize fX3_digest Y = T9 at hR1 ⊢
  refine k_lcmp C dL_law_985 ?_
  refine k_if_eq C 991 (by decide) dL_law_986 (fun _ => ?_) (fun h => absurd (lg_cmp_self _) h)
  exact k_widen (by omega) (by omega) (kk _ _ _ d0 hd0 hR1)
set_option maxHeartbeats 4000000 in
set_option maxRecDepth 100000 in
theorem law_loop {p : Program} {e : Env} {s : State} {m : MethodId} {below : List Frame} {meth : Method} {c : Code} {D : va_G} {cI cJ : ClassId} (l : Launch) (hl : l.stackTraces = false) {b L : Nat} {xs : Nat → Int32} (hX : va_X b L xs s s.heap) (hbl : b < s.heap.size) (C0 : kCx p s m #[Value.ref b] meth c RL cL_law 9 ret D cI cJ (fun q => s.heap.size ≤ q)) (T0 : kTE (fun q => s.heap.size ≤ q) s s.heap) (hL : L ≤ 2560) (a0 a1 a2 a3 a4 a5 a6 o : Nat) (b0 b1 b2 b3 b4 b5 b6 : Nat) : ∀ (n i0 : Nat) (X : Co) (Y : Mo) (u : Int64) (d0 : Drawn), i0 ≤ 512 → 512 < i0 + n → s.drawn.sameBut d0 lw_cs → Rel i0 X Y → kW p l e room_1 (s.setDrawn d0) m #[Value.ref b] below meth c D (fun q => s.heap.size ≤ q) 9 (15 + i0) (112 + 6 * i0) (lw_Z below #[Value.ref b] s) (wC a0 a1 a2 a3 a4 a5 a6 X ++ (wM cI b0 b1 b2 b3 b4 b5 b6 Y ++ [(o, cJ1 cJ u)])) 23 [(0, .ref b), (1, .ref a0), (2, .ref b0), (3, .ref o), (4, .int (nI (5 * i0)))] [] := by
  have hbA : ¬ (fun q : Nat => s.heap.size ≤ q) b := Nat.not_le.mpr hbl
  intro n
  induction n with
  | zero => intro i0 X Y u d0 h1 h2; exact absurd h2 (by omega)
  | succ n ih =>
    intro i0 X Y u d0 h1 h2 hd0 hR
    have C := C0.dr d0
    refine k_iload C dL_law_23 4 rfl ?_
    refine k_aload_n C dL_law_25 0 rfl ?_
    refine k_slen C0 hX hbl hbA dL_law_26 ?_
    refine k_iconst C 5 (by decide) dL_law_27 ?_
    refine k_isub C dL_law_28 ?_
    have e5 : ((5 : Int32)).toInt = 5 := by decide
    have eL : (nI L).toInt = (L : Int) := nI_toInt (by omega)
    have eI : (nI (5 * i0)).toInt = ((5 * i0 : Nat) : Int) := nI_toInt (by omega)
    have es : (nI L - 5).toInt = (L : Int) - 5 := by rw [Jvm.Kit.i32_sub (by rw [eL, e5]; omega) (by rw [eL, e5]; omega), eL, e5]
    refine k_icmp_gt C 997 (by decide) dL_law_29 (fun c1 => ?_) (fun c1 => ?_)
    · refine k_iconst C 1 (by decide) dL_law_997 ?_
      intro H locs ls hP hD hS hl0
      refine va_forget (s := s.setDrawn d0) (fun q hq => hS.2.2 q hq) ?_
      refine W.widen (k := 1056) (n := 8406) (by omega) (by omega) ?_
      exact lw_ret hd0 C0.1 C0.2.1 C0.2.2.2.2.2.2.2.2.1 C0.2.2.2.2.2.2.2.2.2 dL_law_998
    · have hj : 5 * i0 + 5 ≤ L := by
        rw [kltI, es, eI] at c1
        omega
      have hi : i0 < 512 := by omega
      have hin0 : vp_in (nI (5 * i0)) L := vp_in_nI (by omega) (by omega)
      have hin1 : vp_in (nI (5 * i0) + 1) L := by rw [nI_1]; exact vp_in_nI (by omega) (by omega)
      have hin2 : vp_in (nI (5 * i0) + 2) L := by rw [show (2 : Int32) = nI 2 from by decide, nI_add]; exact vp_in_nI (by omega) (by omega)
      have hin3 : vp_in (nI (5 * i0) + 3) L := by rw [show (3 : Int32) = nI 3 from by decide, nI_add]; exact vp_in_nI (by omega) (by omega)
      have hin4 : vp_in (nI (5 * i0) + 4) L := by rw [show (4 : Int32) = nI 4 from by decide, nI_add]; exact vp_in_nI (by omega) (by omega)
      have next : (∀ (X : Co) (Y : Mo) (u : Int64) (d0 : Drawn), s.drawn.sameBut d0 lw_cs → Rel (i0 + 1) X Y → kW p l e room_1 (s.setDrawn d0) m #[Value.ref b] below meth c D (fun q => s.heap.size ≤ q) 9 (15 + (i0 + 1)) (112 + 6 * (i0 + 1)) (lw_Z below #[Value.ref b] s) (wC a0 a1 a2 a3 a4 a5 a6 X ++ (wM cI b0 b1 b2 b3 b4 b5 b6 Y ++ [(o, cJ1 cJ u)])) 991 [(0, .ref b), (1, .ref a0), (2, .ref b0), (3, .ref o), (4, .int (nI (5 * i0)))] []) := by
        intro X Y u d1 hd1 hR1
        have C1 := C0.dr d1
        refine k_iinc C1 (nI (5 * (i0 + 1))) [(4, .int (nI (5 * (i0 + 1)))), (0, .ref b), (1, .ref a0), (2, .ref b0), (3, .ref o)] 4 rfl (by rw [show Int32.ofInt 5 = nI 5 from by decide, nI_add]; rfl) (by decide) rfl dL_law_991 ?_
        refine k_goto C1 23 (by decide) dL_law_994 ?_
        refine k_sub [1, 2, 3, 4, 0] rfl ?_
        exact ih (i0 + 1) X Y u d1 (by omega) (by omega) hd1 hR1
      refine k_aload_n C dL_law_32 0 rfl ?_
      refine k_iload C dL_law_33 4 rfl ?_
      refine k_sld C0 hX hbl hbA hin0 _ rfl dL_law_35 ?_
      refine k_bipush C 15 (by decide) dL_law_36 ?_
      obtain ⟨j, hj2, ej⟩ := pk_andE (xs (nI (5 * i0)).toNatClampNeg) (m := 15) 4 (by decide)
      refine k_iandL C (nI j) ej dL_law_38 ?_
      have hjj : j = 0 ∨ j = 1 ∨ j = 2 ∨ j = 3 ∨ j = 4 ∨ j = 5 ∨ j = 6 ∨ j = 7 ∨ j = 8 ∨ j = 9 ∨ j = 10 ∨ j = 11 ∨ j = 12 ∨ j = 13 ∨ j = 14 ∨ j = 15 := by omega
      rcases hjj with rfl | rfl | rfl | rfl | rfl | rfl | rfl | rfl | rfl | rfl | rfl | rfl | rfl | rfl | rfl | rfl
      · refine k_tabIn (off := 73) C 112 (by decide) (by decide) (by decide +kernel) (by decide) dL_law_39 ?_
        exact lw_serve l hl hX hbl C0 T0 a0 a1 a2 a3 a4 a5 a6 o b0 b1 b2 b3 b4 b5 b6 hi rfl hin1 rfl hin2 rfl hin3 X Y u d0 hd0 hR next
      · refine k_tabIn (off := 153) C 192 (by decide) (by decide) (by decide +kernel) (by decide) dL_law_39 ?_
        exact lw_strike l hl hX hbl C0 T0 a0 a1 a2 a3 a4 a5 a6 o b0 b1 b2 b3 b4 b5 b6 hi rfl hin1 rfl hin2 rfl hin3 rfl hin4 X Y u d0 hd0 hR next
      · refine k_tabIn (off := 245) C 284 (by decide) (by decide) (by decide +kernel) (by decide) dL_law_39 ?_
        exact lw_leave l hl hX hbl C0 T0 a0 a1 a2 a3 a4 a5 a6 o b0 b1 b2 b3 b4 b5 b6 hi  X Y u d0 hd0 hR next
      · refine k_tabIn (off := 289) C 328 (by decide) (by decide) (by decide +kernel) (by decide) dL_law_39 ?_
        exact lw_let l hl hX hbl C0 T0 a0 a1 a2 a3 a4 a5 a6 o b0 b1 b2 b3 b4 b5 b6 hi  X Y u d0 hd0 hR next
      · refine k_tabIn (off := 333) C 372 (by decide) (by decide) (by decide +kernel) (by decide) dL_law_39 ?_
        exact lw_set l hl hX hbl C0 T0 a0 a1 a2 a3 a4 a5 a6 o b0 b1 b2 b3 b4 b5 b6 hi rfl hin1 X Y u d0 hd0 hR next
      · refine k_tabIn (off := 389) C 428 (by decide) (by decide) (by decide +kernel) (by decide) dL_law_39 ?_
        exact lw_match l hl hX hbl C0 T0 a0 a1 a2 a3 a4 a5 a6 o b0 b1 b2 b3 b4 b5 b6 hi rfl hin1 X Y u d0 hd0 hR next
      · refine k_tabIn (off := 445) C 484 (by decide) (by decide) (by decide +kernel) (by decide) dL_law_39 ?_
        exact lw_ball l hl hX hbl C0 T0 a0 a1 a2 a3 a4 a5 a6 o b0 b1 b2 b3 b4 b5 b6 hi rfl hin1 X Y u d0 hd0 hR next
      · refine k_tabIn (off := 501) C 540 (by decide) (by decide) (by decide +kernel) (by decide) dL_law_39 ?_
        exact lw_told l hl hX hbl C0 T0 a0 a1 a2 a3 a4 a5 a6 o b0 b1 b2 b3 b4 b5 b6 hi rfl hin1 rfl hin2 X Y u d0 hd0 hR next
      · refine k_tabIn (off := 569) C 608 (by decide) (by decide) (by decide +kernel) (by decide) dL_law_39 ?_
        exact lw_count l hl hX hbl C0 T0 a0 a1 a2 a3 a4 a5 a6 o b0 b1 b2 b3 b4 b5 b6 hi rfl hin1 X Y u d0 hd0 hR next
      · refine k_tabIn (off := 625) C 664 (by decide) (by decide) (by decide +kernel) (by decide) dL_law_39 ?_
        exact lw_flight l hl hX hbl C0 T0 a0 a1 a2 a3 a4 a5 a6 o b0 b1 b2 b3 b4 b5 b6 hi rfl hin1 rfl hin2 X Y u d0 hd0 hR next
      · refine k_tabIn (off := 693) C 732 (by decide) (by decide) (by decide +kernel) (by decide) dL_law_39 ?_
        exact lw_end l hl hX hbl C0 T0 a0 a1 a2 a3 a4 a5 a6 o b0 b1 b2 b3 b4 b5 b6 hi rfl hin1 X Y u d0 hd0 hR next
      · refine k_tabIn (off := 749) C 788 (by decide) (by decide) (by decide +kernel) (by decide) dL_law_39 ?_
        exact lw_would l hl hX hbl C0 T0 a0 a1 a2 a3 a4 a5 a6 o b0 b1 b2 b3 b4 b5 b6 hi rfl hin1 rfl hin2 rfl hin3 rfl hin4 X Y u d0 hd0 hR next
      · refine k_tabIn (off := 841) C 880 (by decide) (by decide) (by decide +kernel) (by decide) dL_law_39 ?_
        exact lw_advise l hl hX hbl C0 T0 a0 a1 a2 a3 a4 a5 a6 o b0 b1 b2 b3 b4 b5 b6 hi rfl hin1 X Y u d0 hd0 hR next
      · refine k_tabIn (off := 897) C 936 (by decide) (by decide) (by decide +kernel) (by decide) dL_law_39 ?_
        exact lw_mean l hl hX hbl C0 T0 a0 a1 a2 a3 a4 a5 a6 o b0 b1 b2 b3 b4 b5 b6 hi  X Y u d0 hd0 hR next
      · refine k_tabIn (off := 938) C 977 (by decide) (by decide) (by decide +kernel) (by decide) dL_law_39 ?_
        exact lw_digest l hl hX hbl C0 T0 a0 a1 a2 a3 a4 a5 a6 o b0 b1 b2 b3 b4 b5 b6 hi  X Y u d0 hd0 hR next
      · refine k_tabOut C 991 (by decide) (by decide) dL_law_39 ?_
        exact k_widen (by omega) (by omega) (next X Y u d0 hd0 hR.mono)