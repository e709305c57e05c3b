/-! the law: one walk for each kind of call -/
section KLW
variable {p : Program} {l : Launch} {e : Env} {R : Room} {s : State} {m : MethodId} {args : Array Value} {below : List Frame} {meth : Method} {c : Code} {D : va_G} {cI cJ : ClassId} {A : Nat → Prop} {own : String} {cc : ByteArray} {nL k n : Nat} {ret : Option FieldType} {Q : State → Prop} {w : va_W} {pc : Nat} {lv : List (Nat × Value)} {st : List Value} {d0 : Drawn}
theorem kTE.dr {H : Heap} (h : kTE A s H) (d : Drawn) : kTE A (s.setDrawn d) H := kTE.same (u := s) (U := s.setDrawn d) rfl h
theorem k_sld (C : kCx p s m args meth c own cc nL ret D cI cJ A) {b L : Nat} {xs : Nat → Int32} (hX : va_X b L xs s s.heap) (hbl : b < s.heap.size) (hbA : ¬ A b) {i : Int32} (hin : vp_in i L) (v : Int32) (hv : v = xs i.toNatClampNeg) (d : decode cc pc = .ok (.iaload, 1)) (kk : kW p l e R (s.setDrawn d0) m args below meth c D A nL k n Q w (pc + 1) lv (.int v :: st)) : kW p l e R (s.setDrawn d0) m args below meth c D A nL k n Q w pc lv (.int i :: .ref b :: st) := by
  intro H locs ls hP hD hS hl
  refine va_sld (s := s.setDrawn d0) C.1 C.2.1 hX hbl hbA hS hin d ?_
  rw [← hv]
  exact kk H locs ls hP hD hS hl
theorem k_slen (C : kCx p s m args meth c own cc nL ret D cI cJ A) {b L : Nat} {xs : Nat → Int32} (hX : va_X b L xs s s.heap) (hbl : b < s.heap.size) (hbA : ¬ A b) (d : decode cc pc = .ok (.arraylength, 1)) (kk : kW p l e R (s.setDrawn d0) m args below meth c D A nL k n Q w (pc + 1) lv (.int (nI L) :: st)) : kW p l e R (s.setDrawn d0) m args below meth c D A nL k n Q w pc lv (.ref b :: st) :=
  fun H locs ls hP hD hS hl => va_slen (s := s.setDrawn d0) C.1 C.2.1 hX hbl hbA hS d (kk H locs ls hP hD hS hl)
theorem k_iandL (C : kCx p s m args meth c own cc nL ret D cI cJ A) {x y : Int32} (v : Int32) (hv : x &&& y = v) (d : decode cc pc = .ok (.iand, 1)) (kk : kW p l e R s m args below meth c D A nL k n Q w (pc + 1) lv (.int v :: st)) : kW p l e R s m args below meth c D A nL k n Q w pc lv (.int y :: .int x :: st) :=
  fun H locs ls hP hD hS hl => lv_iand C.1 C.2.1 d (by rw [hv]; exact kk H locs ls hP hD hS hl)
end KLW
theorem kK_ne {S kA kS kO : Int32} (h : ¬ S = 0) (hA : ¬ kA = 0) (hS : ¬ kS = 0) (hO : ¬ kO = 0) : ¬ kK S kA kS kO = 0 := by
  unfold kK
  rw [if_neg h]
  split
  · exact hA
  · split
    · exact hS
    · exact hO
theorem lg_cmp_self (x : Int64) : lg_cmp x x = 0 := by
  unfold lg_cmp
  rw [if_neg (by simp), if_pos rfl]
set_option maxHeartbeats 4000000 in
set_option maxRecDepth 100000 in
theorem lw_serve {p : Program} {e : Env} {s : State} {m : MethodId} {below : List Frame} {meth : Method} {c : Code} {D : va_G} {cI cJ : ClassId} (l : Launch) (hl : l.stackTraces = false) {b L : Nat} {xs : Nat → Int32} (hX : va_X b L xs s s.heap) (hbl : b < s.heap.size) (C0 : kCx p s m #[Value.ref b] meth c RL cL_law 9 ret D cI cJ (fun q => s.heap.size ≤ q)) (T0 : kTE (fun q => s.heap.size ≤ q) s s.heap) (a0 a1 a2 a3 a4 a5 a6 o : Nat) (b0 b1 b2 b3 b4 b5 b6 : Nat) {i0 : Nat} (hi : i0 < 512) {x4 : Int32} {p1 : Int32} (hv1 : p1 = xs (x4 + 1).toNatClampNeg) (hin1 : vp_in (x4 + 1) L) {p2 : Int32} (hv2 : p2 = xs (x4 + 2).toNatClampNeg) (hin2 : vp_in (x4 + 2) L) {p3 : Int32} (hv3 : p3 = xs (x4 + 3).toNatClampNeg) (hin3 : vp_in (x4 + 3) L) (X : Co) (Y : Mo) (u : Int64) (d0 : Drawn) (hd0 : s.drawn.sameBut d0 lw_cs) (hR : Rel i0 X Y) (kk : (∀ (X : Co) (Y : Mo) (u : Int64) (d0 : Drawn), s.drawn.sameBut d0 lw_cs → Rel (i0 + 1) X Y → kW p l e room_1 (s.setDrawn d0) m #[Value.ref b] below meth c D (fun q => s.heap.size ≤ q) 9 (15 + (i0 + 1)) (112 + 6 * (i0 + 1)) (lw_Z below #[Value.ref b] s) (wC a0 a1 a2 a3 a4 a5 a6 X ++ (wM cI b0 b1 b2 b3 b4 b5 b6 Y ++ [(o, cJ1 cJ u)])) 991 [(0, .ref b), (1, .ref a0), (2, .ref b0), (3, .ref o), (4, .int x4)] [])) : kW p l e room_1 (s.setDrawn d0) m #[Value.ref b] below meth c D (fun q => s.heap.size ≤ q) 9 (15 + i0) (112 + 6 * i0) (lw_Z below #[Value.ref b] s) (wC a0 a1 a2 a3 a4 a5 a6 X ++ (wM cI b0 b1 b2 b3 b4 b5 b6 Y ++ [(o, cJ1 cJ u)])) 112 [(0, .ref b), (1, .ref a0), (2, .ref b0), (3, .ref o), (4, .int x4)] [] := by
  have C := C0.dr d0
  have T := T0.dr d0
  have hbA : ¬ (fun q : Nat => s.heap.size ≤ q) b := Nat.not_le.mpr hbl
  obtain ⟨hN, hk, hval, hR1⟩ := pr_serve (p0 := p1) (p1 := p2) (p2 := p3) hi hR
  generalize eS : (xX2_serve p1 p2 p3 X) = S at hk hval hR1
  refine k_aload_n C dL_law_112 1 rfl ?_
  refine k_aload_n C dL_law_113 0 rfl ?_
  refine k_iload C dL_law_114 4 rfl ?_
  refine k_iconst C 1 (by decide) dL_law_116 ?_
  refine k_iadd C dL_law_117 ?_
  refine k_sld C0 hX hbl hbA hin1 p1 hv1 dL_law_118 ?_
  refine k_aload_n C dL_law_119 0 rfl ?_
  refine k_iload C dL_law_120 4 rfl ?_
  refine k_iconst C 2 (by decide) dL_law_122 ?_
  refine k_iadd C dL_law_123 ?_
  refine k_sld C0 hX hbl hbA hin2 p2 hv2 dL_law_124 ?_
  refine k_aload_n C dL_law_125 0 rfl ?_
  refine k_iload C dL_law_126 4 rfl ?_
  refine k_iconst C 3 (by decide) dL_law_128 ?_
  refine k_iadd C dL_law_129 ?_
  refine k_sld C0 hX hbl hbA hin3 p3 hv3 dL_law_130 ?_
  refine k_aload_n C dL_law_131 3 rfl ?_
  refine k_callH C T (mL_serve l hl D cI cJ a0 a1 a2 a3 a4 a5 a6 o p1 p2 p3 u X) (vx_cwSW 5 C.2.2.2.2.1 (kGS q318 q319 q57 q320) rfl rfl rfl hdL_serve ⟨Nat.le_of_ble_eq_true rfl, Nat.le_of_ble_eq_true rfl⟩) [0, 1, 2, 3, 4, 5, 6, 14] [7, 8, 9, 10, 11, 12, 13] [7, 8, 9, 10, 11, 12, 13, 0, 1, 2, 3, 4, 5, 6, 14] (wM cI b0 b1 b2 b3 b4 b5 b6 Y) (wC a0 a1 a2 a3 a4 a5 a6 (if (xX2_serve p1 p2 p3 X).1 = 0 then (xX2_serve p1 p2 p3 X).2.2 else X) ++ (wM cI b0 b1 b2 b3 b4 b5 b6 Y ++ [(o, cJ1 cJ (if (xX2_serve p1 p2 p3 X).1 = 0 then (xX2_serve p1 p2 p3 X).2.1.toInt64 else u))])) rfl rfl rfl rfl (by decide) [a0, a1, a2, a3, a4, a5, a6, o] rfl rfl rfl rfl (Nat.le_of_ble_eq_true rfl) ⟨by show 15 + i0 + 1 ≤ 1056; omega, by show 112 + 6 * i0 + 6 ≤ 8406; omega⟩ rfl dL_law_132 ?_
  rw [eS]
  refine k_istore C [(5, .int (kK S.1 1 2 9)), (0, .ref b), (1, .ref a0), (2, .ref b0), (3, .ref o), (4, .int x4)] (by decide) rfl dL_law_135 ?_
  refine k_aload_n C dL_law_137 3 rfl ?_
  refine k_aload_n C dL_law_138 1 rfl ?_
  refine k_iload C dL_law_139 5 rfl ?_
  refine k_iconst C 1 (by decide) dL_law_141 ?_
  refine k_iadd C dL_law_142 ?_
  refine k_sld C0 hX hbl hbA hin1 p1 hv1 dL_law_143 ?_
  refine k_aload_n C dL_law_144 1 rfl ?_
  refine k_iload C dL_law_145 5 rfl ?_
  refine k_iconst C 2 (by decide) dL_law_147 ?_
  refine k_iadd C dL_law_148 ?_
  refine k_sld C0 hX hbl hbA hin2 p2 hv2 dL_law_149 ?_
  refine k_aload_n C dL_law_150 1 rfl ?_
  refine k_iload C dL_law_151 5 rfl ?_
  refine k_iconst C 3 (by decide) dL_law_153 ?_
  refine k_iadd C dL_law_154 ?_
  refine k_sld C0 hX hbl hbA hin3 p3 hv3 dL_law_155 ?_
  refine k_callV_i C (mX3_serve l D cI cJ b0 b1 b2 b3 b4 b5 b6 p1 p2 p3 Y hN) (cwV 3 C.2.2.2.2.1 (kGV q630 q631 q632 q61 q633) rfl rfl rfl ⟨rfl, hdX3_serve⟩ ⟨Nat.le_of_ble_eq_true rfl, Nat.le_of_ble_eq_true rfl⟩) [7, 8, 9, 10, 11, 12, 13] [0, 1, 2, 3, 4, 5, 6, 14] [0, 1, 2, 3, 4, 5, 6, 8, 9, 10, 11, 12, 13, 14, 7] (wC a0 a1 a2 a3 a4 a5 a6 (if S.1 = 0 then S.2.2 else X) ++ [(o, cJ1 cJ (if S.1 = 0 then S.2.1.toInt64 else u))]) (wC a0 a1 a2 a3 a4 a5 a6 (if S.1 = 0 then S.2.2 else X) ++ (wM cI b0 b1 b2 b3 b4 b5 b6 (fX3_serve p1 p2 p3 Y).2 ++ [(o, cJ1 cJ (if S.1 = 0 then S.2.1.toInt64 else u))])) rfl rfl rfl rfl (by decide) [b0, b1, b2, b3, b4, b5, b6] rfl rfl rfl rfl 7 3 rfl rfl rfl (Nat.le_of_ble_eq_true rfl) ⟨by show 15 + i0 + 1 ≤ 1056; omega, by show 112 + 6 * i0 + 6 ≤ 8406; omega⟩ rfl dL_law_156 ?_
  generalize eT : (fX3_serve p1 p2 p3 Y) = T9 at hk hval hR1 ⊢
  refine k_istore C [(6, .int T9.1), (5, .int (kK S.1 1 2 9)), (0, .ref b), (1, .ref a0), (2, .ref b0), (3, .ref o), (4, .int x4)] (by decide) rfl dL_law_159 ?_
  refine k_aload_n C dL_law_161 4 rfl ?_
  refine k_callV_i C (mX3_thrown l D cI cJ b0 b1 b2 b3 b4 b5 b6 T9.2) (cwV 0 C.2.2.2.2.1 (kGV q626 q627 q628 q61 q629) rfl rfl rfl ⟨rfl, hdX3_thrown⟩ ⟨Nat.le_of_ble_eq_true rfl, Nat.le_of_ble_eq_true rfl⟩) [7, 8, 9, 10, 11, 12, 13] [0, 1, 2, 3, 4, 5, 6, 14] [0, 1, 2, 3, 4, 5, 6, 8, 9, 10, 11, 12, 13, 14, 7] (wC a0 a1 a2 a3 a4 a5 a6 (if S.1 = 0 then S.2.2 else X) ++ [(o, cJ1 cJ (if S.1 = 0 then S.2.1.toInt64 else u))]) (wC a0 a1 a2 a3 a4 a5 a6 (if S.1 = 0 then S.2.2 else X) ++ (wM cI b0 b1 b2 b3 b4 b5 b6 T9.2 ++ [(o, cJ1 cJ (if S.1 = 0 then S.2.1.toInt64 else u))])) rfl rfl rfl rfl (by decide) [b0, b1, b2, b3, b4, b5, b6] rfl rfl rfl rfl 7 3 rfl rfl rfl (Nat.le_of_ble_eq_true rfl) ⟨by show 15 + i0 + 1 ≤ 1056; omega, by show 112 + 6 * i0 + 6 ≤ 8406; omega⟩ rfl dL_law_162 ?_
  rw [show fX3_thrown T9.2 = kK S.1 1 2 9 from hk]
  refine k_iload C dL_law_165 1 rfl ?_
  refine k_icmp_eq C 172 (by decide) dL_law_167 (fun _ => ?_) (fun h => absurd rfl h)
  refine k_iload C dL_law_172 1 rfl ?_
  by_cases h0 : S.1 = 0
  · refine k_if_ne C 189 (by decide) dL_law_174 (fun h => absurd (by rw [h0]; decide) h) (fun _ => ?_)
    refine k_aload_n C dL_law_177 5 rfl ?_
    refine k_iconst C 0 (by decide) dL_law_178 ?_
    refine k_lald (v := S.2.1.toInt64) C 14 rfl vi1_0 (by rw [if_pos h0]; exact aJ_l _) dL_law_179 ?_
    refine k_iload C dL_law_180 0 rfl ?_
    refine k_i2l C dL_law_182 ?_
    refine k_lcmp C dL_law_183 ?_
    refine k_if_eq C 189 (by decide) dL_law_184 (fun _ => ?_) (fun h => absurd (by rw [hval h0]; exact lg_cmp_self _) h)
    refine k_goto C 991 (by decide) dL_law_189 ?_
    refine k_sub [2, 3, 4, 5, 6] rfl ?_
    exact k_widen (by omega) (by omega) (kk _ _ _ d0 hd0 hR1)
  · refine k_if_ne C 189 (by decide) dL_law_174 (fun _ => ?_) (fun h => absurd h (kK_ne h0 (by decide) (by decide) (by decide)))
    refine k_goto C 991 (by decide) dL_law_189 ?_
    refine k_sub [2, 3, 4, 5, 6] rfl ?_
    exact k_widen (by omega) (by omega) (kk _ _ _ d0 hd0 hR1)
set_option maxHeartbeats 4000000 in
set_option maxRecDepth 100000 in
theorem lw_strike {p : Program} {e : Env} {s : State} {m : MethodId} {below : List Frame} {meth : Method} {c : Code} {D : va_G} {cI cJ : ClassId} (l : Launch) (hl : l.stackTraces = false) {b L : Nat} {xs : Nat → Int32} (hX : va_X b L xs s s.heap) (hbl : b < s.heap.size) (C0 : kCx p s m #[Value.ref b] meth c RL cL_law 9 ret D cI cJ (fun q => s.heap.size ≤ q)) (T0 : kTE (fun q => s.heap.size ≤ q) s s.heap) (a0 a1 a2 a3 a4 a5 a6 o : Nat) (b0 b1 b2 b3 b4 b5 b6 : Nat) {i0 : Nat} (hi : i0 < 512) {x4 : Int32} {p1 : Int32} (hv1 : p1 = xs (x4 + 1).toNatClampNeg) (hin1 : vp_in (x4 + 1) L) {p2 : Int32} (hv2 : p2 = xs (x4 + 2).toNatClampNeg) (hin2 : vp_in (x4 + 2) L) {p3 : Int32} (hv3 : p3 = xs (x4 + 3).toNatClampNeg) (hin3 : vp_in (x4 + 3) L) {p4 : Int32} (hv4 : p4 = xs (x4 + 4).toNatClampNeg) (hin4 : vp_in (x4 + 4) L) (X : Co) (Y : Mo) (u : Int64) (d0 : Drawn) (hd0 : s.drawn.sameBut d0 lw_cs) (hR : Rel i0 X Y) (kk : (∀ (X : Co) (Y : Mo) (u : Int64) (d0 : Drawn), s.drawn.sameBut d0 lw_cs → Rel (i0 + 1) X Y → kW p l e room_1 (s.setDrawn d0) m #[Value.ref b] below meth c D (fun q => s.heap.size ≤ q) 9 (15 + (i0 + 1)) (112 + 6 * (i0 + 1)) (lw_Z below #[Value.ref b] s) (wC a0 a1 a2 a3 a4 a5 a6 X ++ (wM cI b0 b1 b2 b3 b4 b5 b6 Y ++ [(o, cJ1 cJ u)])) 991 [(0, .ref b), (1, .ref a0), (2, .ref b0), (3, .ref o), (4, .int x4)] [])) : kW p l e room_1 (s.setDrawn d0) m #[Value.ref b] below meth c D (fun q => s.heap.size ≤ q) 9 (15 + i0) (112 + 6 * i0) (lw_Z below #[Value.ref b] s) (wC a0 a1 a2 a3 a4 a5 a6 X ++ (wM cI b0 b1 b2 b3 b4 b5 b6 Y ++ [(o, cJ1 cJ u)])) 192 [(0, .ref b), (1, .ref a0), (2, .ref b0), (3, .ref o), (4, .int x4)] [] := by
  have C := C0.dr d0
  have T := T0.dr d0
  have hbA : ¬ (fun q : Nat => s.heap.size ≤ q) b := Nat.not_le.mpr hbl
  obtain ⟨hN, hk, hval, hR1⟩ := pr_strike (p0 := p1) (p1 := p2) (p2 := p3) (p3 := p4) hi hR
  generalize eS : (xX2_strike p1 p2 p3 p4 X) = S at hk hval hR1
  refine k_aload_n C dL_law_192 1 rfl ?_
  refine k_aload_n C dL_law_193 0 rfl ?_
  refine k_iload C dL_law_194 4 rfl ?_
  refine k_iconst C 1 (by decide) dL_law_196 ?_
  refine k_iadd C dL_law_197 ?_
  refine k_sld C0 hX hbl hbA hin1 p1 hv1 dL_law_198 ?_
  refine k_aload_n C dL_law_199 0 rfl ?_
  refine k_iload C dL_law_200 4 rfl ?_
  refine k_iconst C 2 (by decide) dL_law_202 ?_
  refine k_iadd C dL_law_203 ?_
  refine k_sld C0 hX hbl hbA hin2 p2 hv2 dL_law_204 ?_
  refine k_aload_n C dL_law_205 0 rfl ?_
  refine k_iload C dL_law_206 4 rfl ?_
  refine k_iconst C 3 (by decide) dL_law_208 ?_
  refine k_iadd C dL_law_209 ?_
  refine k_sld C0 hX hbl hbA hin3 p3 hv3 dL_law_210 ?_
  refine k_aload_n C dL_law_211 0 rfl ?_
  refine k_iload C dL_law_212 4 rfl ?_
  refine k_iconst C 4 (by decide) dL_law_214 ?_
  refine k_iadd C dL_law_215 ?_
  refine k_sld C0 hX hbl hbA hin4 p4 hv4 dL_law_216 ?_
  refine k_aload_n C dL_law_217 3 rfl ?_
  refine k_callH C T (mL_strike l hl D cI cJ a0 a1 a2 a3 a4 a5 a6 o p1 p2 p3 p4 u X) (vx_cwSW 6 C.2.2.2.2.1 (kGS q430 q431 q57 q432) rfl rfl rfl hdL_strike ⟨Nat.le_of_ble_eq_true rfl, Nat.le_of_ble_eq_true rfl⟩) [0, 1, 2, 3, 4, 5, 6, 14] [7, 8, 9, 10, 11, 12, 13] [7, 8, 9, 10, 11, 12, 13, 0, 1, 2, 3, 4, 5, 6, 14] (wM cI b0 b1 b2 b3 b4 b5 b6 Y) (wC a0 a1 a2 a3 a4 a5 a6 (if (xX2_strike p1 p2 p3 p4 X).1 = 0 then (xX2_strike p1 p2 p3 p4 X).2.2 else X) ++ (wM cI b0 b1 b2 b3 b4 b5 b6 Y ++ [(o, cJ1 cJ (if (xX2_strike p1 p2 p3 p4 X).1 = 0 then (xX2_strike p1 p2 p3 p4 X).2.1.toInt64 else u))])) rfl rfl rfl rfl (by decide) [a0, a1, a2, a3, a4, a5, a6, o] rfl rfl rfl rfl (Nat.le_of_ble_eq_true rfl) ⟨by show 15 + i0 + 1 ≤ 1056; omega, by show 112 + 6 * i0 + 6 ≤ 8406; omega⟩ rfl dL_law_218 ?_
  rw [eS]
  refine k_istore C [(5, .int (kK S.1 1 2 9)), (0, .ref b), (1, .ref a0), (2, .ref b0), (3, .ref o), (4, .int x4)] (by decide) rfl dL_law_221 ?_
  refine k_aload_n C dL_law_223 3 rfl ?_
  refine k_aload_n C dL_law_224 1 rfl ?_
  refine k_iload C dL_law_225 5 rfl ?_
  refine k_iconst C 1 (by decide) dL_law_227 ?_
  refine k_iadd C dL_law_228 ?_
  refine k_sld C0 hX hbl hbA hin1 p1 hv1 dL_law_229 ?_
  refine k_aload_n C dL_law_230 1 rfl ?_
  refine k_iload C dL_law_231 5 rfl ?_
  refine k_iconst C 2 (by decide) dL_law_233 ?_
  refine k_iadd C dL_law_234 ?_
  refine k_sld C0 hX hbl hbA hin2 p2 hv2 dL_law_235 ?_
  refine k_aload_n C dL_law_236 1 rfl ?_
  refine k_iload C dL_law_237 5 rfl ?_
  refine k_iconst C 3 (by decide) dL_law_239 ?_
  refine k_iadd C dL_law_240 ?_
  refine k_sld C0 hX hbl hbA hin3 p3 hv3 dL_law_241 ?_
  refine k_aload_n C dL_law_242 1 rfl ?_
  refine k_iload C dL_law_243 5 rfl ?_
  refine k_iconst C 4 (by decide) dL_law_245 ?_
  refine k_iadd C dL_law_246 ?_
  refine k_sld C0 hX hbl hbA hin4 p4 hv4 dL_law_247 ?_
  refine k_callV_i C (mX3_strike l D cI cJ b0 b1 b2 b3 b4 b5 b6 p1 p2 p3 p4 Y hN) (cwV 4 C.2.2.2.2.1 (kGV q664 q665 q666 q61 q667) rfl rfl rfl ⟨rfl, hdX3_strike⟩ ⟨Nat.le_of_ble_eq_true rfl, Nat.le_of_ble_eq_true rfl⟩) [7, 8, 9, 10, 11, 12, 13] [0, 1, 2, 3, 4, 5, 6, 14] [0, 1, 2, 3, 4, 5, 6, 8, 9, 10, 11, 12, 13, 14, 7] (wC a0 a1 a2 a3 a4 a5 a6 (if S.1 = 0 then S.2.2 else X) ++ [(o, cJ1 cJ (if S.1 = 0 then S.2.1.toInt64 else u))]) (wC a0 a1 a2 a3 a4 a5 a6 (if S.1 = 0 then S.2.2 else X) ++ (wM cI b0 b1 b2 b3 b4 b5 b6 (fX3_strike p1 p2 p3 p4 Y).2 ++ [(o, cJ1 cJ (if S.1 = 0 then S.2.1.toInt64 else u))])) rfl rfl rfl rfl (by decide) [b0, b1, b2, b3, b4, b5, b6] rfl rfl rfl rfl 7 3 rfl rfl rfl (Nat.le_of_ble_eq_true rfl) ⟨by show 15 + i0 + 1 ≤ 1056; omega, by show 112 + 6 * i0 + 6 ≤ 8406; omega⟩ rfl dL_law_248 ?_
  generalize eT : (fX3_strike p1 p2 p3 p4 Y) = T9 at hk hval hR1 ⊢
  refine k_istore C [(6, .int T9.1), (5, .int (kK S.1 1 2 9)), (0, .ref b), (1, .ref a0), (2, .ref b0), (3, .ref o), (4, .int x4)] (by decide) rfl dL_law_251 ?_
  refine k_aload_n C dL_law_253 4 rfl ?_
  refine k_callV_i C (mX3_thrown l D cI cJ b0 b1 b2 b3 b4 b5 b6 T9.2) (cwV 0 C.2.2.2.2.1 (kGV q626 q627 q628 q61 q629) rfl rfl rfl ⟨rfl, hdX3_thrown⟩ ⟨Nat.le_of_ble_eq_true rfl, Nat.le_of_ble_eq_true rfl⟩) [7, 8, 9, 10, 11, 12, 13] [0, 1, 2, 3, 4, 5, 6, 14] [0, 1, 2, 3, 4, 5, 6, 8, 9, 10, 11, 12, 13, 14, 7] (wC a0 a1 a2 a3 a4 a5 a6 (if S.1 = 0 then S.2.2 else X) ++ [(o, cJ1 cJ (if S.1 = 0 then S.2.1.toInt64 else u))]) (wC a0 a1 a2 a3 a4 a5 a6 (if S.1 = 0 then S.2.2 else X) ++ (wM cI b0 b1 b2 b3 b4 b5 b6 T9.2 ++ [(o, cJ1 cJ (if S.1 = 0 then S.2.1.toInt64 else u))])) rfl rfl rfl rfl (by decide) [b0, b1, b2, b3, b4, b5, b6] rfl rfl rfl rfl 7 3 rfl rfl rfl (Nat.le_of_ble_eq_true rfl) ⟨by show 15 + i0 + 1 ≤ 1056; omega, by show 112 + 6 * i0 + 6 ≤ 8406; omega⟩ rfl dL_law_254 ?_
  rw [show fX3_thrown T9.2 = kK S.1 1 2 9 from hk]
  refine k_iload C dL_law_257 1 rfl ?_
  refine k_icmp_eq C 264 (by decide) dL_law_259 (fun _ => ?_) (fun h => absurd rfl h)
  refine k_iload C dL_law_264 1 rfl ?_
  by_cases h0 : S.1 = 0
  · refine k_if_ne C 281 (by decide) dL_law_266 (fun h => absurd (by rw [h0]; decide) h) (fun _ => ?_)
    refine k_aload_n C dL_law_269 5 rfl ?_
    refine k_iconst C 0 (by decide) dL_law_270 ?_
    refine k_lald (v := S.2.1.toInt64) C 14 rfl vi1_0 (by rw [if_pos h0]; exact aJ_l _) dL_law_271 ?_
    refine k_iload C dL_law_272 0 rfl ?_
    refine k_i2l C dL_law_274 ?_
    refine k_lcmp C dL_law_275 ?_
    refine k_if_eq C 281 (by decide) dL_law_276 (fun _ => ?_) (fun h => absurd (by rw [hval h0]; exact lg_cmp_self _) h)
    refine k_goto C 991 (by decide) dL_law_281 ?_
    refine k_sub [2, 3, 4, 5, 6] rfl ?_
    exact k_widen (by omega) (by omega) (kk _ _ _ d0 hd0 hR1)
  · refine k_if_ne C 281 (by decide) dL_law_266 (fun _ => ?_) (fun h => absurd h (kK_ne h0 (by decide) (by decide) (by decide)))
    refine k_goto C 991 (by decide) dL_law_281 ?_
    refine k_sub [2, 3, 4, 5, 6] rfl ?_
    exact k_widen (by omega) (by omega) (kk _ _ _ d0 hd0 hR1)
set_option maxHeartbeats 4000000 in
set_option maxRecDepth 100000 in
theorem lw_leave {p : Program} {e : Env} {s : State} {m : MethodId} {below : List Frame} {meth : Method} {c : Code} {D : va_G} {cI cJ : ClassId} (l : Launch) (hl : l.stackTraces = false) {b L : Nat} {xs : Nat → Int32} (hX : va_X b L xs s s.heap) (hbl : b < s.heap.size) (C0 : kCx p s m #[Value.ref b] meth c RL cL_law 9 ret D cI cJ (fun q => s.heap.size ≤ q)) (T0 : kTE (fun q => s.heap.size ≤ q) s s.heap) (a0 a1 a2 a3 a4 a5 a6 o : Nat) (b0 b1 b2 b3 b4 b5 b6 : Nat) {i0 : Nat} (hi : i0 < 512) {x4 : Int32}  (X : Co) (Y : Mo) (u : Int64) (d0 : Drawn) (hd0 : s.drawn.sameBut d0 lw_cs) (hR : Rel i0 X Y) (kk : (∀ (X : Co) (Y : Mo) (u : Int64) (d0 : Drawn), s.drawn.sameBut d0 lw_cs → Rel (i0 + 1) X Y → kW p l e room_1 (s.setDrawn d0) m #[Value.ref b] below meth c D (fun q => s.heap.size ≤ q) 9 (15 + (i0 + 1)) (112 + 6 * (i0 + 1)) (lw_Z below #[Value.ref b] s) (wC a0 a1 a2 a3 a4 a5 a6 X ++ (wM cI b0 b1 b2 b3 b4 b5 b6 Y ++ [(o, cJ1 cJ u)])) 991 [(0, .ref b), (1, .ref a0), (2, .ref b0), (3, .ref o), (4, .int x4)] [])) : kW p l e room_1 (s.setDrawn d0) m #[Value.ref b] below meth c D (fun q => s.heap.size ≤ q) 9 (15 + i0) (112 + 6 * i0) (lw_Z below #[Value.ref b] s) (wC a0 a1 a2 a3 a4 a5 a6 X ++ (wM cI b0 b1 b2 b3 b4 b5 b6 Y ++ [(o, cJ1 cJ u)])) 284 [(0, .ref b), (1, .ref a0), (2, .ref b0), (3, .ref o), (4, .int x4)] [] := by
  have C := C0.dr d0
  have T := T0.dr d0
  have hbA : ¬ (fun q : Nat => s.heap.size ≤ q) b := Nat.not_le.mpr hbl
  obtain ⟨hN, hk, hval, hR1⟩ := pr_leave hi hR
  generalize eS : (xX2_leave X) = S at hk hval hR1
  refine k_aload_n C dL_law_284 1 rfl ?_
  refine k_aload_n C dL_law_285 3 rfl ?_
  refine k_callH C T (mL_leave l hl D cI cJ a0 a1 a2 a3 a4 a5 a6 o  u X) (vx_cwSW 2 C.2.2.2.2.1 (kGS q474 q475 q57 q476) rfl rfl rfl hdL_leave ⟨Nat.le_of_ble_eq_true rfl, Nat.le_of_ble_eq_true rfl⟩) [0, 1, 2, 3, 4, 5, 6, 14] [7, 8, 9, 10, 11, 12, 13] [7, 8, 9, 10, 11, 12, 13, 0, 1, 2, 3, 4, 5, 6, 14] (wM cI b0 b1 b2 b3 b4 b5 b6 Y) (wC a0 a1 a2 a3 a4 a5 a6 (if (xX2_leave X).1 = 0 then (xX2_leave X).2.2 else X) ++ (wM cI b0 b1 b2 b3 b4 b5 b6 Y ++ [(o, cJ1 cJ (if (xX2_leave X).1 = 0 then (xX2_leave X).2.1.toInt64 else u))])) rfl rfl rfl rfl (by decide) [a0, a1, a2, a3, a4, a5, a6, o] rfl rfl rfl rfl (Nat.le_of_ble_eq_true rfl) ⟨by show 15 + i0 + 1 ≤ 1056; omega, by show 112 + 6 * i0 + 6 ≤ 8406; omega⟩ rfl dL_law_286 ?_
  rw [eS]
  refine k_istore C [(5, .int (kK S.1 9 1 9)), (0, .ref b), (1, .ref a0), (2, .ref b0), (3, .ref o), (4, .int x4)] (by decide) rfl dL_law_289 ?_
  refine k_aload_n C dL_law_291 3 rfl ?_
  refine k_callV_i C (mX3_leave l D cI cJ b0 b1 b2 b3 b4 b5 b6  Y hN) (cwV 0 C.2.2.2.2.1 (kGV q711 q712 q713 q61 q714) rfl rfl rfl ⟨rfl, hdX3_leave⟩ ⟨Nat.le_of_ble_eq_true rfl, Nat.le_of_ble_eq_true rfl⟩) [7, 8, 9, 10, 11, 12, 13] [0, 1, 2, 3, 4, 5, 6, 14] [0, 1, 2, 3, 4, 5, 6, 8, 9, 10, 11, 12, 13, 14, 7] (wC a0 a1 a2 a3 a4 a5 a6 (if S.1 = 0 then S.2.2 else X) ++ [(o, cJ1 cJ (if S.1 = 0 then S.2.1.toInt64 else u))]) (wC a0 a1 a2 a3 a4 a5 a6 (if S.1 = 0 then S.2.2 else X) ++ (wM cI b0 b1 b2 b3 b4 b5 b6 (fX3_leave Y).2 ++ [(o, cJ1 cJ (if S.1 = 0 then S.2.1.toInt64 else u))])) rfl rfl rfl rfl (by decide) [b0, b1, b2, b3, b4, b5, b6] rfl rfl rfl rfl 7 3 rfl rfl rfl (Nat.le_of_ble_eq_true rfl) ⟨by show 15 + i0 + 1 ≤ 1056; omega, by show 112 + 6 * i0 + 6 ≤ 8406; omega⟩ rfl dL_law_292 ?_
  generalize eT : (fX3_leave Y) = T9 at hk hval hR1 ⊢
  refine k_istore C [(6, .int T9.1), (5, .int (kK S.1 9 1 9)), (0, .ref b), (1, .ref a0), (2, .ref b0), (3, .ref o), (4, .int x4)] (by decide) rfl dL_law_295 ?_
  refine k_aload_n C dL_law_297 4 rfl ?_
  refine k_callV_i C (mX3_thrown l D cI cJ b0 b1 b2 b3 b4 b5 b6 T9.2) (cwV 0 C.2.2.2.2.1 (kGV q626 q627 q628 q61 q629) rfl rfl rfl ⟨rfl, hdX3_thrown⟩ ⟨Nat.le_of_ble_eq_true rfl, Nat.le_of_ble_eq_true rfl⟩) [7, 8, 9, 10, 11, 12, 13] [0, 1, 2, 3, 4, 5, 6, 14] [0, 1, 2, 3, 4, 5, 6, 8, 9, 10, 11, 12, 13, 14, 7] (wC a0 a1 a2 a3 a4 a5 a6 (if S.1 = 0 then S.2.2 else X) ++ [(o, cJ1 cJ (if S.1 = 0 then S.2.1.toInt64 else u))]) (wC a0 a1 a2 a3 a4 a5 a6 (if S.1 = 0 then S.2.2 else X) ++ (wM cI b0 b1 b2 b3 b4 b5 b6 T9.2 ++ [(o, cJ1 cJ (if S.1 = 0 then S.2.1.toInt64 else u))])) rfl rfl rfl rfl (by decide) [b0, b1, b2, b3, b4, b5, b6] rfl rfl rfl rfl 7 3 rfl rfl rfl (Nat.le_of_ble_eq_true rfl) ⟨by show 15 + i0 + 1 ≤ 1056; omega, by show 112 + 6 * i0 + 6 ≤ 8406; omega⟩ rfl dL_law_298 ?_
  rw [show fX3_thrown T9.2 = kK S.1 9 1 9 from hk]
  refine k_iload C dL_law_301 1 rfl ?_
  refine k_icmp_eq C 308 (by decide) dL_law_303 (fun _ => ?_) (fun h => absurd rfl h)
  refine k_iload C dL_law_308 1 rfl ?_
  by_cases h0 : S.1 = 0
  · refine k_if_ne C 325 (by decide) dL_law_310 (fun h => absurd (by rw [h0]; decide) h) (fun _ => ?_)
    refine k_aload_n C dL_law_313 5 rfl ?_
    refine k_iconst C 0 (by decide) dL_law_314 ?_
    refine k_lald (v := S.2.1.toInt64) C 14 rfl vi1_0 (by rw [if_pos h0]; exact aJ_l _) dL_law_315 ?_
    refine k_iload C dL_law_316 0 rfl ?_
    refine k_i2l C dL_law_318 ?_
    refine k_lcmp C dL_law_319 ?_
    refine k_if_eq C 325 (by decide) dL_law_320 (fun _ => ?_) (fun h => absurd (by rw [hval h0]; exact lg_cmp_self _) h)
    refine k_goto C 991 (by decide) dL_law_325 ?_
    refine k_sub [2, 3, 4, 5, 6] rfl ?_
    exact k_widen (by omega) (by omega) (kk _ _ _ d0 hd0 hR1)
  · refine k_if_ne C 325 (by decide) dL_law_310 (fun _ => ?_) (fun h => absurd h (kK_ne h0 (by decide) (by decide) (by decide)))
    refine k_goto C 991 (by decide) dL_law_325 ?_
    refine k_sub [2, 3, 4, 5, 6] rfl ?_
    exact k_widen (by omega) (by omega) (kk _ _ _ d0 hd0 hR1)
set_option maxHeartbeats 4000000 in
set_option maxRecDepth 100000 in
theorem lw_let {p : Program} {e : Env} {s : State} {m : MethodId} {below : List Frame} {meth : Method} {c : Code} {D : va_G} {cI cJ : ClassId} (l : Launch) (hl : l.stackTraces = false) {b L : Nat} {xs : Nat → Int32} (hX : va_X b L xs s s.heap) (hbl : b < s.heap.size) (C0 : kCx p s m #[Value.ref b] meth c RL cL_law 9 ret D cI cJ (fun q => s.heap.size ≤ q)) (T0 : kTE (fun q => s.heap.size ≤ q) s s.heap) (a0 a1 a2 a3 a4 a5 a6 o : Nat) (b0 b1 b2 b3 b4 b5 b6 : Nat) {i0 : Nat} (hi : i0 < 512) {x4 : Int32}  (X : Co) (Y : Mo) (u : Int64) (d0 : Drawn) (hd0 : s.drawn.sameBut d0 lw_cs) (hR : Rel i0 X Y) (kk : (∀ (X : Co) (Y : Mo) (u : Int64) (d0 : Drawn), s.drawn.sameBut d0 lw_cs → Rel (i0 + 1) X Y → kW p l e room_1 (s.setDrawn d0) m #[Value.ref b] below meth c D (fun q => s.heap.size ≤ q) 9 (15 + (i0 + 1)) (112 + 6 * (i0 + 1)) (lw_Z below #[Value.ref b] s) (wC a0 a1 a2 a3 a4 a5 a6 X ++ (wM cI b0 b1 b2 b3 b4 b5 b6 Y ++ [(o, cJ1 cJ u)])) 991 [(0, .ref b), (1, .ref a0), (2, .ref b0), (3, .ref o), (4, .int x4)] [])) : kW p l e room_1 (s.setDrawn d0) m #[Value.ref b] below meth c D (fun q => s.heap.size ≤ q) 9 (15 + i0) (112 + 6 * i0) (lw_Z below #[Value.ref b] s) (wC a0 a1 a2 a3 a4 a5 a6 X ++ (wM cI b0 b1 b2 b3 b4 b5 b6 Y ++ [(o, cJ1 cJ u)])) 328 [(0, .ref b), (1, .ref a0), (2, .ref b0), (3, .ref o), (4, .int x4)] [] := by
  have C := C0.dr d0
  have T := T0.dr d0
  have hbA : ¬ (fun q : Nat => s.heap.size ≤ q) b := Nat.not_le.mpr hbl
  obtain ⟨hk, hval, hR1⟩ := pr_let hi hR
  generalize eS : (xX2_let X) = S at hk hval hR1
  refine k_aload_n C dL_law_328 1 rfl ?_
  refine k_aload_n C dL_law_329 3 rfl ?_
  refine k_callH C T (mL_let l hl D cI cJ a0 a1 a2 a3 a4 a5 a6 o  u X) (vx_cwSW 2 C.2.2.2.2.1 (kGS q481 q482 q57 q483) rfl rfl rfl hdL_let ⟨Nat.le_of_ble_eq_true rfl, Nat.le_of_ble_eq_true rfl⟩) [0, 1, 2, 3, 4, 5, 6, 14] [7, 8, 9, 10, 11, 12, 13] [7, 8, 9, 10, 11, 12, 13, 0, 1, 2, 3, 4, 5, 6, 14] (wM cI b0 b1 b2 b3 b4 b5 b6 Y) (wC a0 a1 a2 a3 a4 a5 a6 (if (xX2_let X).1 = 0 then (xX2_let X).2.2 else X) ++ (wM cI b0 b1 b2 b3 b4 b5 b6 Y ++ [(o, cJ1 cJ (if (xX2_let X).1 = 0 then (xX2_let X).2.1.toInt64 else u))])) rfl rfl rfl rfl (by decide) [a0, a1, a2, a3, a4, a5, a6, o] rfl rfl rfl rfl (Nat.le_of_ble_eq_true rfl) ⟨by show 15 + i0 + 1 ≤ 1056; omega, by show 112 + 6 * i0 + 6 ≤ 8406; omega⟩ rfl dL_law_330 ?_
  rw [eS]
  refine k_istore C [(5, .int (kK S.1 9 1 9)), (0, .ref b), (1, .ref a0), (2, .ref b0), (3, .ref o), (4, .int x4)] (by decide) rfl dL_law_333 ?_
  refine k_aload_n C dL_law_335 3 rfl ?_
  refine k_callV_i C (mX3_let l D cI cJ b0 b1 b2 b3 b4 b5 b6  Y) (cwV 0 C.2.2.2.2.1 (kGV q723 q724 q725 q61 q726) rfl rfl rfl ⟨rfl, hdX3_let⟩ ⟨Nat.le_of_ble_eq_true rfl, Nat.le_of_ble_eq_true rfl⟩) [7, 8, 9, 10, 11, 12, 13] [0, 1, 2, 3, 4, 5, 6, 14] [0, 1, 2, 3, 4, 5, 6, 8, 9, 10, 11, 12, 13, 14, 7] (wC a0 a1 a2 a3 a4 a5 a6 (if S.1 = 0 then S.2.2 else X) ++ [(o, cJ1 cJ (if S.1 = 0 then S.2.1.toInt64 else u))]) (wC a0 a1 a2 a3 a4 a5 a6 (if S.1 = 0 then S.2.2 else X) ++ (wM cI b0 b1 b2 b3 b4 b5 b6 (fX3_let Y).2 ++ [(o, cJ1 cJ (if S.1 = 0 then S.2.1.toInt64 else u))])) rfl rfl rfl rfl (by decide) [b0, b1, b2, b3, b4, b5, b6] rfl rfl rfl rfl 7 3 rfl rfl rfl (Nat.le_of_ble_eq_true rfl) ⟨by show 15 + i0 + 1 ≤ 1056; omega, by show 112 + 6 * i0 + 6 ≤ 8406; omega⟩ rfl dL_law_336 ?_
  generalize eT : (fX3_let Y) = T9 at hk hval hR1 ⊢
  refine k_istore C [(6, .int T9.1), (5, .int (kK S.1 9 1 9)), (0, .ref b), (1, .ref a0), (2, .ref b0), (3, .ref o), (4, .int x4)] (by decide) rfl dL_law_339 ?_
  refine k_aload_n C dL_law_341 4 rfl ?_
  refine k_callV_i C (mX3_thrown l D cI cJ b0 b1 b2 b3 b4 b5 b6 T9.2) (cwV 0 C.2.2.2.2.1 (kGV q626 q627 q628 q61 q629) rfl rfl rfl ⟨rfl, hdX3_thrown⟩ ⟨Nat.le_of_ble_eq_true rfl, Nat.le_of_ble_eq_true rfl⟩) [7, 8, 9, 10, 11, 12, 13] [0, 1, 2, 3, 4, 5, 6, 14] [0, 1, 2, 3, 4, 5, 6, 8, 9, 10, 11, 12, 13, 14, 7] (wC a0 a1 a2 a3 a4 a5 a6 (if S.1 = 0 then S.2.2 else X) ++ [(o, cJ1 cJ (if S.1 = 0 then S.2.1.toInt64 else u))]) (wC a0 a1 a2 a3 a4 a5 a6 (if S.1 = 0 then S.2.2 else X) ++ (wM cI b0 b1 b2 b3 b4 b5 b6 T9.2 ++ [(o, cJ1 cJ (if S.1 = 0 then S.2.1.toInt64 else u))])) rfl rfl rfl rfl (by decide) [b0, b1, b2, b3, b4, b5, b6] rfl rfl rfl rfl 7 3 rfl rfl rfl (Nat.le_of_ble_eq_true rfl) ⟨by show 15 + i0 + 1 ≤ 1056; omega, by show 112 + 6 * i0 + 6 ≤ 8406; omega⟩ rfl dL_law_342 ?_
  rw [show fX3_thrown T9.2 = kK S.1 9 1 9 from hk]
  refine k_iload C dL_law_345 1 rfl ?_
  refine k_icmp_eq C 352 (by decide) dL_law_347 (fun _ => ?_) (fun h => absurd rfl h)
  refine k_iload C dL_law_352 1 rfl ?_
  by_cases h0 : S.1 = 0
  · refine k_if_ne C 369 (by decide) dL_law_354 (fun h => absurd (by rw [h0]; decide) h) (fun _ => ?_)
    refine k_aload_n C dL_law_357 5 rfl ?_
    refine k_iconst C 0 (by decide) dL_law_358 ?_
    refine k_lald (v := S.2.1.toInt64) C 14 rfl vi1_0 (by rw [if_pos h0]; exact aJ_l _) dL_law_359 ?_
    refine k_iload C dL_law_360 0 rfl ?_
    refine k_i2l C dL_law_362 ?_
    refine k_lcmp C dL_law_363 ?_
    refine k_if_eq C 369 (by decide) dL_law_364 (fun _ => ?_) (fun h => absurd (by rw [hval h0]; exact lg_cmp_self _) h)
    refine k_goto C 991 (by decide) dL_law_369 ?_
    refine k_sub [2, 3, 4, 5, 6] rfl ?_
    exact k_widen (by omega) (by omega) (kk _ _ _ d0 hd0 hR1)
  · refine k_if_ne C 369 (by decide) dL_law_354 (fun _ => ?_) (fun h => absurd h (kK_ne h0 (by decide) (by decide) (by decide)))
    refine k_goto C 991 (by decide) dL_law_369 ?_
    refine k_sub [2, 3, 4, 5, 6] rfl ?_
    exact k_widen (by omega) (by omega) (kk _ _ _ d0 hd0 hR1)
set_option maxHeartbeats 4000000 in
set_option maxRecDepth 100000 in
theorem lw_set {p : Program} {e : Env} {s : State} {m : MethodId} {below : List Frame} {meth : Method} {c : Code} {D : va_G} {cI cJ : ClassId} (l : Launch) (hl : l.stackTraces = false) {b L : Nat} {xs : Nat → Int32} (hX : va_X b L xs s s.heap) (hbl : b < s.heap.size) (C0 : kCx p s m #[Value.ref b] meth c RL cL_law 9 ret D cI cJ (fun q => s.heap.size ≤ q)) (T0 : kTE (fun q => s.heap.size ≤ q) s s.heap) (a0 a1 a2 a3 a4 a5 a6 o : Nat) (b0 b1 b2 b3 b4 b5 b6 : Nat) {i0 : Nat} (hi : i0 < 512) {x4 : Int32} {p1 : Int32} (hv1 : p1 = xs (x4 + 1).toNatClampNeg) (hin1 : vp_in (x4 + 1) L) (X : Co) (Y : Mo) (u : Int64) (d0 : Drawn) (hd0 : s.drawn.sameBut d0 lw_cs) (hR : Rel i0 X Y) (kk : (∀ (X : Co) (Y : Mo) (u : Int64) (d0 : Drawn), s.drawn.sameBut d0 lw_cs → Rel (i0 + 1) X Y → kW p l e room_1 (s.setDrawn d0) m #[Value.ref b] below meth c D (fun q => s.heap.size ≤ q) 9 (15 + (i0 + 1)) (112 + 6 * (i0 + 1)) (lw_Z below #[Value.ref b] s) (wC a0 a1 a2 a3 a4 a5 a6 X ++ (wM cI b0 b1 b2 b3 b4 b5 b6 Y ++ [(o, cJ1 cJ u)])) 991 [(0, .ref b), (1, .ref a0), (2, .ref b0), (3, .ref o), (4, .int x4)] [])) : kW p l e room_1 (s.setDrawn d0) m #[Value.ref b] below meth c D (fun q => s.heap.size ≤ q) 9 (15 + i0) (112 + 6 * i0) (lw_Z below #[Value.ref b] s) (wC a0 a1 a2 a3 a4 a5 a6 X ++ (wM cI b0 b1 b2 b3 b4 b5 b6 Y ++ [(o, cJ1 cJ u)])) 372 [(0, .ref b), (1, .ref a0), (2, .ref b0), (3, .ref o), (4, .int x4)] [] := by
  have C := C0.dr d0
  have T := T0.dr d0
  have hbA : ¬ (fun q : Nat => s.heap.size ≤ q) b := Nat.not_le.mpr hbl
  obtain ⟨hk, hval, hR1⟩ := pr_set (p0 := p1) hi hR
  generalize eS : (xX2_set p1 X) = S at hk hval hR1
  refine k_aload_n C dL_law_372 1 rfl ?_
  refine k_aload_n C dL_law_373 0 rfl ?_
  refine k_iload C dL_law_374 4 rfl ?_
  refine k_iconst C 1 (by decide) dL_law_376 ?_
  refine k_iadd C dL_law_377 ?_
  refine k_sld C0 hX hbl hbA hin1 p1 hv1 dL_law_378 ?_
  refine k_aload_n C dL_law_379 3 rfl ?_
  refine k_callH C T (mL_set l hl D cI cJ a0 a1 a2 a3 a4 a5 a6 o p1 u X) (vx_cwSW 3 C.2.2.2.2.1 (kGS q488 q489 q57 q490) rfl rfl rfl hdL_set ⟨Nat.le_of_ble_eq_true rfl, Nat.le_of_ble_eq_true rfl⟩) [0, 1, 2, 3, 4, 5, 6, 14] [7, 8, 9, 10, 11, 12, 13] [7, 8, 9, 10, 11, 12, 13, 0, 1, 2, 3, 4, 5, 6, 14] (wM cI b0 b1 b2 b3 b4 b5 b6 Y) (wC a0 a1 a2 a3 a4 a5 a6 (if (xX2_set p1 X).1 = 0 then (xX2_set p1 X).2.2 else X) ++ (wM cI b0 b1 b2 b3 b4 b5 b6 Y ++ [(o, cJ1 cJ (if (xX2_set p1 X).1 = 0 then (xX2_set p1 X).2.1.toInt64 else u))])) rfl rfl rfl rfl (by decide) [a0, a1, a2, a3, a4, a5, a6, o] rfl rfl rfl rfl (Nat.le_of_ble_eq_true rfl) ⟨by show 15 + i0 + 1 ≤ 1056; omega, by show 112 + 6 * i0 + 6 ≤ 8406; omega⟩ rfl dL_law_380 ?_
  rw [eS]
  refine k_istore C [(5, .int (kK S.1 1 2 9)), (0, .ref b), (1, .ref a0), (2, .ref b0), (3, .ref o), (4, .int x4)] (by decide) rfl dL_law_383 ?_
  refine k_aload_n C dL_law_385 3 rfl ?_
  refine k_aload_n C dL_law_386 1 rfl ?_
  refine k_iload C dL_law_387 5 rfl ?_
  refine k_iconst C 1 (by decide) dL_law_389 ?_
  refine k_iadd C dL_law_390 ?_
  refine k_sld C0 hX hbl hbA hin1 p1 hv1 dL_law_391 ?_
  refine k_callV_i C (mX3_set l D cI cJ b0 b1 b2 b3 b4 b5 b6 p1 Y) (cwV 1 C.2.2.2.2.1 (kGV q727 q728 q729 q61 q730) rfl rfl rfl ⟨rfl, hdX3_set⟩ ⟨Nat.le_of_ble_eq_true rfl, Nat.le_of_ble_eq_true rfl⟩) [7, 8, 9, 10, 11, 12, 13] [0, 1, 2, 3, 4, 5, 6, 14] [0, 1, 2, 3, 4, 5, 6, 8, 9, 10, 11, 12, 13, 14, 7] (wC a0 a1 a2 a3 a4 a5 a6 (if S.1 = 0 then S.2.2 else X) ++ [(o, cJ1 cJ (if S.1 = 0 then S.2.1.toInt64 else u))]) (wC a0 a1 a2 a3 a4 a5 a6 (if S.1 = 0 then S.2.2 else X) ++ (wM cI b0 b1 b2 b3 b4 b5 b6 (fX3_set p1 Y).2 ++ [(o, cJ1 cJ (if S.1 = 0 then S.2.1.toInt64 else u))])) rfl rfl rfl rfl (by decide) [b0, b1, b2, b3, b4, b5, b6] rfl rfl rfl rfl 7 3 rfl rfl rfl (Nat.le_of_ble_eq_true rfl) ⟨by show 15 + i0 + 1 ≤ 1056; omega, by show 112 + 6 * i0 + 6 ≤ 8406; omega⟩ rfl dL_law_392 ?_
  generalize eT : (fX3_set p1 Y) = T9 at hk hval hR1 ⊢
  refine k_istore C [(6, .int T9.1), (5, .int (kK S.1 1 2 9)), (0, .ref b), (1, .ref a0), (2, .ref b0), (3, .ref o), (4, .int x4)] (by decide) rfl dL_law_395 ?_
  refine k_aload_n C dL_law_397 4 rfl ?_
  refine k_callV_i C (mX3_thrown l D cI cJ b0 b1 b2 b3 b4 b5 b6 T9.2) (cwV 0 C.2.2.2.2.1 (kGV q626 q627 q628 q61 q629) rfl rfl rfl ⟨rfl, hdX3_thrown⟩ ⟨Nat.le_of_ble_eq_true rfl, Nat.le_of_ble_eq_true rfl⟩) [7, 8, 9, 10, 11, 12, 13] [0, 1, 2, 3, 4, 5, 6, 14] [0, 1, 2, 3, 4, 5, 6, 8, 9, 10, 11, 12, 13, 14, 7] (wC a0 a1 a2 a3 a4 a5 a6 (if S.1 = 0 then S.2.2 else X) ++ [(o, cJ1 cJ (if S.1 = 0 then S.2.1.toInt64 else u))]) (wC a0 a1 a2 a3 a4 a5 a6 (if S.1 = 0 then S.2.2 else X) ++ (wM cI b0 b1 b2 b3 b4 b5 b6 T9.2 ++ [(o, cJ1 cJ (if S.1 = 0 then S.2.1.toInt64 else u))])) rfl rfl rfl rfl (by decide) [b0, b1, b2, b3, b4, b5, b6] rfl rfl rfl rfl 7 3 rfl rfl rfl (Nat.le_of_ble_eq_true rfl) ⟨by show 15 + i0 + 1 ≤ 1056; omega, by show 112 + 6 * i0 + 6 ≤ 8406; omega⟩ rfl dL_law_398 ?_
  rw [show fX3_thrown T9.2 = kK S.1 1 2 9 from hk]
  refine k_iload C dL_law_401 1 rfl ?_
  refine k_icmp_eq C 408 (by decide) dL_law_403 (fun _ => ?_) (fun h => absurd rfl h)
  refine k_iload C dL_law_408 1 rfl ?_
  by_cases h0 : S.1 = 0
  · refine k_if_ne C 425 (by decide) dL_law_410 (fun h => absurd (by rw [h0]; decide) h) (fun _ => ?_)
    refine k_aload_n C dL_law_413 5 rfl ?_
    refine k_iconst C 0 (by decide) dL_law_414 ?_
    refine k_lald (v := S.2.1.toInt64) C 14 rfl vi1_0 (by rw [if_pos h0]; exact aJ_l _) dL_law_415 ?_
    refine k_iload C dL_law_416 0 rfl ?_
    refine k_i2l C dL_law_418 ?_
    refine k_lcmp C dL_law_419 ?_
    refine k_if_eq C 425 (by decide) dL_law_420 (fun _ => ?_) (fun h => absurd (by rw [hval h0]; exact lg_cmp_self _) h)
    refine k_goto C 991 (by decide) dL_law_425 ?_
    refine k_sub [2, 3, 4, 5, 6] rfl ?_
    exact k_widen (by omega) (by omega) (kk _ _ _ d0 hd0 hR1)
  · refine k_if_ne C 425 (by decide) dL_law_410 (fun _ => ?_) (fun h => absurd h (kK_ne h0 (by decide) (by decide) (by decide)))
    refine k_goto C 991 (by decide) dL_law_425 ?_
    refine k_sub [2, 3, 4, 5, 6] rfl ?_
    exact k_widen (by omega) (by omega) (kk _ _ _ d0 hd0 hR1)
set_option maxHeartbeats 4000000 in
set_option maxRecDepth 100000 in
theorem lw_match {p : Program} {e : Env} {s : State} {m : MethodId} {below : List Frame} {meth : Method} {c : Code} {D : va_G} {cI cJ : ClassId} (l : Launch) (hl : l.stackTraces = false) {b L : Nat} {xs : Nat → Int32} (hX : va_X b L xs s s.heap) (hbl : b < s.heap.size) (C0 : kCx p s m #[Value.ref b] meth c RL cL_law 9 ret D cI cJ (fun q => s.heap.size ≤ q)) (T0 : kTE (fun q => s.heap.size ≤ q) s s.heap) (a0 a1 a2 a3 a4 a5 a6 o : Nat) (b0 b1 b2 b3 b4 b5 b6 : Nat) {i0 : Nat} (hi : i0 < 512) {x4 : Int32} {p1 : Int32} (hv1 : p1 = xs (x4 + 1).toNatClampNeg) (hin1 : vp_in (x4 + 1) L) (X : Co) (Y : Mo) (u : Int64) (d0 : Drawn) (hd0 : s.drawn.sameBut d0 lw_cs) (hR : Rel i0 X Y) (kk : (∀ (X : Co) (Y : Mo) (u : Int64) (d0 : Drawn), s.drawn.sameBut d0 lw_cs → Rel (i0 + 1) X Y → kW p l e room_1 (s.setDrawn d0) m #[Value.ref b] below meth c D (fun q => s.heap.size ≤ q) 9 (15 + (i0 + 1)) (112 + 6 * (i0 + 1)) (lw_Z below #[Value.ref b] s) (wC a0 a1 a2 a3 a4 a5 a6 X ++ (wM cI b0 b1 b2 b3 b4 b5 b6 Y ++ [(o, cJ1 cJ u)])) 991 [(0, .ref b), (1, .ref a0), (2, .ref b0), (3, .ref o), (4, .int x4)] [])) : kW p l e room_1 (s.setDrawn d0) m #[Value.ref b] below meth c D (fun q => s.heap.size ≤ q) 9 (15 + i0) (112 + 6 * i0) (lw_Z below #[Value.ref b] s) (wC a0 a1 a2 a3 a4 a5 a6 X ++ (wM cI b0 b1 b2 b3 b4 b5 b6 Y ++ [(o, cJ1 cJ u)])) 428 [(0, .ref b), (1, .ref a0), (2, .ref b0), (3, .ref o), (4, .int x4)] [] := by
  have C := C0.dr d0
  have T := T0.dr d0
  have hbA : ¬ (fun q : Nat => s.heap.size ≤ q) b := Nat.not_le.mpr hbl
  obtain ⟨hk, hval, hR1⟩ := pr_match (p0 := p1) hi hR
  generalize eS : (xX2_match p1 X) = S at hk hval hR1
  refine k_aload_n C dL_law_428 1 rfl ?_
  refine k_aload_n C dL_law_429 0 rfl ?_
  refine k_iload C dL_law_430 4 rfl ?_
  refine k_iconst C 1 (by decide) dL_law_432 ?_
  refine k_iadd C dL_law_433 ?_
  refine k_sld C0 hX hbl hbA hin1 p1 hv1 dL_law_434 ?_
  refine k_aload_n C dL_law_435 3 rfl ?_
  refine k_callH C T (mL_match l hl D cI cJ a0 a1 a2 a3 a4 a5 a6 o p1 u X) (vx_cwSW 3 C.2.2.2.2.1 (kGS q497 q498 q57 q499) rfl rfl rfl hdL_match ⟨Nat.le_of_ble_eq_true rfl, Nat.le_of_ble_eq_true rfl⟩) [0, 1, 2, 3, 4, 5, 6, 14] [7, 8, 9, 10, 11, 12, 13] [7, 8, 9, 10, 11, 12, 13, 0, 1, 2, 3, 4, 5, 6, 14] (wM cI b0 b1 b2 b3 b4 b5 b6 Y) (wC a0 a1 a2 a3 a4 a5 a6 (if (xX2_match p1 X).1 = 0 then (xX2_match p1 X).2.2 else X) ++ (wM cI b0 b1 b2 b3 b4 b5 b6 Y ++ [(o, cJ1 cJ (if (xX2_match p1 X).1 = 0 then (xX2_match p1 X).2.1.toInt64 else u))])) rfl rfl rfl rfl (by decide) [a0, a1, a2, a3, a4, a5, a6, o] rfl rfl rfl rfl (Nat.le_of_ble_eq_true rfl) ⟨by show 15 + i0 + 1 ≤ 1056; omega, by show 112 + 6 * i0 + 6 ≤ 8406; omega⟩ rfl dL_law_436 ?_
  rw [eS]
  refine k_istore C [(5, .int (kK S.1 9 9 1)), (0, .ref b), (1, .ref a0), (2, .ref b0), (3, .ref o), (4, .int x4)] (by decide) rfl dL_law_439 ?_
  refine k_aload_n C dL_law_441 3 rfl ?_
  refine k_aload_n C dL_law_442 1 rfl ?_
  refine k_iload C dL_law_443 5 rfl ?_
  refine k_iconst C 1 (by decide) dL_law_445 ?_
  refine k_iadd C dL_law_446 ?_
  refine k_sld C0 hX hbl hbA hin1 p1 hv1 dL_law_447 ?_
  refine k_callV_i C (mX3_match l D cI cJ b0 b1 b2 b3 b4 b5 b6 p1 Y) (cwV 1 C.2.2.2.2.1 (kGV q735 q736 q737 q61 q738) rfl rfl rfl ⟨rfl, hdX3_match⟩ ⟨Nat.le_of_ble_eq_true rfl, Nat.le_of_ble_eq_true rfl⟩) [7, 8, 9, 10, 11, 12, 13] [0, 1, 2, 3, 4, 5, 6, 14] [0, 1, 2, 3, 4, 5, 6, 8, 9, 10, 11, 12, 13, 14, 7] (wC a0 a1 a2 a3 a4 a5 a6 (if S.1 = 0 then S.2.2 else X) ++ [(o, cJ1 cJ (if S.1 = 0 then S.2.1.toInt64 else u))]) (wC a0 a1 a2 a3 a4 a5 a6 (if S.1 = 0 then S.2.2 else X) ++ (wM cI b0 b1 b2 b3 b4 b5 b6 (fX3_match p1 Y).2 ++ [(o, cJ1 cJ (if S.1 = 0 then S.2.1.toInt64 else u))])) rfl rfl rfl rfl (by decide) [b0, b1, b2, b3, b4, b5, b6] rfl rfl rfl rfl 7 3 rfl rfl rfl (Nat.le_of_ble_eq_true rfl) ⟨by show 15 + i0 + 1 ≤ 1056; omega, by show 112 + 6 * i0 + 6 ≤ 8406; omega⟩ rfl dL_law_448 ?_
  generalize eT : (fX3_match p1 Y) = T9 at hk hval hR1 ⊢
  refine k_istore C [(6, .int T9.1), (5, .int (kK S.1 9 9 1)), (0, .ref b), (1, .ref a0), (2, .ref b0), (3, .ref o), (4, .int x4)] (by decide) rfl dL_law_451 ?_
  refine k_aload_n C dL_law_453 4 rfl ?_
  refine k_callV_i C (mX3_thrown l D cI cJ b0 b1 b2 b3 b4 b5 b6 T9.2) (cwV 0 C.2.2.2.2.1 (kGV q626 q627 q628 q61 q629) rfl rfl rfl ⟨rfl, hdX3_thrown⟩ ⟨Nat.le_of_ble_eq_true rfl, Nat.le_of_ble_eq_true rfl⟩) [7, 8, 9, 10, 11, 12, 13] [0, 1, 2, 3, 4, 5, 6, 14] [0, 1, 2, 3, 4, 5, 6, 8, 9, 10, 11, 12, 13, 14, 7] (wC a0 a1 a2 a3 a4 a5 a6 (if S.1 = 0 then S.2.2 else X) ++ [(o, cJ1 cJ (if S.1 = 0 then S.2.1.toInt64 else u))]) (wC a0 a1 a2 a3 a4 a5 a6 (if S.1 = 0 then S.2.2 else X) ++ (wM cI b0 b1 b2 b3 b4 b5 b6 T9.2 ++ [(o, cJ1 cJ (if S.1 = 0 then S.2.1.toInt64 else u))])) rfl rfl rfl rfl (by decide) [b0, b1, b2, b3, b4, b5, b6] rfl rfl rfl rfl 7 3 rfl rfl rfl (Nat.le_of_ble_eq_true rfl) ⟨by show 15 + i0 + 1 ≤ 1056; omega, by show 112 + 6 * i0 + 6 ≤ 8406; omega⟩ rfl dL_law_454 ?_
  rw [show fX3_thrown T9.2 = kK S.1 9 9 1 from hk]
  refine k_iload C dL_law_457 1 rfl ?_
  refine k_icmp_eq C 464 (by decide) dL_law_459 (fun _ => ?_) (fun h => absurd rfl h)
  refine k_iload C dL_law_464 1 rfl ?_
  by_cases h0 : S.1 = 0
  · refine k_if_ne C 481 (by decide) dL_law_466 (fun h => absurd (by rw [h0]; decide) h) (fun _ => ?_)
    refine k_aload_n C dL_law_469 5 rfl ?_
    refine k_iconst C 0 (by decide) dL_law_470 ?_
    refine k_lald (v := S.2.1.toInt64) C 14 rfl vi1_0 (by rw [if_pos h0]; exact aJ_l _) dL_law_471 ?_
    refine k_iload C dL_law_472 0 rfl ?_
    refine k_i2l C dL_law_474 ?_
    refine k_lcmp C dL_law_475 ?_
    refine k_if_eq C 481 (by decide) dL_law_476 (fun _ => ?_) (fun h => absurd (by rw [hval h0]; exact lg_cmp_self _) h)
    refine k_goto C 991 (by decide) dL_law_481 ?_
    refine k_sub [2, 3, 4, 5, 6] rfl ?_
    exact k_widen (by omega) (by omega) (kk _ _ _ d0 hd0 hR1)
  · refine k_if_ne C 481 (by decide) dL_law_466 (fun _ => ?_) (fun h => absurd h (kK_ne h0 (by decide) (by decide) (by decide)))
    refine k_goto C 991 (by decide) dL_law_481 ?_
    refine k_sub [2, 3, 4, 5, 6] rfl ?_
    exact k_widen (by omega) (by omega) (kk _ _ _ d0 hd0 hR1)
set_option maxHeartbeats 4000000 in
set_option maxRecDepth 100000 in
theorem lw_ball {p : Program} {e : Env} {s : State} {m : MethodId} {below : List Frame} {meth : Method} {c : Code} {D : va_G} {cI cJ : ClassId} (l : Launch) (hl : l.stackTraces = false) {b L : Nat} {xs : Nat → Int32} (hX : va_X b L xs s s.heap) (hbl : b < s.heap.size) (C0 : kCx p s m #[Value.ref b] meth c RL cL_law 9 ret D cI cJ (fun q => s.heap.size ≤ q)) (T0 : kTE (fun q => s.heap.size ≤ q) s s.heap) (a0 a1 a2 a3 a4 a5 a6 o : Nat) (b0 b1 b2 b3 b4 b5 b6 : Nat) {i0 : Nat} (hi : i0 < 512) {x4 : Int32} {p1 : Int32} (hv1 : p1 = xs (x4 + 1).toNatClampNeg) (hin1 : vp_in (x4 + 1) L) (X : Co) (Y : Mo) (u : Int64) (d0 : Drawn) (hd0 : s.drawn.sameBut d0 lw_cs) (hR : Rel i0 X Y) (kk : (∀ (X : Co) (Y : Mo) (u : Int64) (d0 : Drawn), s.drawn.sameBut d0 lw_cs → Rel (i0 + 1) X Y → kW p l e room_1 (s.setDrawn d0) m #[Value.ref b] below meth c D (fun q => s.heap.size ≤ q) 9 (15 + (i0 + 1)) (112 + 6 * (i0 + 1)) (lw_Z below #[Value.ref b] s) (wC a0 a1 a2 a3 a4 a5 a6 X ++ (wM cI b0 b1 b2 b3 b4 b5 b6 Y ++ [(o, cJ1 cJ u)])) 991 [(0, .ref b), (1, .ref a0), (2, .ref b0), (3, .ref o), (4, .int x4)] [])) : kW p l e room_1 (s.setDrawn d0) m #[Value.ref b] below meth c D (fun q => s.heap.size ≤ q) 9 (15 + i0) (112 + 6 * i0) (lw_Z below #[Value.ref b] s) (wC a0 a1 a2 a3 a4 a5 a6 X ++ (wM cI b0 b1 b2 b3 b4 b5 b6 Y ++ [(o, cJ1 cJ u)])) 484 [(0, .ref b), (1, .ref a0), (2, .ref b0), (3, .ref o), (4, .int x4)] [] := by
  have C := C0.dr d0
  have T := T0.dr d0
  have hbA : ¬ (fun q : Nat => s.heap.size ≤ q) b := Nat.not_le.mpr hbl
  obtain ⟨hk, hval, hR1⟩ := pr_ball (p0 := p1) hi hR
  generalize eS : (gX2_ball p1 X) = S at hk hval hR1
  refine k_aload_n C dL_law_484 1 rfl ?_
  refine k_aload_n C dL_law_485 0 rfl ?_
  refine k_iload C dL_law_486 4 rfl ?_
  refine k_iconst C 1 (by decide) dL_law_488 ?_
  refine k_iadd C dL_law_489 ?_
  refine k_sld C0 hX hbl hbA hin1 p1 hv1 dL_law_490 ?_
  refine k_aload_n C dL_law_491 3 rfl ?_
  refine k_callH C T (mL_ball l hl D cI cJ a0 a1 a2 a3 a4 a5 a6 o p1 u X) (vx_cwSW 3 C.2.2.2.2.1 (kGS q510 q511 q57 q512) rfl rfl rfl hdL_ball ⟨Nat.le_of_ble_eq_true rfl, Nat.le_of_ble_eq_true rfl⟩) [0, 1, 2, 3, 4, 5, 6, 14] [7, 8, 9, 10, 11, 12, 13] [7, 8, 9, 10, 11, 12, 13, 0, 1, 2, 3, 4, 5, 6, 14] (wM cI b0 b1 b2 b3 b4 b5 b6 Y) (wC a0 a1 a2 a3 a4 a5 a6 (if (gX2_ball p1 X).1 = 0 then (gX2_ball p1 X).2.2 else X) ++ (wM cI b0 b1 b2 b3 b4 b5 b6 Y ++ [(o, cJ1 cJ (if (gX2_ball p1 X).1 = 0 then (gX2_ball p1 X).2.1.toInt64 else u))])) rfl rfl rfl rfl (by decide) [a0, a1, a2, a3, a4, a5, a6, o] rfl rfl rfl rfl (Nat.le_of_ble_eq_true rfl) ⟨by show 15 + i0 + 1 ≤ 1056; omega, by show 112 + 6 * i0 + 6 ≤ 8406; omega⟩ rfl dL_law_492 ?_
  rw [eS]
  refine k_istore C [(5, .int (kK S.1 9 9 1)), (0, .ref b), (1, .ref a0), (2, .ref b0), (3, .ref o), (4, .int x4)] (by decide) rfl dL_law_495 ?_
  refine k_aload_n C dL_law_497 3 rfl ?_
  refine k_aload_n C dL_law_498 1 rfl ?_
  refine k_iload C dL_law_499 5 rfl ?_
  refine k_iconst C 1 (by decide) dL_law_501 ?_
  refine k_iadd C dL_law_502 ?_
  refine k_sld C0 hX hbl hbA hin1 p1 hv1 dL_law_503 ?_
  refine k_callV_i C (y_X3_ball l D cI cJ b0 b1 b2 b3 b4 b5 b6 p1 Y) (cwV 1 C.2.2.2.2.1 (kGV q739 q740 q741 q61 q742) rfl rfl rfl ⟨rfl, hdX3_ball⟩ ⟨Nat.le_of_ble_eq_true rfl, Nat.le_of_ble_eq_true rfl⟩) [7, 8, 9, 10, 11, 12, 13] [0, 1, 2, 3, 4, 5, 6, 14] [0, 1, 2, 3, 4, 5, 6, 8, 9, 10, 11, 12, 13, 14, 7] (wC a0 a1 a2 a3 a4 a5 a6 (if S.1 = 0 then S.2.2 else X) ++ [(o, cJ1 cJ (if S.1 = 0 then S.2.1.toInt64 else u))]) (wC a0 a1 a2 a3 a4 a5 a6 (if S.1 = 0 then S.2.2 else X) ++ (wM cI b0 b1 b2 b3 b4 b5 b6 (gX3_ball p1 Y).2 ++ [(o, cJ1 cJ (if S.1 = 0 then S.2.1.toInt64 else u))])) rfl rfl rfl rfl (by decide) [b0, b1, b2, b3, b4, b5, b6] rfl rfl rfl rfl 7 3 rfl rfl rfl (Nat.le_of_ble_eq_true rfl) ⟨by show 15 + i0 + 1 ≤ 1056; omega, by show 112 + 6 * i0 + 6 ≤ 8406; omega⟩ rfl dL_law_504 ?_
  generalize eT : (gX3_ball p1 Y) = T9 at hk hval hR1 ⊢
  refine k_istore C [(6, .int T9.1), (5, .int (kK S.1 9 9 1)), (0, .ref b), (1, .ref a0), (2, .ref b0), (3, .ref o), (4, .int x4)] (by decide) rfl dL_law_507 ?_
  refine k_aload_n C dL_law_509 4 rfl ?_
  refine k_callV_i C (mX3_thrown l D cI cJ b0 b1 b2 b3 b4 b5 b6 T9.2) (cwV 0 C.2.2.2.2.1 (kGV q626 q627 q628 q61 q629) rfl rfl rfl ⟨rfl, hdX3_thrown⟩ ⟨Nat.le_of_ble_eq_true rfl, Nat.le_of_ble_eq_true rfl⟩) [7, 8, 9, 10, 11, 12, 13] [0, 1, 2, 3, 4, 5, 6, 14] [0, 1, 2, 3, 4, 5, 6, 8, 9, 10, 11, 12, 13, 14, 7] (wC a0 a1 a2 a3 a4 a5 a6 (if S.1 = 0 then S.2.2 else X) ++ [(o, cJ1 cJ (if S.1 = 0 then S.2.1.toInt64 else u))]) (wC a0 a1 a2 a3 a4 a5 a6 (if S.1 = 0 then S.2.2 else X) ++ (wM cI b0 b1 b2 b3 b4 b5 b6 T9.2 ++ [(o, cJ1 cJ (if S.1 = 0 then S.2.1.toInt64 else u))])) rfl rfl rfl rfl (by decide) [b0, b1, b2, b3, b4, b5, b6] rfl rfl rfl rfl 7 3 rfl rfl rfl (Nat.le_of_ble_eq_true rfl) ⟨by show 15 + i0 + 1 ≤ 1056; omega, by show 112 + 6 * i0 + 6 ≤ 8406; omega⟩ rfl dL_law_510 ?_
  rw [show fX3_thrown T9.2 = kK S.1 9 9 1 from hk]
  refine k_iload C dL_law_513 1 rfl ?_
  refine k_icmp_eq C 520 (by decide) dL_law_515 (fun _ => ?_) (fun h => absurd rfl h)
  refine k_iload C dL_law_520 1 rfl ?_
  by_cases h0 : S.1 = 0
  · refine k_if_ne C 537 (by decide) dL_law_522 (fun h => absurd (by rw [h0]; decide) h) (fun _ => ?_)
    refine k_aload_n C dL_law_525 5 rfl ?_
    refine k_iconst C 0 (by decide) dL_law_526 ?_
    refine k_lald (v := S.2.1.toInt64) C 14 rfl vi1_0 (by rw [if_pos h0]; exact aJ_l _) dL_law_527 ?_
    refine k_iload C dL_law_528 0 rfl ?_
    refine k_i2l C dL_law_530 ?_
    refine k_lcmp C dL_law_531 ?_
    refine k_if_eq C 537 (by decide) dL_law_532 (fun _ => ?_) (fun h => absurd (by rw [hval h0]; exact lg_cmp_self _) h)
    refine k_goto C 991 (by decide) dL_law_537 ?_
    refine k_sub [2, 3, 4, 5, 6] rfl ?_
    exact k_widen (by omega) (by omega) (kk _ _ _ d0 hd0 hR1)
  · refine k_if_ne C 537 (by decide) dL_law_522 (fun _ => ?_) (fun h => absurd h (kK_ne h0 (by decide) (by decide) (by decide)))
    refine k_goto C 991 (by decide) dL_law_537 ?_
    refine k_sub [2, 3, 4, 5, 6] rfl ?_
    exact k_widen (by omega) (by omega) (kk _ _ _ d0 hd0 hR1)
set_option maxHeartbeats 4000000 in
set_option maxRecDepth 100000 in
theorem lw_told {p : Program} {e : Env} {s : State} {m : MethodId} {below : List Frame} {meth : Method} {c : Code} {D : va_G} {cI cJ : ClassId} (l : Launch) (hl : l.stackTraces = false) {b L : Nat} {xs : Nat → Int32} (hX : va_X b L xs s s.heap) (hbl : b < s.heap.size) (C0 : kCx p s m #[Value.ref b] meth c RL cL_law 9 ret D cI cJ (fun q => s.heap.size ≤ q)) (T0 : kTE (fun q => s.heap.size ≤ q) s s.heap) (a0 a1 a2 a3 a4 a5 a6 o : Nat) (b0 b1 b2 b3 b4 b5 b6 : Nat) {i0 : Nat} (hi : i0 < 512) {x4 : Int32} {p1 : Int32} (hv1 : p1 = xs (x4 + 1).toNatClampNeg) (hin1 : vp_in (x4 + 1) L) {p2 : Int32} (hv2 : p2 = xs (x4 + 2).toNatClampNeg) (hin2 : vp_in (x4 + 2) L) (X : Co) (Y : Mo) (u : Int64) (d0 : Drawn) (hd0 : s.drawn.sameBut d0 lw_cs) (hR : Rel i0 X Y) (kk : (∀ (X : Co) (Y : Mo) (u : Int64) (d0 : Drawn), s.drawn.sameBut d0 lw_cs → Rel (i0 + 1) X Y → kW p l e room_1 (s.setDrawn d0) m #[Value.ref b] below meth c D (fun q => s.heap.size ≤ q) 9 (15 + (i0 + 1)) (112 + 6 * (i0 + 1)) (lw_Z below #[Value.ref b] s) (wC a0 a1 a2 a3 a4 a5 a6 X ++ (wM cI b0 b1 b2 b3 b4 b5 b6 Y ++ [(o, cJ1 cJ u)])) 991 [(0, .ref b), (1, .ref a0), (2, .ref b0), (3, .ref o), (4, .int x4)] [])) : kW p l e room_1 (s.setDrawn d0) m #[Value.ref b] below meth c D (fun q => s.heap.size ≤ q) 9 (15 + i0) (112 + 6 * i0) (lw_Z below #[Value.ref b] s) (wC a0 a1 a2 a3 a4 a5 a6 X ++ (wM cI b0 b1 b2 b3 b4 b5 b6 Y ++ [(o, cJ1 cJ u)])) 540 [(0, .ref b), (1, .ref a0), (2, .ref b0), (3, .ref o), (4, .int x4)] [] := by
  have C := C0.dr d0
  have T := T0.dr d0
  have hbA : ¬ (fun q : Nat => s.heap.size ≤ q) b := Nat.not_le.mpr hbl
  obtain ⟨hk, hval, hR1⟩ := pr_told (p0 := p1) (p1 := p2) hi hR
  generalize eS : (gX2_told p1 p2 X) = S at hk hval hR1
  refine k_aload_n C dL_law_540 1 rfl ?_
  refine k_aload_n C dL_law_541 0 rfl ?_
  refine k_iload C dL_law_542 4 rfl ?_
  refine k_iconst C 1 (by decide) dL_law_544 ?_
  refine k_iadd C dL_law_545 ?_
  refine k_sld C0 hX hbl hbA hin1 p1 hv1 dL_law_546 ?_
  refine k_aload_n C dL_law_547 0 rfl ?_
  refine k_iload C dL_law_548 4 rfl ?_
  refine k_iconst C 2 (by decide) dL_law_550 ?_
  refine k_iadd C dL_law_551 ?_
  refine k_sld C0 hX hbl hbA hin2 p2 hv2 dL_law_552 ?_
  refine k_aload_n C dL_law_553 3 rfl ?_
  refine k_callH C T (mL_told l hl D cI cJ a0 a1 a2 a3 a4 a5 a6 o p1 p2 u X) (vx_cwSW 4 C.2.2.2.2.1 (kGS q514 q515 q57 q516) rfl rfl rfl hdL_told ⟨Nat.le_of_ble_eq_true rfl, Nat.le_of_ble_eq_true rfl⟩) [0, 1, 2, 3, 4, 5, 6, 14] [7, 8, 9, 10, 11, 12, 13] [7, 8, 9, 10, 11, 12, 13, 0, 1, 2, 3, 4, 5, 6, 14] (wM cI b0 b1 b2 b3 b4 b5 b6 Y) (wC a0 a1 a2 a3 a4 a5 a6 (if (gX2_told p1 p2 X).1 = 0 then (gX2_told p1 p2 X).2.2 else X) ++ (wM cI b0 b1 b2 b3 b4 b5 b6 Y ++ [(o, cJ1 cJ (if (gX2_told p1 p2 X).1 = 0 then (gX2_told p1 p2 X).2.1.toInt64 else u))])) rfl rfl rfl rfl (by decide) [a0, a1, a2, a3, a4, a5, a6, o] rfl rfl rfl rfl (Nat.le_of_ble_eq_true rfl) ⟨by show 15 + i0 + 1 ≤ 1056; omega, by show 112 + 6 * i0 + 6 ≤ 8406; omega⟩ rfl dL_law_554 ?_
  rw [eS]
  refine k_istore C [(5, .int (kK S.1 9 9 1)), (0, .ref b), (1, .ref a0), (2, .ref b0), (3, .ref o), (4, .int x4)] (by decide) rfl dL_law_557 ?_
  refine k_aload_n C dL_law_559 3 rfl ?_
  refine k_aload_n C dL_law_560 1 rfl ?_
  refine k_iload C dL_law_561 5 rfl ?_
  refine k_iconst C 1 (by decide) dL_law_563 ?_
  refine k_iadd C dL_law_564 ?_
  refine k_sld C0 hX hbl hbA hin1 p1 hv1 dL_law_565 ?_
  refine k_aload_n C dL_law_566 1 rfl ?_
  refine k_iload C dL_law_567 5 rfl ?_
  refine k_iconst C 2 (by decide) dL_law_569 ?_
  refine k_iadd C dL_law_570 ?_
  refine k_sld C0 hX hbl hbA hin2 p2 hv2 dL_law_571 ?_
  refine k_callV_i C (y_X3_told l D cI cJ b0 b1 b2 b3 b4 b5 b6 p1 p2 Y) (cwV 2 C.2.2.2.2.1 (kGV q747 q748 q749 q61 q750) rfl rfl rfl ⟨rfl, hdX3_told⟩ ⟨Nat.le_of_ble_eq_true rfl, Nat.le_of_ble_eq_true rfl⟩) [7, 8, 9, 10, 11, 12, 13] [0, 1, 2, 3, 4, 5, 6, 14] [0, 1, 2, 3, 4, 5, 6, 8, 9, 10, 11, 12, 13, 14, 7] (wC a0 a1 a2 a3 a4 a5 a6 (if S.1 = 0 then S.2.2 else X) ++ [(o, cJ1 cJ (if S.1 = 0 then S.2.1.toInt64 else u))]) (wC a0 a1 a2 a3 a4 a5 a6 (if S.1 = 0 then S.2.2 else X) ++ (wM cI b0 b1 b2 b3 b4 b5 b6 (gX3_told p1 p2 Y).2 ++ [(o, cJ1 cJ (if S.1 = 0 then S.2.1.toInt64 else u))])) rfl rfl rfl rfl (by decide) [b0, b1, b2, b3, b4, b5, b6] rfl rfl rfl rfl 7 3 rfl rfl rfl (Nat.le_of_ble_eq_true rfl) ⟨by show 15 + i0 + 1 ≤ 1056; omega, by show 112 + 6 * i0 + 6 ≤ 8406; omega⟩ rfl dL_law_572 ?_
  generalize eT : (gX3_told p1 p2 Y) = T9 at hk hval hR1 ⊢
  refine k_istore C [(6, .int T9.1), (5, .int (kK S.1 9 9 1)), (0, .ref b), (1, .ref a0), (2, .ref b0), (3, .ref o), (4, .int x4)] (by decide) rfl dL_law_575 ?_
  refine k_aload_n C dL_law_577 4 rfl ?_
  refine k_callV_i C (mX3_thrown l D cI cJ b0 b1 b2 b3 b4 b5 b6 T9.2) (cwV 0 C.2.2.2.2.1 (kGV q626 q627 q628 q61 q629) rfl rfl rfl ⟨rfl, hdX3_thrown⟩ ⟨Nat.le_of_ble_eq_true rfl, Nat.le_of_ble_eq_true rfl⟩) [7, 8, 9, 10, 11, 12, 13] [0, 1, 2, 3, 4, 5, 6, 14] [0, 1, 2, 3, 4, 5, 6, 8, 9, 10, 11, 12, 13, 14, 7] (wC a0 a1 a2 a3 a4 a5 a6 (if S.1 = 0 then S.2.2 else X) ++ [(o, cJ1 cJ (if S.1 = 0 then S.2.1.toInt64 else u))]) (wC a0 a1 a2 a3 a4 a5 a6 (if S.1 = 0 then S.2.2 else X) ++ (wM cI b0 b1 b2 b3 b4 b5 b6 T9.2 ++ [(o, cJ1 cJ (if S.1 = 0 then S.2.1.toInt64 else u))])) rfl rfl rfl rfl (by decide) [b0, b1, b2, b3, b4, b5, b6] rfl rfl rfl rfl 7 3 rfl rfl rfl (Nat.le_of_ble_eq_true rfl) ⟨by show 15 + i0 + 1 ≤ 1056; omega, by show 112 + 6 * i0 + 6 ≤ 8406; omega⟩ rfl dL_law_578 ?_
  rw [show fX3_thrown T9.2 = kK S.1 9 9 1 from hk]
  refine k_iload C dL_law_581 1 rfl ?_
  refine k_icmp_eq C 588 (by decide) dL_law_583 (fun _ => ?_) (fun h => absurd rfl h)
  refine k_iload C dL_law_588 1 rfl ?_
  by_cases h0 : S.1 = 0
  · refine k_if_ne C 605 (by decide) dL_law_590 (fun h => absurd (by rw [h0]; decide) h) (fun _ => ?_)
    refine k_aload_n C dL_law_593 5 rfl ?_
    refine k_iconst C 0 (by decide) dL_law_594 ?_
    refine k_lald (v := S.2.1.toInt64) C 14 rfl vi1_0 (by rw [if_pos h0]; exact aJ_l _) dL_law_595 ?_
    refine k_iload C dL_law_596 0 rfl ?_
    refine k_i2l C dL_law_598 ?_
    refine k_lcmp C dL_law_599 ?_
    refine k_if_eq C 605 (by decide) dL_law_600 (fun _ => ?_) (fun h => absurd (by rw [hval h0]; exact lg_cmp_self _) h)
    refine k_goto C 991 (by decide) dL_law_605 ?_
    refine k_sub [2, 3, 4, 5, 6] rfl ?_
    exact k_widen (by omega) (by omega) (kk _ _ _ d0 hd0 hR1)
  · refine k_if_ne C 605 (by decide) dL_law_590 (fun _ => ?_) (fun h => absurd h (kK_ne h0 (by decide) (by decide) (by decide)))
    refine k_goto C 991 (by decide) dL_law_605 ?_
    refine k_sub [2, 3, 4, 5, 6] rfl ?_
    exact k_widen (by omega) (by omega) (kk _ _ _ d0 hd0 hR1)
set_option maxHeartbeats 4000000 in
set_option maxRecDepth 100000 in
theorem lw_count {p : Program} {e : Env} {s : State} {m : MethodId} {below : List Frame} {meth : Method} {c : Code} {D : va_G} {cI cJ : ClassId} (l : Launch) (hl : l.stackTraces = false) {b L : Nat} {xs : Nat → Int32} (hX : va_X b L xs s s.heap) (hbl : b < s.heap.size) (C0 : kCx p s m #[Value.ref b] meth c RL cL_law 9 ret D cI cJ (fun q => s.heap.size ≤ q)) (T0 : kTE (fun q => s.heap.size ≤ q) s s.heap) (a0 a1 a2 a3 a4 a5 a6 o : Nat) (b0 b1 b2 b3 b4 b5 b6 : Nat) {i0 : Nat} (hi : i0 < 512) {x4 : Int32} {p1 : Int32} (hv1 : p1 = xs (x4 + 1).toNatClampNeg) (hin1 : vp_in (x4 + 1) L) (X : Co) (Y : Mo) (u : Int64) (d0 : Drawn) (hd0 : s.drawn.sameBut d0 lw_cs) (hR : Rel i0 X Y) (kk : (∀ (X : Co) (Y : Mo) (u : Int64) (d0 : Drawn), s.drawn.sameBut d0 lw_cs → Rel (i0 + 1) X Y → kW p l e room_1 (s.setDrawn d0) m #[Value.ref b] below meth c D (fun q => s.heap.size ≤ q) 9 (15 + (i0 + 1)) (112 + 6 * (i0 + 1)) (lw_Z below #[Value.ref b] s) (wC a0 a1 a2 a3 a4 a5 a6 X ++ (wM cI b0 b1 b2 b3 b4 b5 b6 Y ++ [(o, cJ1 cJ u)])) 991 [(0, .ref b), (1, .ref a0), (2, .ref b0), (3, .ref o), (4, .int x4)] [])) : kW p l e room_1 (s.setDrawn d0) m #[Value.ref b] below meth c D (fun q => s.heap.size ≤ q) 9 (15 + i0) (112 + 6 * i0) (lw_Z below #[Value.ref b] s) (wC a0 a1 a2 a3 a4 a5 a6 X ++ (wM cI b0 b1 b2 b3 b4 b5 b6 Y ++ [(o, cJ1 cJ u)])) 608 [(0, .ref b), (1, .ref a0), (2, .ref b0), (3, .ref o), (4, .int x4)] [] := by
  have C := C0.dr d0
  have T := T0.dr d0
  have hbA : ¬ (fun q : Nat => s.heap.size ≤ q) b := Nat.not_le.mpr hbl
  obtain ⟨hk, hval, hR1⟩ := pr_count (p0 := p1) hi hR
  generalize eS : (gX2_count p1 X) = S at hk hval hR1
  refine k_aload_n C dL_law_608 1 rfl ?_
  refine k_aload_n C dL_law_609 0 rfl ?_
  refine k_iload C dL_law_610 4 rfl ?_
  refine k_iconst C 1 (by decide) dL_law_612 ?_
  refine k_iadd C dL_law_613 ?_
  refine k_sld C0 hX hbl hbA hin1 p1 hv1 dL_law_614 ?_
  refine k_aload_n C dL_law_615 3 rfl ?_
  refine k_callH C T (mL_count l hl D cI cJ a0 a1 a2 a3 a4 a5 a6 o p1 u X) (vx_cwSW 3 C.2.2.2.2.1 (kGS q518 q519 q57 q520) rfl rfl rfl hdL_count ⟨Nat.le_of_ble_eq_true rfl, Nat.le_of_ble_eq_true rfl⟩) [0, 1, 2, 3, 4, 5, 6, 14] [7, 8, 9, 10, 11, 12, 13] [7, 8, 9, 10, 11, 12, 13, 0, 1, 2, 3, 4, 5, 6, 14] (wM cI b0 b1 b2 b3 b4 b5 b6 Y) (wC a0 a1 a2 a3 a4 a5 a6 (if (gX2_count p1 X).1 = 0 then (gX2_count p1 X).2.2 else X) ++ (wM cI b0 b1 b2 b3 b4 b5 b6 Y ++ [(o, cJ1 cJ (if (gX2_count p1 X).1 = 0 then (gX2_count p1 X).2.1.toInt64 else u))])) rfl rfl rfl rfl (by decide) [a0, a1, a2, a3, a4, a5, a6, o] rfl rfl rfl rfl (Nat.le_of_ble_eq_true rfl) ⟨by show 15 + i0 + 1 ≤ 1056; omega, by show 112 + 6 * i0 + 6 ≤ 8406; omega⟩ rfl dL_law_616 ?_
  rw [eS]
  refine k_istore C [(5, .int (kK S.1 9 9 1)), (0, .ref b), (1, .ref a0), (2, .ref b0), (3, .ref o), (4, .int x4)] (by decide) rfl dL_law_619 ?_
  refine k_aload_n C dL_law_621 3 rfl ?_
  refine k_aload_n C dL_law_622 1 rfl ?_
  refine k_iload C dL_law_623 5 rfl ?_
  refine k_iconst C 1 (by decide) dL_law_625 ?_
  refine k_iadd C dL_law_626 ?_
  refine k_sld C0 hX hbl hbA hin1 p1 hv1 dL_law_627 ?_
  refine k_callV_i C (y_X3_count l D cI cJ b0 b1 b2 b3 b4 b5 b6 p1 Y) (cwV 1 C.2.2.2.2.1 (kGV q755 q756 q757 q61 q758) rfl rfl rfl ⟨rfl, hdX3_count⟩ ⟨Nat.le_of_ble_eq_true rfl, Nat.le_of_ble_eq_true rfl⟩) [7, 8, 9, 10, 11, 12, 13] [0, 1, 2, 3, 4, 5, 6, 14] [0, 1, 2, 3, 4, 5, 6, 8, 9, 10, 11, 12, 13, 14, 7] (wC a0 a1 a2 a3 a4 a5 a6 (if S.1 = 0 then S.2.2 else X) ++ [(o, cJ1 cJ (if S.1 = 0 then S.2.1.toInt64 else u))]) (wC a0 a1 a2 a3 a4 a5 a6 (if S.1 = 0 then S.2.2 else X) ++ (wM cI b0 b1 b2 b3 b4 b5 b6 (gX3_count p1 Y).2 ++ [(o, cJ1 cJ (if S.1 = 0 then S.2.1.toInt64 else u))])) rfl rfl rfl rfl (by decide) [b0, b1, b2, b3, b4, b5, b6] rfl rfl rfl rfl 7 3 rfl rfl rfl (Nat.le_of_ble_eq_true rfl) ⟨by show 15 + i0 + 1 ≤ 1056; omega, by show 112 + 6 * i0 + 6 ≤ 8406; omega⟩ rfl dL_law_628 ?_
  generalize eT : (gX3_count p1 Y) = T9 at hk hval hR1 ⊢
  refine k_istore C [(6, .int T9.1), (5, .int (kK S.1 9 9 1)), (0, .ref b), (1, .ref a0), (2, .ref b0), (3, .ref o), (4, .int x4)] (by decide) rfl dL_law_631 ?_
  refine k_aload_n C dL_law_633 4 rfl ?_
  refine k_callV_i C (mX3_thrown l D cI cJ b0 b1 b2 b3 b4 b5 b6 T9.2) (cwV 0 C.2.2.2.2.1 (kGV q626 q627 q628 q61 q629) rfl rfl rfl ⟨rfl, hdX3_thrown⟩ ⟨Nat.le_of_ble_eq_true rfl, Nat.le_of_ble_eq_true rfl⟩) [7, 8, 9, 10, 11, 12, 13] [0, 1, 2, 3, 4, 5, 6, 14] [0, 1, 2, 3, 4, 5, 6, 8, 9, 10, 11, 12, 13, 14, 7] (wC a0 a1 a2 a3 a4 a5 a6 (if S.1 = 0 then S.2.2 else X) ++ [(o, cJ1 cJ (if S.1 = 0 then S.2.1.toInt64 else u))]) (wC a0 a1 a2 a3 a4 a5 a6 (if S.1 = 0 then S.2.2 else X) ++ (wM cI b0 b1 b2 b3 b4 b5 b6 T9.2 ++ [(o, cJ1 cJ (if S.1 = 0 then S.2.1.toInt64 else u))])) rfl rfl rfl rfl (by decide) [b0, b1, b2, b3, b4, b5, b6] rfl rfl rfl rfl 7 3 rfl rfl rfl (Nat.le_of_ble_eq_true rfl) ⟨by show 15 + i0 + 1 ≤ 1056; omega, by show 112 + 6 * i0 + 6 ≤ 8406; omega⟩ rfl dL_law_634 ?_
  rw [show fX3_thrown T9.2 = kK S.1 9 9 1 from hk]
  refine k_iload C dL_law_637 1 rfl ?_
  refine k_icmp_eq C 644 (by decide) dL_law_639 (fun _ => ?_) (fun h => absurd rfl h)
  refine k_iload C dL_law_644 1 rfl ?_
  by_cases h0 : S.1 = 0
  · refine k_if_ne C 661 (by decide) dL_law_646 (fun h => absurd (by rw [h0]; decide) h) (fun _ => ?_)
    refine k_aload_n C dL_law_649 5 rfl ?_
    refine k_iconst C 0 (by decide) dL_law_650 ?_
    refine k_lald (v := S.2.1.toInt64) C 14 rfl vi1_0 (by rw [if_pos h0]; exact aJ_l _) dL_law_651 ?_
    refine k_iload C dL_law_652 0 rfl ?_
    refine k_i2l C dL_law_654 ?_
    refine k_lcmp C dL_law_655 ?_
    refine k_if_eq C 661 (by decide) dL_law_656 (fun _ => ?_) (fun h => absurd (by rw [hval h0]; exact lg_cmp_self _) h)
    refine k_goto C 991 (by decide) dL_law_661 ?_
    refine k_sub [2, 3, 4, 5, 6] rfl ?_
    exact k_widen (by omega) (by omega) (kk _ _ _ d0 hd0 hR1)
  · refine k_if_ne C 661 (by decide) dL_law_646 (fun _ => ?_) (fun h => absurd h (kK_ne h0 (by decide) (by decide) (by decide)))
    refine k_goto C 991 (by decide) dL_law_661 ?_
    refine k_sub [2, 3, 4, 5, 6] rfl ?_
    exact k_widen (by omega) (by omega) (kk _ _ _ d0 hd0 hR1)
set_option maxHeartbeats 4000000 in
set_option maxRecDepth 100000 in
theorem lw_flight {p : Program} {e : Env} {s : State} {m : MethodId} {below : List Frame} {meth : Method} {c : Code} {D : va_G} {cI cJ : ClassId} (l : Launch) (hl : l.stackTraces = false) {b L : Nat} {xs : Nat → Int32} (hX : va_X b L xs s s.heap) (hbl : b < s.heap.size) (C0 : kCx p s m #[Value.ref b] meth c RL cL_law 9 ret D cI cJ (fun q => s.heap.size ≤ q)) (T0 : kTE (fun q => s.heap.size ≤ q) s s.heap) (a0 a1 a2 a3 a4 a5 a6 o : Nat) (b0 b1 b2 b3 b4 b5 b6 : Nat) {i0 : Nat} (hi : i0 < 512) {x4 : Int32} {p1 : Int32} (hv1 : p1 = xs (x4 + 1).toNatClampNeg) (hin1 : vp_in (x4 + 1) L) {p2 : Int32} (hv2 : p2 = xs (x4 + 2).toNatClampNeg) (hin2 : vp_in (x4 + 2) L) (X : Co) (Y : Mo) (u : Int64) (d0 : Drawn) (hd0 : s.drawn.sameBut d0 lw_cs) (hR : Rel i0 X Y) (kk : (∀ (X : Co) (Y : Mo) (u : Int64) (d0 : Drawn), s.drawn.sameBut d0 lw_cs → Rel (i0 + 1) X Y → kW p l e room_1 (s.setDrawn d0) m #[Value.ref b] below meth c D (fun q => s.heap.size ≤ q) 9 (15 + (i0 + 1)) (112 + 6 * (i0 + 1)) (lw_Z below #[Value.ref b] s) (wC a0 a1 a2 a3 a4 a5 a6 X ++ (wM cI b0 b1 b2 b3 b4 b5 b6 Y ++ [(o, cJ1 cJ u)])) 991 [(0, .ref b), (1, .ref a0), (2, .ref b0), (3, .ref o), (4, .int x4)] [])) : kW p l e room_1 (s.setDrawn d0) m #[Value.ref b] below meth c D (fun q => s.heap.size ≤ q) 9 (15 + i0) (112 + 6 * i0) (lw_Z below #[Value.ref b] s) (wC a0 a1 a2 a3 a4 a5 a6 X ++ (wM cI b0 b1 b2 b3 b4 b5 b6 Y ++ [(o, cJ1 cJ u)])) 664 [(0, .ref b), (1, .ref a0), (2, .ref b0), (3, .ref o), (4, .int x4)] [] := by
  have C := C0.dr d0
  have T := T0.dr d0
  have hbA : ¬ (fun q : Nat => s.heap.size ≤ q) b := Nat.not_le.mpr hbl
  obtain ⟨hk, hval, hR1⟩ := pr_flight (p0 := p1) (p1 := p2) hi hR
  generalize eS : (gX2_flight p1 p2 X) = S at hk hval hR1
  refine k_aload_n C dL_law_664 1 rfl ?_
  refine k_aload_n C dL_law_665 0 rfl ?_
  refine k_iload C dL_law_666 4 rfl ?_
  refine k_iconst C 1 (by decide) dL_law_668 ?_
  refine k_iadd C dL_law_669 ?_
  refine k_sld C0 hX hbl hbA hin1 p1 hv1 dL_law_670 ?_
  refine k_aload_n C dL_law_671 0 rfl ?_
  refine k_iload C dL_law_672 4 rfl ?_
  refine k_iconst C 2 (by decide) dL_law_674 ?_
  refine k_iadd C dL_law_675 ?_
  refine k_sld C0 hX hbl hbA hin2 p2 hv2 dL_law_676 ?_
  refine k_aload_n C dL_law_677 3 rfl ?_
  refine k_callH C T (mL_flight l hl D cI cJ a0 a1 a2 a3 a4 a5 a6 o p1 p2 u X) (vx_cwSW 4 C.2.2.2.2.1 (kGS q522 q523 q57 q524) rfl rfl rfl hdL_flight ⟨Nat.le_of_ble_eq_true rfl, Nat.le_of_ble_eq_true rfl⟩) [0, 1, 2, 3, 4, 5, 6, 14] [7, 8, 9, 10, 11, 12, 13] [7, 8, 9, 10, 11, 12, 13, 0, 1, 2, 3, 4, 5, 6, 14] (wM cI b0 b1 b2 b3 b4 b5 b6 Y) (wC a0 a1 a2 a3 a4 a5 a6 (if (gX2_flight p1 p2 X).1 = 0 then (gX2_flight p1 p2 X).2.2 else X) ++ (wM cI b0 b1 b2 b3 b4 b5 b6 Y ++ [(o, cJ1 cJ (if (gX2_flight p1 p2 X).1 = 0 then (gX2_flight p1 p2 X).2.1.toInt64 else u))])) rfl rfl rfl rfl (by decide) [a0, a1, a2, a3, a4, a5, a6, o] rfl rfl rfl rfl (Nat.le_of_ble_eq_true rfl) ⟨by show 15 + i0 + 1 ≤ 1056; omega, by show 112 + 6 * i0 + 6 ≤ 8406; omega⟩ rfl dL_law_678 ?_
  rw [eS]
  refine k_istore C [(5, .int (kK S.1 1 9 2)), (0, .ref b), (1, .ref a0), (2, .ref b0), (3, .ref o), (4, .int x4)] (by decide) rfl dL_law_681 ?_
  refine k_aload_n C dL_law_683 3 rfl ?_
  refine k_aload_n C dL_law_684 1 rfl ?_
  refine k_iload C dL_law_685 5 rfl ?_
  refine k_iconst C 1 (by decide) dL_law_687 ?_
  refine k_iadd C dL_law_688 ?_
  refine k_sld C0 hX hbl hbA hin1 p1 hv1 dL_law_689 ?_
  refine k_aload_n C dL_law_690 1 rfl ?_
  refine k_iload C dL_law_691 5 rfl ?_
  refine k_iconst C 2 (by decide) dL_law_693 ?_
  refine k_iadd C dL_law_694 ?_
  refine k_sld C0 hX hbl hbA hin2 p2 hv2 dL_law_695 ?_
  refine k_callV_i C (y_X3_flight l D cI cJ b0 b1 b2 b3 b4 b5 b6 p1 p2 Y) (cwV 2 C.2.2.2.2.1 (kGV q763 q764 q765 q61 q766) rfl rfl rfl ⟨rfl, hdX3_flight⟩ ⟨Nat.le_of_ble_eq_true rfl, Nat.le_of_ble_eq_true rfl⟩) [7, 8, 9, 10, 11, 12, 13] [0, 1, 2, 3, 4, 5, 6, 14] [0, 1, 2, 3, 4, 5, 6, 8, 9, 10, 11, 12, 13, 14, 7] (wC a0 a1 a2 a3 a4 a5 a6 (if S.1 = 0 then S.2.2 else X) ++ [(o, cJ1 cJ (if S.1 = 0 then S.2.1.toInt64 else u))]) (wC a0 a1 a2 a3 a4 a5 a6 (if S.1 = 0 then S.2.2 else X) ++ (wM cI b0 b1 b2 b3 b4 b5 b6 (gX3_flight p1 p2 Y).2 ++ [(o, cJ1 cJ (if S.1 = 0 then S.2.1.toInt64 else u))])) rfl rfl rfl rfl (by decide) [b0, b1, b2, b3, b4, b5, b6] rfl rfl rfl rfl 7 3 rfl rfl rfl (Nat.le_of_ble_eq_true rfl) ⟨by show 15 + i0 + 1 ≤ 1056; omega, by show 112 + 6 * i0 + 6 ≤ 8406; omega⟩ rfl dL_law_696 ?_
  generalize eT : (gX3_flight p1 p2 Y) = T9 at hk hval hR1 ⊢
  refine k_istore C [(6, .int T9.1), (5, .int (kK S.1 1 9 2)), (0, .ref b), (1, .ref a0), (2, .ref b0), (3, .ref o), (4, .int x4)] (by decide) rfl dL_law_699 ?_
  refine k_aload_n C dL_law_701 4 rfl ?_
  refine k_callV_i C (mX3_thrown l D cI cJ b0 b1 b2 b3 b4 b5 b6 T9.2) (cwV 0 C.2.2.2.2.1 (kGV q626 q627 q628 q61 q629) rfl rfl rfl ⟨rfl, hdX3_thrown⟩ ⟨Nat.le_of_ble_eq_true rfl, Nat.le_of_ble_eq_true rfl⟩) [7, 8, 9, 10, 11, 12, 13] [0, 1, 2, 3, 4, 5, 6, 14] [0, 1, 2, 3, 4, 5, 6, 8, 9, 10, 11, 12, 13, 14, 7] (wC a0 a1 a2 a3 a4 a5 a6 (if S.1 = 0 then S.2.2 else X) ++ [(o, cJ1 cJ (if S.1 = 0 then S.2.1.toInt64 else u))]) (wC a0 a1 a2 a3 a4 a5 a6 (if S.1 = 0 then S.2.2 else X) ++ (wM cI b0 b1 b2 b3 b4 b5 b6 T9.2 ++ [(o, cJ1 cJ (if S.1 = 0 then S.2.1.toInt64 else u))])) rfl rfl rfl rfl (by decide) [b0, b1, b2, b3, b4, b5, b6] rfl rfl rfl rfl 7 3 rfl rfl rfl (Nat.le_of_ble_eq_true rfl) ⟨by show 15 + i0 + 1 ≤ 1056; omega, by show 112 + 6 * i0 + 6 ≤ 8406; omega⟩ rfl dL_law_702 ?_
  rw [show fX3_thrown T9.2 = kK S.1 1 9 2 from hk]
  refine k_iload C dL_law_705 1 rfl ?_
  refine k_icmp_eq C 712 (by decide) dL_law_707 (fun _ => ?_) (fun h => absurd rfl h)
  refine k_iload C dL_law_712 1 rfl ?_
  by_cases h0 : S.1 = 0
  · refine k_if_ne C 729 (by decide) dL_law_714 (fun h => absurd (by rw [h0]; decide) h) (fun _ => ?_)
    refine k_aload_n C dL_law_717 5 rfl ?_
    refine k_iconst C 0 (by decide) dL_law_718 ?_
    refine k_lald (v := S.2.1.toInt64) C 14 rfl vi1_0 (by rw [if_pos h0]; exact aJ_l _) dL_law_719 ?_
    refine k_iload C dL_law_720 0 rfl ?_
    refine k_i2l C dL_law_722 ?_
    refine k_lcmp C dL_law_723 ?_
    refine k_if_eq C 729 (by decide) dL_law_724 (fun _ => ?_) (fun h => absurd (by rw [hval h0]; exact lg_cmp_self _) h)
    refine k_goto C 991 (by decide) dL_law_729 ?_
    refine k_sub [2, 3, 4, 5, 6] rfl ?_
    exact k_widen (by omega) (by omega) (kk _ _ _ d0 hd0 hR1)
  · refine k_if_ne C 729 (by decide) dL_law_714 (fun _ => ?_) (fun h => absurd h (kK_ne h0 (by decide) (by decide) (by decide)))
    refine k_goto C 991 (by decide) dL_law_729 ?_
    refine k_sub [2, 3, 4, 5, 6] rfl ?_
    exact k_widen (by omega) (by omega) (kk _ _ _ d0 hd0 hR1)
set_option maxHeartbeats 4000000 in
set_option maxRecDepth 100000 in
theorem lw_end {p : Program} {e : Env} {s : State} {m : MethodId} {below : List Frame} {meth : Method} {c : Code} {D : va_G} {cI cJ : ClassId} (l : Launch) (hl : l.stackTraces = false) {b L : Nat} {xs : Nat → Int32} (hX : va_X b L xs s s.heap) (hbl : b < s.heap.size) (C0 : kCx p s m #[Value.ref b] meth c RL cL_law 9 ret D cI cJ (fun q => s.heap.size ≤ q)) (T0 : kTE (fun q => s.heap.size ≤ q) s s.heap) (a0 a1 a2 a3 a4 a5 a6 o : Nat) (b0 b1 b2 b3 b4 b5 b6 : Nat) {i0 : Nat} (hi : i0 < 512) {x4 : Int32} {p1 : Int32} (hv1 : p1 = xs (x4 + 1).toNatClampNeg) (hin1 : vp_in (x4 + 1) L) (X : Co) (Y : Mo) (u : Int64) (d0 : Drawn) (hd0 : s.drawn.sameBut d0 lw_cs) (hR : Rel i0 X Y) (kk : (∀ (X : Co) (Y : Mo) (u : Int64) (d0 : Drawn), s.drawn.sameBut d0 lw_cs → Rel (i0 + 1) X Y → kW p l e room_1 (s.setDrawn d0) m #[Value.ref b] below meth c D (fun q => s.heap.size ≤ q) 9 (15 + (i0 + 1)) (112 + 6 * (i0 + 1)) (lw_Z below #[Value.ref b] s) (wC a0 a1 a2 a3 a4 a5 a6 X ++ (wM cI b0 b1 b2 b3 b4 b5 b6 Y ++ [(o, cJ1 cJ u)])) 991 [(0, .ref b), (1, .ref a0), (2, .ref b0), (3, .ref o), (4, .int x4)] [])) : kW p l e room_1 (s.setDrawn d0) m #[Value.ref b] below meth c D (fun q => s.heap.size ≤ q) 9 (15 + i0) (112 + 6 * i0) (lw_Z below #[Value.ref b] s) (wC a0 a1 a2 a3 a4 a5 a6 X ++ (wM cI b0 b1 b2 b3 b4 b5 b6 Y ++ [(o, cJ1 cJ u)])) 732 [(0, .ref b), (1, .ref a0), (2, .ref b0), (3, .ref o), (4, .int x4)] [] := by
  have C := C0.dr d0
  have T := T0.dr d0
  have hbA : ¬ (fun q : Nat => s.heap.size ≤ q) b := Nat.not_le.mpr hbl
  obtain ⟨hN, hk, hval, hR1⟩ := pr_end (p0 := p1) hi hR
  generalize eS : (gX2_end p1 X) = S at hk hval hR1
  refine k_aload_n C dL_law_732 1 rfl ?_
  refine k_aload_n C dL_law_733 0 rfl ?_
  refine k_iload C dL_law_734 4 rfl ?_
  refine k_iconst C 1 (by decide) dL_law_736 ?_
  refine k_iadd C dL_law_737 ?_
  refine k_sld C0 hX hbl hbA hin1 p1 hv1 dL_law_738 ?_
  refine k_aload_n C dL_law_739 3 rfl ?_
  refine k_callH C T (mL_end l hl D cI cJ a0 a1 a2 a3 a4 a5 a6 o p1 u X) (vx_cwSW 3 C.2.2.2.2.1 (kGS q534 q535 q57 q536) rfl rfl rfl hdL_end ⟨Nat.le_of_ble_eq_true rfl, Nat.le_of_ble_eq_true rfl⟩) [0, 1, 2, 3, 4, 5, 6, 14] [7, 8, 9, 10, 11, 12, 13] [7, 8, 9, 10, 11, 12, 13, 0, 1, 2, 3, 4, 5, 6, 14] (wM cI b0 b1 b2 b3 b4 b5 b6 Y) (wC a0 a1 a2 a3 a4 a5 a6 (if (gX2_end p1 X).1 = 0 then (gX2_end p1 X).2.2 else X) ++ (wM cI b0 b1 b2 b3 b4 b5 b6 Y ++ [(o, cJ1 cJ (if (gX2_end p1 X).1 = 0 then (gX2_end p1 X).2.1.toInt64 else u))])) rfl rfl rfl rfl (by decide) [a0, a1, a2, a3, a4, a5, a6, o] rfl rfl rfl rfl (Nat.le_of_ble_eq_true rfl) ⟨by show 15 + i0 + 1 ≤ 1056; omega, by show 112 + 6 * i0 + 6 ≤ 8406; omega⟩ rfl dL_law_740 ?_
  rw [eS]
  refine k_istore C [(5, .int (kK S.1 9 9 1)), (0, .ref b), (1, .ref a0), (2, .ref b0), (3, .ref o), (4, .int x4)] (by decide) rfl dL_law_743 ?_
  refine k_aload_n C dL_law_745 3 rfl ?_
  refine k_aload_n C dL_law_746 1 rfl ?_
  refine k_iload C dL_law_747 5 rfl ?_
  refine k_iconst C 1 (by decide) dL_law_749 ?_
  refine k_iadd C dL_law_750 ?_
  refine k_sld C0 hX hbl hbA hin1 p1 hv1 dL_law_751 ?_
  refine k_callV_i C (y_X3_end l D cI cJ b0 b1 b2 b3 b4 b5 b6 p1 Y hN) (cwV 1 C.2.2.2.2.1 (kGV q767 q768 q769 q61 q770) rfl rfl rfl ⟨rfl, hdX3_end⟩ ⟨Nat.le_of_ble_eq_true rfl, Nat.le_of_ble_eq_true rfl⟩) [7, 8, 9, 10, 11, 12, 13] [0, 1, 2, 3, 4, 5, 6, 14] [0, 1, 2, 3, 4, 5, 6, 8, 9, 10, 11, 12, 13, 14, 7] (wC a0 a1 a2 a3 a4 a5 a6 (if S.1 = 0 then S.2.2 else X) ++ [(o, cJ1 cJ (if S.1 = 0 then S.2.1.toInt64 else u))]) (wC a0 a1 a2 a3 a4 a5 a6 (if S.1 = 0 then S.2.2 else X) ++ (wM cI b0 b1 b2 b3 b4 b5 b6 (gX3_end p1 Y).2 ++ [(o, cJ1 cJ (if S.1 = 0 then S.2.1.toInt64 else u))])) rfl rfl rfl rfl (by decide) [b0, b1, b2, b3, b4, b5, b6] rfl rfl rfl rfl 7 3 rfl rfl rfl (Nat.le_of_ble_eq_true rfl) ⟨by show 15 + i0 + 1 ≤ 1056; omega, by show 112 + 6 * i0 + 6 ≤ 8406; omega⟩ rfl dL_law_752 ?_
  generalize eT : (gX3_end p1 Y) = T9 at hk hval hR1 ⊢
  refine k_istore C [(6, .int T9.1), (5, .int (kK S.1 9 9 1)), (0, .ref b), (1, .ref a0), (2, .ref b0), (3, .ref o), (4, .int x4)] (by decide) rfl dL_law_755 ?_
  refine k_aload_n C dL_law_757 4 rfl ?_
  refine k_callV_i C (mX3_thrown l D cI cJ b0 b1 b2 b3 b4 b5 b6 T9.2) (cwV 0 C.2.2.2.2.1 (kGV q626 q627 q628 q61 q629) rfl rfl rfl ⟨rfl, hdX3_thrown⟩ ⟨Nat.le_of_ble_eq_true rfl, Nat.le_of_ble_eq_true rfl⟩) [7, 8, 9, 10, 11, 12, 13] [0, 1, 2, 3, 4, 5, 6, 14] [0, 1, 2, 3, 4, 5, 6, 8, 9, 10, 11, 12, 13, 14, 7] (wC a0 a1 a2 a3 a4 a5 a6 (if S.1 = 0 then S.2.2 else X) ++ [(o, cJ1 cJ (if S.1 = 0 then S.2.1.toInt64 else u))]) (wC a0 a1 a2 a3 a4 a5 a6 (if S.1 = 0 then S.2.2 else X) ++ (wM cI b0 b1 b2 b3 b4 b5 b6 T9.2 ++ [(o, cJ1 cJ (if S.1 = 0 then S.2.1.toInt64 else u))])) rfl rfl rfl rfl (by decide) [b0, b1, b2, b3, b4, b5, b6] rfl rfl rfl rfl 7 3 rfl rfl rfl (Nat.le_of_ble_eq_true rfl) ⟨by show 15 + i0 + 1 ≤ 1056; omega, by show 112 + 6 * i0 + 6 ≤ 8406; omega⟩ rfl dL_law_758 ?_
  rw [show fX3_thrown T9.2 = kK S.1 9 9 1 from hk]
  refine k_iload C dL_law_761 1 rfl ?_
  refine k_icmp_eq C 768 (by decide) dL_law_763 (fun _ => ?_) (fun h => absurd rfl h)
  refine k_iload C dL_law_768 1 rfl ?_
  by_cases h0 : S.1 = 0
  · refine k_if_ne C 785 (by decide) dL_law_770 (fun h => absurd (by rw [h0]; decide) h) (fun _ => ?_)
    refine k_aload_n C dL_law_773 5 rfl ?_
    refine k_iconst C 0 (by decide) dL_law_774 ?_
    refine k_lald (v := S.2.1.toInt64) C 14 rfl vi1_0 (by rw [if_pos h0]; exact aJ_l _) dL_law_775 ?_
    refine k_iload C dL_law_776 0 rfl ?_
    refine k_i2l C dL_law_778 ?_
    refine k_lcmp C dL_law_779 ?_
    refine k_if_eq C 785 (by decide) dL_law_780 (fun _ => ?_) (fun h => absurd (by rw [hval h0]; exact lg_cmp_self _) h)
    refine k_goto C 991 (by decide) dL_law_785 ?_
    refine k_sub [2, 3, 4, 5, 6] rfl ?_
    exact k_widen (by omega) (by omega) (kk _ _ _ d0 hd0 hR1)
  · refine k_if_ne C 785 (by decide) dL_law_770 (fun _ => ?_) (fun h => absurd h (kK_ne h0 (by decide) (by decide) (by decide)))
    refine k_goto C 991 (by decide) dL_law_785 ?_
    refine k_sub [2, 3, 4, 5, 6] rfl ?_
    exact k_widen (by omega) (by omega) (kk _ _ _ d0 hd0 hR1)
set_option maxHeartbeats 4000000 in
set_option maxRecDepth 100000 in
theorem lw_would {p : Program} {e : Env} {s : State} {m : MethodId} {below : List Frame} {meth : Method} {c : Code} {D : va_G} {cI cJ : ClassId} (l : Launch) (hl : l.stackTraces = false) {b L : Nat} {xs : Nat → Int32} (hX : va_X b L xs s s.heap) (hbl : b < s.heap.size) (C0 : kCx p s m #[Value.ref b] meth c RL cL_law 9 ret D cI cJ (fun q => s.heap.size ≤ q)) (T0 : kTE (fun q => s.heap.size ≤ q) s s.heap) (a0 a1 a2 a3 a4 a5 a6 o : Nat) (b0 b1 b2 b3 b4 b5 b6 : Nat) {i0 : Nat} (hi : i0 < 512) {x4 : Int32} {p1 : Int32} (hv1 : p1 = xs (x4 + 1).toNatClampNeg) (hin1 : vp_in (x4 + 1) L) {p2 : Int32} (hv2 : p2 = xs (x4 + 2).toNatClampNeg) (hin2 : vp_in (x4 + 2) L) {p3 : Int32} (hv3 : p3 = xs (x4 + 3).toNatClampNeg) (hin3 : vp_in (x4 + 3) L) {p4 : Int32} (hv4 : p4 = xs (x4 + 4).toNatClampNeg) (hin4 : vp_in (x4 + 4) L) (X : Co) (Y : Mo) (u : Int64) (d0 : Drawn) (hd0 : s.drawn.sameBut d0 lw_cs) (hR : Rel i0 X Y) (kk : (∀ (X : Co) (Y : Mo) (u : Int64) (d0 : Drawn), s.drawn.sameBut d0 lw_cs → Rel (i0 + 1) X Y → kW p l e room_1 (s.setDrawn d0) m #[Value.ref b] below meth c D (fun q => s.heap.size ≤ q) 9 (15 + (i0 + 1)) (112 + 6 * (i0 + 1)) (lw_Z below #[Value.ref b] s) (wC a0 a1 a2 a3 a4 a5 a6 X ++ (wM cI b0 b1 b2 b3 b4 b5 b6 Y ++ [(o, cJ1 cJ u)])) 991 [(0, .ref b), (1, .ref a0), (2, .ref b0), (3, .ref o), (4, .int x4)] [])) : kW p l e room_1 (s.setDrawn d0) m #[Value.ref b] below meth c D (fun q => s.heap.size ≤ q) 9 (15 + i0) (112 + 6 * i0) (lw_Z below #[Value.ref b] s) (wC a0 a1 a2 a3 a4 a5 a6 X ++ (wM cI b0 b1 b2 b3 b4 b5 b6 Y ++ [(o, cJ1 cJ u)])) 788 [(0, .ref b), (1, .ref a0), (2, .ref b0), (3, .ref o), (4, .int x4)] [] := by
  have C := C0.dr d0
  have T := T0.dr d0
  have hbA : ¬ (fun q : Nat => s.heap.size ≤ q) b := Nat.not_le.mpr hbl
  obtain ⟨hN, hk, hval, hR1⟩ := pr_would (p0 := p1) (p1 := p2) (p2 := p3) (p3 := p4) hi hR
  generalize eS : (xX2_would p1 p2 p3 p4 X) = S at hk hval hR1
  refine k_aload_n C dL_law_788 1 rfl ?_
  refine k_aload_n C dL_law_789 0 rfl ?_
  refine k_iload C dL_law_790 4 rfl ?_
  refine k_iconst C 1 (by decide) dL_law_792 ?_
  refine k_iadd C dL_law_793 ?_
  refine k_sld C0 hX hbl hbA hin1 p1 hv1 dL_law_794 ?_
  refine k_aload_n C dL_law_795 0 rfl ?_
  refine k_iload C dL_law_796 4 rfl ?_
  refine k_iconst C 2 (by decide) dL_law_798 ?_
  refine k_iadd C dL_law_799 ?_
  refine k_sld C0 hX hbl hbA hin2 p2 hv2 dL_law_800 ?_
  refine k_aload_n C dL_law_801 0 rfl ?_
  refine k_iload C dL_law_802 4 rfl ?_
  refine k_iconst C 3 (by decide) dL_law_804 ?_
  refine k_iadd C dL_law_805 ?_
  refine k_sld C0 hX hbl hbA hin3 p3 hv3 dL_law_806 ?_
  refine k_aload_n C dL_law_807 0 rfl ?_
  refine k_iload C dL_law_808 4 rfl ?_
  refine k_iconst C 4 (by decide) dL_law_810 ?_
  refine k_iadd C dL_law_811 ?_
  refine k_sld C0 hX hbl hbA hin4 p4 hv4 dL_law_812 ?_
  refine k_aload_n C dL_law_813 3 rfl ?_
  refine k_callH C T (mL_would l hl D cI cJ a0 a1 a2 a3 a4 a5 a6 o p1 p2 p3 p4 u X) (vx_cwSW 6 C.2.2.2.2.1 (kGS q538 q539 q57 q540) rfl rfl rfl hdL_would ⟨Nat.le_of_ble_eq_true rfl, Nat.le_of_ble_eq_true rfl⟩) [0, 1, 2, 3, 4, 5, 6, 14] [7, 8, 9, 10, 11, 12, 13] [7, 8, 9, 10, 11, 12, 13, 0, 1, 2, 3, 4, 5, 6, 14] (wM cI b0 b1 b2 b3 b4 b5 b6 Y) (wC a0 a1 a2 a3 a4 a5 a6 (if (xX2_would p1 p2 p3 p4 X).1 = 0 then (xX2_would p1 p2 p3 p4 X).2.2 else X) ++ (wM cI b0 b1 b2 b3 b4 b5 b6 Y ++ [(o, cJ1 cJ (if (xX2_would p1 p2 p3 p4 X).1 = 0 then (xX2_would p1 p2 p3 p4 X).2.1.toInt64 else u))])) rfl rfl rfl rfl (by decide) [a0, a1, a2, a3, a4, a5, a6, o] rfl rfl rfl rfl (Nat.le_of_ble_eq_true rfl) ⟨by show 15 + i0 + 1 ≤ 1056; omega, by show 112 + 6 * i0 + 6 ≤ 8406; omega⟩ rfl dL_law_814 ?_
  rw [eS]
  refine k_istore C [(5, .int (kK S.1 1 9 9)), (0, .ref b), (1, .ref a0), (2, .ref b0), (3, .ref o), (4, .int x4)] (by decide) rfl dL_law_817 ?_
  refine k_aload_n C dL_law_819 3 rfl ?_
  refine k_aload_n C dL_law_820 1 rfl ?_
  refine k_iload C dL_law_821 5 rfl ?_
  refine k_iconst C 1 (by decide) dL_law_823 ?_
  refine k_iadd C dL_law_824 ?_
  refine k_sld C0 hX hbl hbA hin1 p1 hv1 dL_law_825 ?_
  refine k_aload_n C dL_law_826 1 rfl ?_
  refine k_iload C dL_law_827 5 rfl ?_
  refine k_iconst C 2 (by decide) dL_law_829 ?_
  refine k_iadd C dL_law_830 ?_
  refine k_sld C0 hX hbl hbA hin2 p2 hv2 dL_law_831 ?_
  refine k_aload_n C dL_law_832 1 rfl ?_
  refine k_iload C dL_law_833 5 rfl ?_
  refine k_iconst C 3 (by decide) dL_law_835 ?_
  refine k_iadd C dL_law_836 ?_
  refine k_sld C0 hX hbl hbA hin3 p3 hv3 dL_law_837 ?_
  refine k_aload_n C dL_law_838 1 rfl ?_
  refine k_iload C dL_law_839 5 rfl ?_
  refine k_iconst C 4 (by decide) dL_law_841 ?_
  refine k_iadd C dL_law_842 ?_
  refine k_sld C0 hX hbl hbA hin4 p4 hv4 dL_law_843 ?_
  refine k_callV_i C (mX3_would l D cI cJ b0 b1 b2 b3 b4 b5 b6 p1 p2 p3 p4 Y hN) (cwV 4 C.2.2.2.2.1 (kGV q775 q776 q777 q61 q778) rfl rfl rfl ⟨rfl, hdX3_would⟩ ⟨Nat.le_of_ble_eq_true rfl, Nat.le_of_ble_eq_true rfl⟩) [7, 8, 9, 10, 11, 12, 13] [0, 1, 2, 3, 4, 5, 6, 14] [0, 1, 2, 3, 4, 5, 6, 8, 9, 10, 11, 12, 13, 14, 7] (wC a0 a1 a2 a3 a4 a5 a6 (if S.1 = 0 then S.2.2 else X) ++ [(o, cJ1 cJ (if S.1 = 0 then S.2.1.toInt64 else u))]) (wC a0 a1 a2 a3 a4 a5 a6 (if S.1 = 0 then S.2.2 else X) ++ (wM cI b0 b1 b2 b3 b4 b5 b6 (fX3_would p1 p2 p3 p4 Y).2 ++ [(o, cJ1 cJ (if S.1 = 0 then S.2.1.toInt64 else u))])) rfl rfl rfl rfl (by decide) [b0, b1, b2, b3, b4, b5, b6] rfl rfl rfl rfl 7 3 rfl rfl rfl (Nat.le_of_ble_eq_true rfl) ⟨by show 15 + i0 + 1 ≤ 1056; omega, by show 112 + 6 * i0 + 6 ≤ 8406; omega⟩ rfl dL_law_844 ?_
  generalize eT : (fX3_would p1 p2 p3 p4 Y) = T9 at hk hval hR1 ⊢
  refine k_istore C [(6, .int T9.1), (5, .int (kK S.1 1 9 9)), (0, .ref b), (1, .ref a0), (2, .ref b0), (3, .ref o), (4, .int x4)] (by decide) rfl dL_law_847 ?_
  refine k_aload_n C dL_law_849 4 rfl ?_
  refine k_callV_i C (mX3_thrown l D cI cJ b0 b1 b2 b3 b4 b5 b6 T9.2) (cwV 0 C.2.2.2.2.1 (kGV q626 q627 q628 q61 q629) rfl rfl rfl ⟨rfl, hdX3_thrown⟩ ⟨Nat.le_of_ble_eq_true rfl, Nat.le_of_ble_eq_true rfl⟩) [7, 8, 9, 10, 11, 12, 13] [0, 1, 2, 3, 4, 5, 6, 14] [0, 1, 2, 3, 4, 5, 6, 8, 9, 10, 11, 12, 13, 14, 7] (wC a0 a1 a2 a3 a4 a5 a6 (if S.1 = 0 then S.2.2 else X) ++ [(o, cJ1 cJ (if S.1 = 0 then S.2.1.toInt64 else u))]) (wC a0 a1 a2 a3 a4 a5 a6 (if S.1 = 0 then S.2.2 else X) ++ (wM cI b0 b1 b2 b3 b4 b5 b6 T9.2 ++ [(o, cJ1 cJ (if S.1 = 0 then S.2.1.toInt64 else u))])) rfl rfl rfl rfl (by decide) [b0, b1, b2, b3, b4, b5, b6] rfl rfl rfl rfl 7 3 rfl rfl rfl (Nat.le_of_ble_eq_true rfl) ⟨by show 15 + i0 + 1 ≤ 1056; omega, by show 112 + 6 * i0 + 6 ≤ 8406; omega⟩ rfl dL_law_850 ?_
  rw [show fX3_thrown T9.2 = kK S.1 1 9 9 from hk]
  refine k_iload C dL_law_853 1 rfl ?_
  refine k_icmp_eq C 860 (by decide) dL_law_855 (fun _ => ?_) (fun h => absurd rfl h)
  refine k_iload C dL_law_860 1 rfl ?_
  by_cases h0 : S.1 = 0
  · refine k_if_ne C 877 (by decide) dL_law_862 (fun h => absurd (by rw [h0]; decide) h) (fun _ => ?_)
    refine k_aload_n C dL_law_865 5 rfl ?_
    refine k_iconst C 0 (by decide) dL_law_866 ?_
    refine k_lald (v := S.2.1.toInt64) C 14 rfl vi1_0 (by rw [if_pos h0]; exact aJ_l _) dL_law_867 ?_
    refine k_iload C dL_law_868 0 rfl ?_
    refine k_i2l C dL_law_870 ?_
    refine k_lcmp C dL_law_871 ?_
    refine k_if_eq C 877 (by decide) dL_law_872 (fun _ => ?_) (fun h => absurd (by rw [hval h0]; exact lg_cmp_self _) h)
    refine k_goto C 991 (by decide) dL_law_877 ?_
    refine k_sub [2, 3, 4, 5, 6] rfl ?_
    exact k_widen (by omega) (by omega) (kk _ _ _ d0 hd0 hR1)
  · refine k_if_ne C 877 (by decide) dL_law_862 (fun _ => ?_) (fun h => absurd h (kK_ne h0 (by decide) (by decide) (by decide)))
    refine k_goto C 991 (by decide) dL_law_877 ?_
    refine k_sub [2, 3, 4, 5, 6] rfl ?_
    exact k_widen (by omega) (by omega) (kk _ _ _ d0 hd0 hR1)
set_option maxHeartbeats 4000000 in
set_option maxRecDepth 100000 in
theorem lw_advise {p : Program} {e : Env} {s : State} {m : MethodId} {below : List Frame} {meth : Method} {c : Code} {D : va_G} {cI cJ : ClassId} (l : Launch) (hl : l.stackTraces = false) {b L : Nat} {xs : Nat → Int32} (hX : va_X b L xs s s.heap) (hbl : b < s.heap.size) (C0 : kCx p s m #[Value.ref b] meth c RL cL_law 9 ret D cI cJ (fun q => s.heap.size ≤ q)) (T0 : kTE (fun q => s.heap.size ≤ q) s s.heap) (a0 a1 a2 a3 a4 a5 a6 o : Nat) (b0 b1 b2 b3 b4 b5 b6 : Nat) {i0 : Nat} (hi : i0 < 512) {x4 : Int32} {p1 : Int32} (hv1 : p1 = xs (x4 + 1).toNatClampNeg) (hin1 : vp_in (x4 + 1) L) (X : Co) (Y : Mo) (u : Int64) (d0 : Drawn) (hd0 : s.drawn.sameBut d0 lw_cs) (hR : Rel i0 X Y) (kk : (∀ (X : Co) (Y : Mo) (u : Int64) (d0 : Drawn), s.drawn.sameBut d0 lw_cs → Rel (i0 + 1) X Y → kW p l e room_1 (s.setDrawn d0) m #[Value.ref b] below meth c D (fun q => s.heap.size ≤ q) 9 (15 + (i0 + 1)) (112 + 6 * (i0 + 1)) (lw_Z below #[Value.ref b] s) (wC a0 a1 a2 a3 a4 a5 a6 X ++ (wM cI b0 b1 b2 b3 b4 b5 b6 Y ++ [(o, cJ1 cJ u)])) 991 [(0, .ref b), (1, .ref a0), (2, .ref b0), (3, .ref o), (4, .int x4)] [])) : kW p l e room_1 (s.setDrawn d0) m #[Value.ref b] below meth c D (fun q => s.heap.size ≤ q) 9 (15 + i0) (112 + 6 * i0) (lw_Z below #[Value.ref b] s) (wC a0 a1 a2 a3 a4 a5 a6 X ++ (wM cI b0 b1 b2 b3 b4 b5 b6 Y ++ [(o, cJ1 cJ u)])) 880 [(0, .ref b), (1, .ref a0), (2, .ref b0), (3, .ref o), (4, .int x4)] [] := by
  have C := C0.dr d0
  have T := T0.dr d0
  have hbA : ¬ (fun q : Nat => s.heap.size ≤ q) b := Nat.not_le.mpr hbl
  obtain ⟨hN, hk, hval, hR1⟩ := pr_advise (p0 := p1) hi hR
  generalize eS : (xX2_advise p1 X) = S at hk hval hR1
  refine k_aload_n C dL_law_880 1 rfl ?_
  refine k_aload_n C dL_law_881 0 rfl ?_
  refine k_iload C dL_law_882 4 rfl ?_
  refine k_iconst C 1 (by decide) dL_law_884 ?_
  refine k_iadd C dL_law_885 ?_
  refine k_sld C0 hX hbl hbA hin1 p1 hv1 dL_law_886 ?_
  refine k_aload_n C dL_law_887 3 rfl ?_
  refine k_callH C T (mL_advise l hl D cI cJ a0 a1 a2 a3 a4 a5 a6 o p1 u X) (vx_cwSW 3 C.2.2.2.2.1 (kGS q553 q554 q57 q555) rfl rfl rfl hdL_advise ⟨Nat.le_of_ble_eq_true rfl, Nat.le_of_ble_eq_true rfl⟩) [0, 1, 2, 3, 4, 5, 6, 14] [7, 8, 9, 10, 11, 12, 13] [7, 8, 9, 10, 11, 12, 13, 0, 1, 2, 3, 4, 5, 6, 14] (wM cI b0 b1 b2 b3 b4 b5 b6 Y) (wC a0 a1 a2 a3 a4 a5 a6 (if (xX2_advise p1 X).1 = 0 then (xX2_advise p1 X).2.2 else X) ++ (wM cI b0 b1 b2 b3 b4 b5 b6 Y ++ [(o, cJ1 cJ (if (xX2_advise p1 X).1 = 0 then (xX2_advise p1 X).2.1.toInt64 else u))])) rfl rfl rfl rfl (by decide) [a0, a1, a2, a3, a4, a5, a6, o] rfl rfl rfl rfl (Nat.le_of_ble_eq_true rfl) ⟨by show 15 + i0 + 1 ≤ 1056; omega, by show 112 + 6 * i0 + 6 ≤ 8406; omega⟩ rfl dL_law_888 ?_
  rw [eS]
  refine k_istore C [(5, .int (kK S.1 1 9 9)), (0, .ref b), (1, .ref a0), (2, .ref b0), (3, .ref o), (4, .int x4)] (by decide) rfl dL_law_891 ?_
  refine k_aload_n C dL_law_893 3 rfl ?_
  refine k_aload_n C dL_law_894 1 rfl ?_
  refine k_iload C dL_law_895 5 rfl ?_
  refine k_iconst C 1 (by decide) dL_law_897 ?_
  refine k_iadd C dL_law_898 ?_
  refine k_sld C0 hX hbl hbA hin1 p1 hv1 dL_law_899 ?_
  refine k_callV_i C (mX3_advise l D cI cJ b0 b1 b2 b3 b4 b5 b6 p1 Y hN) (cwV 1 C.2.2.2.2.1 (kGV q787 q788 q789 q61 q790) rfl rfl rfl ⟨rfl, hdX3_advise⟩ ⟨Nat.le_of_ble_eq_true rfl, Nat.le_of_ble_eq_true rfl⟩) [7, 8, 9, 10, 11, 12, 13] [0, 1, 2, 3, 4, 5, 6, 14] [0, 1, 2, 3, 4, 5, 6, 8, 9, 10, 11, 12, 13, 14, 7] (wC a0 a1 a2 a3 a4 a5 a6 (if S.1 = 0 then S.2.2 else X) ++ [(o, cJ1 cJ (if S.1 = 0 then S.2.1.toInt64 else u))]) (wC a0 a1 a2 a3 a4 a5 a6 (if S.1 = 0 then S.2.2 else X) ++ (wM cI b0 b1 b2 b3 b4 b5 b6 (fX3_advise p1 Y).2 ++ [(o, cJ1 cJ (if S.1 = 0 then S.2.1.toInt64 else u))])) rfl rfl rfl rfl (by decide) [b0, b1, b2, b3, b4, b5, b6] rfl rfl rfl rfl 7 3 rfl rfl rfl (Nat.le_of_ble_eq_true rfl) ⟨by show 15 + i0 + 1 ≤ 1056; omega, by show 112 + 6 * i0 + 6 ≤ 8406; omega⟩ rfl dL_law_900 ?_
  generalize eT : (fX3_advise p1 Y) = T9 at hk hval hR1 ⊢
  refine k_istore C [(6, .int T9.1), (5, .int (kK S.1 1 9 9)), (0, .ref b), (1, .ref a0), (2, .ref b0), (3, .ref o), (4, .int x4)] (by decide) rfl dL_law_903 ?_
  refine k_aload_n C dL_law_905 4 rfl ?_
  refine k_callV_i C (mX3_thrown l D cI cJ b0 b1 b2 b3 b4 b5 b6 T9.2) (cwV 0 C.2.2.2.2.1 (kGV q626 q627 q628 q61 q629) rfl rfl rfl ⟨rfl, hdX3_thrown⟩ ⟨Nat.le_of_ble_eq_true rfl, Nat.le_of_ble_eq_true rfl⟩) [7, 8, 9, 10, 11, 12, 13] [0, 1, 2, 3, 4, 5, 6, 14] [0, 1, 2, 3, 4, 5, 6, 8, 9, 10, 11, 12, 13, 14, 7] (wC a0 a1 a2 a3 a4 a5 a6 (if S.1 = 0 then S.2.2 else X) ++ [(o, cJ1 cJ (if S.1 = 0 then S.2.1.toInt64 else u))]) (wC a0 a1 a2 a3 a4 a5 a6 (if S.1 = 0 then S.2.2 else X) ++ (wM cI b0 b1 b2 b3 b4 b5 b6 T9.2 ++ [(o, cJ1 cJ (if S.1 = 0 then S.2.1.toInt64 else u))])) rfl rfl rfl rfl (by decide) [b0, b1, b2, b3, b4, b5, b6] rfl rfl rfl rfl 7 3 rfl rfl rfl (Nat.le_of_ble_eq_true rfl) ⟨by show 15 + i0 + 1 ≤ 1056; omega, by show 112 + 6 * i0 + 6 ≤ 8406; omega⟩ rfl dL_law_906 ?_
  rw [show fX3_thrown T9.2 = kK S.1 1 9 9 from hk]
  refine k_iload C dL_law_909 1 rfl ?_
  refine k_icmp_eq C 916 (by decide) dL_law_911 (fun _ => ?_) (fun h => absurd rfl h)
  refine k_iload C dL_law_916 1 rfl ?_
  by_cases h0 : S.1 = 0
  · refine k_if_ne C 933 (by decide) dL_law_918 (fun h => absurd (by rw [h0]; decide) h) (fun _ => ?_)
    refine k_aload_n C dL_law_921 5 rfl ?_
    refine k_iconst C 0 (by decide) dL_law_922 ?_
    refine k_lald (v := S.2.1.toInt64) C 14 rfl vi1_0 (by rw [if_pos h0]; exact aJ_l _) dL_law_923 ?_
    refine k_iload C dL_law_924 0 rfl ?_
    refine k_i2l C dL_law_926 ?_
    refine k_lcmp C dL_law_927 ?_
    refine k_if_eq C 933 (by decide) dL_law_928 (fun _ => ?_) (fun h => absurd (by rw [hval h0]; exact lg_cmp_self _) h)
    refine k_goto C 991 (by decide) dL_law_933 ?_
    refine k_sub [2, 3, 4, 5, 6] rfl ?_
    exact k_widen (by omega) (by omega) (kk _ _ _ d0 hd0 hR1)
  · refine k_if_ne C 933 (by decide) dL_law_918 (fun _ => ?_) (fun h => absurd h (kK_ne h0 (by decide) (by decide) (by decide)))
    refine k_goto C 991 (by decide) dL_law_933 ?_
    refine k_sub [2, 3, 4, 5, 6] rfl ?_
    exact k_widen (by omega) (by omega) (kk _ _ _ d0 hd0 hR1)