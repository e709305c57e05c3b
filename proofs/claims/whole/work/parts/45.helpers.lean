/-! the helpers of the law -/
def kK (S kA kS kO : Int32) : Int32 := if S = 0 then 0 else if S = 1 then kA else if S = 2 then kS else kO
theorem hdL_serve : yL_serve.cls ≠ "java/lang/invoke/MethodHandle" ∧ yL_serve.cls ≠ "java/lang/invoke/VarHandle" ∧ (parseMethodDescriptor yL_serve.desc).map (fun d => d.parameters.length) = some 5 := by decide +kernel
theorem ncO_serve (p0 : Int32) (p1 : Int32) (p2 : Int32) (X : Co) : ¬ (xX2_serve p0 p1 p2 X).1 = 3 := by unfold xX2_serve; (repeat' split) <;> (first | exact (show ¬ (0 : Int32) = 3 by decide) | exact (show ¬ (1 : Int32) = 3 by decide) | exact (show ¬ (2 : Int32) = 3 by decide))
set_option maxHeartbeats 4000000 in
set_option maxRecDepth 100000 in
theorem mL_serve (l : Launch) (hl : l.stackTraces = false) (D : va_G) (cI cJ : ClassId) (a0 a1 a2 a3 a4 a5 a6 o : Nat) (p0 : Int32) (p1 : Int32) (p2 : Int32) (u : Int64) (X : Co) : kCH l D cI cJ yL_serve (.codeWith yL_serve cL_serve 6 (some .int) [(0, 12, 15, 13), (0, 12, 19, 15)]) { frames := 7, cells := 1, slots := 6, locals := 153 } [.ref a0, .int p0, .int p1, .int p2, .ref o] (wC a0 a1 a2 a3 a4 a5 a6 X ++ [(o, cJ1 cJ u)]) (kK (xX2_serve p0 p1 p2 X).1 1 2 9) (wC a0 a1 a2 a3 a4 a5 a6 (if (xX2_serve p0 p1 p2 X).1 = 0 then (xX2_serve p0 p1 p2 X).2.2 else X) ++ [(o, cJ1 cJ (if (xX2_serve p0 p1 p2 X).1 = 0 then (xX2_serve p0 p1 p2 X).2.1.toInt64 else u))]) := by
  refine fun sz => k_ofH (lv := [(0, .ref a0), (1, .int p0), (2, .int p1), (3, .int p2), (4, .ref o)]) (by decide) sz (Nat.le_of_ble_eq_true rfl) rfl ?_
  intro p e s m args below meth c hsz hTb T C
  refine k_aload C dL_serve_0 4 rfl ?_
  refine k_iconst C 0 (by decide) dL_serve_2 ?_
  refine k_aload_n C dL_serve_3 0 rfl ?_
  refine k_iload_n C dL_serve_4 1 rfl ?_
  refine k_iload_n C dL_serve_5 2 rfl ?_
  refine k_iload_n C dL_serve_6 3 rfl ?_
  refine k_callX C T (x_X2_serve l hl D cI cJ a0 a1 a2 a3 a4 a5 a6 p0 p1 p2 X) (cwV 3 C.2.2.2.2.1 (kGV q323 q324 q325 q58 q326) rfl rfl rfl ⟨rfl, hdX2_serve⟩ ⟨Nat.le_of_ble_eq_true rfl, Nat.le_of_ble_eq_true rfl⟩) [0, 1, 2, 3, 4, 5, 6] [7] [1, 2, 3, 4, 5, 6, 7, 0] [(o, cJ1 cJ u)] (wC a0 a1 a2 a3 a4 a5 a6 (xX2_serve p0 p1 p2 X).2.2 ++ [(o, cJ1 cJ u)]) rfl rfl rfl rfl (by decide) [a0, a1, a2, a3, a4, a5, a6] rfl rfl rfl rfl rfl 0 2 rfl rfl rfl (Nat.le_of_ble_eq_true rfl) ⟨Nat.le_of_ble_eq_true rfl, Nat.le_of_ble_eq_true rfl⟩ rfl dL_serve_7 (fun E q9 hE => ?_) (fun hk => ?_)
  · rcases hE with ⟨hk, rfl⟩ | ⟨hk, rfl⟩ | ⟨hk, rfl⟩
    · refine k_catch C T [] ({ startPc := 0, endPc := 12, handlerPc := 15, catchType := 13 } : ExceptionTableEntry) [({ startPc := 0, endPc := 12, handlerPc := 19, catchType := 15 } : ExceptionTableEntry)] (hTb.trans rfl) (fun z hz => nomatch hz) (by decide) (by decide) q321 (by decide) ?_
      refine k_astore C [(5, .ref q9), (0, .ref a0), (1, .int p0), (2, .int p1), (3, .int p2), (4, .ref o)] (by decide) rfl dL_serve_15 ?_
      refine k_iconst C 1 (by decide) dL_serve_17 ?_
      exact k_iret C rfl (by rw [hk]; decide) (by rw [hk, if_neg (by decide), if_neg (by decide)]) dL_serve_18
    · refine k_catch C T [({ startPc := 0, endPc := 12, handlerPc := 15, catchType := 13 } : ExceptionTableEntry)] ({ startPc := 0, endPc := 12, handlerPc := 19, catchType := 15 } : ExceptionTableEntry) [] (hTb.trans rfl) (fun z hz => by rcases List.mem_singleton.mp hz with rfl; exact ⟨by decide, _, q321, T.2.2.2.2.1⟩) (by decide) (by decide) q322 (by decide) ?_
      refine k_astore C [(5, .ref q9), (0, .ref a0), (1, .int p0), (2, .int p1), (3, .int p2), (4, .ref o)] (by decide) rfl dL_serve_19 ?_
      refine k_iconst C 2 (by decide) dL_serve_21 ?_
      exact k_iret C rfl (by rw [hk]; decide) (by rw [hk, if_neg (by decide), if_neg (by decide)]) dL_serve_22
    · exact absurd hk (ncO_serve p0 p1 p2 X)
  · refine k_i2l C dL_serve_10 ?_
    refine k_last C (wC a0 a1 a2 a3 a4 a5 a6 (xX2_serve p0 p1 p2 X).2.2 ++ [(o, cJ1 cJ (xX2_serve p0 p1 p2 X).2.1.toInt64)]) 7 rfl vi1_0 (by rw [aJ_s]; rfl) dL_serve_11 ?_
    refine k_goto C 23 (by decide) dL_serve_12 ?_
    refine k_iconst C 0 (by decide) dL_serve_23 ?_
    exact k_iret C rfl (by rw [hk]; decide) (by rw [if_pos hk, if_pos hk]) dL_serve_24
theorem hdL_strike : yL_strike.cls ≠ "java/lang/invoke/MethodHandle" ∧ yL_strike.cls ≠ "java/lang/invoke/VarHandle" ∧ (parseMethodDescriptor yL_strike.desc).map (fun d => d.parameters.length) = some 6 := by decide +kernel
theorem ncO_strike (p0 : Int32) (p1 : Int32) (p2 : Int32) (p3 : Int32) (X : Co) : ¬ (xX2_strike p0 p1 p2 p3 X).1 = 3 := by unfold xX2_strike; (repeat' split) <;> (first | exact (show ¬ (0 : Int32) = 3 by decide) | exact (show ¬ (1 : Int32) = 3 by decide) | exact (show ¬ (2 : Int32) = 3 by decide))
set_option maxHeartbeats 4000000 in
set_option maxRecDepth 100000 in
theorem mL_strike (l : Launch) (hl : l.stackTraces = false) (D : va_G) (cI cJ : ClassId) (a0 a1 a2 a3 a4 a5 a6 o : Nat) (p0 : Int32) (p1 : Int32) (p2 : Int32) (p3 : Int32) (u : Int64) (X : Co) : kCH l D cI cJ yL_strike (.codeWith yL_strike cL_strike 7 (some .int) [(0, 14, 17, 13), (0, 14, 21, 15)]) { frames := 7, cells := 1, slots := 6, locals := 154 } [.ref a0, .int p0, .int p1, .int p2, .int p3, .ref o] (wC a0 a1 a2 a3 a4 a5 a6 X ++ [(o, cJ1 cJ u)]) (kK (xX2_strike p0 p1 p2 p3 X).1 1 2 9) (wC a0 a1 a2 a3 a4 a5 a6 (if (xX2_strike p0 p1 p2 p3 X).1 = 0 then (xX2_strike p0 p1 p2 p3 X).2.2 else X) ++ [(o, cJ1 cJ (if (xX2_strike p0 p1 p2 p3 X).1 = 0 then (xX2_strike p0 p1 p2 p3 X).2.1.toInt64 else u))]) := by
  refine fun sz => k_ofH (lv := [(0, .ref a0), (1, .int p0), (2, .int p1), (3, .int p2), (4, .int p3), (5, .ref o)]) (by decide) sz (Nat.le_of_ble_eq_true rfl) rfl ?_
  intro p e s m args below meth c hsz hTb T C
  refine k_aload C dL_strike_0 5 rfl ?_
  refine k_iconst C 0 (by decide) dL_strike_2 ?_
  refine k_aload_n C dL_strike_3 0 rfl ?_
  refine k_iload_n C dL_strike_4 1 rfl ?_
  refine k_iload_n C dL_strike_5 2 rfl ?_
  refine k_iload_n C dL_strike_6 3 rfl ?_
  refine k_iload C dL_strike_7 4 rfl ?_
  refine k_callX C T (x_X2_strike l hl D cI cJ a0 a1 a2 a3 a4 a5 a6 p0 p1 p2 p3 X) (cwV 4 C.2.2.2.2.1 (kGV q433 q434 q435 q58 q436) rfl rfl rfl ⟨rfl, hdX2_strike⟩ ⟨Nat.le_of_ble_eq_true rfl, Nat.le_of_ble_eq_true rfl⟩) [0, 1, 2, 3, 4, 5, 6] [7] [1, 2, 3, 4, 5, 6, 7, 0] [(o, cJ1 cJ u)] (wC a0 a1 a2 a3 a4 a5 a6 (xX2_strike p0 p1 p2 p3 X).2.2 ++ [(o, cJ1 cJ u)]) rfl rfl rfl rfl (by decide) [a0, a1, a2, a3, a4, a5, a6] rfl rfl rfl rfl rfl 0 2 rfl rfl rfl (Nat.le_of_ble_eq_true rfl) ⟨Nat.le_of_ble_eq_true rfl, Nat.le_of_ble_eq_true rfl⟩ rfl dL_strike_9 (fun E q9 hE => ?_) (fun hk => ?_)
  · rcases hE with ⟨hk, rfl⟩ | ⟨hk, rfl⟩ | ⟨hk, rfl⟩
    · refine k_catch C T [] ({ startPc := 0, endPc := 14, handlerPc := 17, catchType := 13 } : ExceptionTableEntry) [({ startPc := 0, endPc := 14, handlerPc := 21, catchType := 15 } : ExceptionTableEntry)] (hTb.trans rfl) (fun z hz => nomatch hz) (by decide) (by decide) q321 (by decide) ?_
      refine k_astore C [(6, .ref q9), (0, .ref a0), (1, .int p0), (2, .int p1), (3, .int p2), (4, .int p3), (5, .ref o)] (by decide) rfl dL_strike_17 ?_
      refine k_iconst C 1 (by decide) dL_strike_19 ?_
      exact k_iret C rfl (by rw [hk]; decide) (by rw [hk, if_neg (by decide), if_neg (by decide)]) dL_strike_20
    · refine k_catch C T [({ startPc := 0, endPc := 14, handlerPc := 17, catchType := 13 } : ExceptionTableEntry)] ({ startPc := 0, endPc := 14, handlerPc := 21, catchType := 15 } : ExceptionTableEntry) [] (hTb.trans rfl) (fun z hz => by rcases List.mem_singleton.mp hz with rfl; exact ⟨by decide, _, q321, T.2.2.2.2.1⟩) (by decide) (by decide) q322 (by decide) ?_
      refine k_astore C [(6, .ref q9), (0, .ref a0), (1, .int p0), (2, .int p1), (3, .int p2), (4, .int p3), (5, .ref o)] (by decide) rfl dL_strike_21 ?_
      refine k_iconst C 2 (by decide) dL_strike_23 ?_
      exact k_iret C rfl (by rw [hk]; decide) (by rw [hk, if_neg (by decide), if_neg (by decide)]) dL_strike_24
    · exact absurd hk (ncO_strike p0 p1 p2 p3 X)
  · refine k_i2l C dL_strike_12 ?_
    refine k_last C (wC a0 a1 a2 a3 a4 a5 a6 (xX2_strike p0 p1 p2 p3 X).2.2 ++ [(o, cJ1 cJ (xX2_strike p0 p1 p2 p3 X).2.1.toInt64)]) 7 rfl vi1_0 (by rw [aJ_s]; rfl) dL_strike_13 ?_
    refine k_goto C 25 (by decide) dL_strike_14 ?_
    refine k_iconst C 0 (by decide) dL_strike_25 ?_
    exact k_iret C rfl (by rw [hk]; decide) (by rw [if_pos hk, if_pos hk]) dL_strike_26
theorem hdL_leave : yL_leave.cls ≠ "java/lang/invoke/MethodHandle" ∧ yL_leave.cls ≠ "java/lang/invoke/VarHandle" ∧ (parseMethodDescriptor yL_leave.desc).map (fun d => d.parameters.length) = some 2 := by decide +kernel
theorem ncA_leave  (X : Co) : ¬ (xX2_leave X).1 = 1 := by unfold xX2_leave; (repeat' split) <;> (first | exact (show ¬ (0 : Int32) = 1 by decide) | exact (show ¬ (2 : Int32) = 1 by decide) | exact (show ¬ (3 : Int32) = 1 by decide))
theorem ncO_leave  (X : Co) : ¬ (xX2_leave X).1 = 3 := by unfold xX2_leave; (repeat' split) <;> (first | exact (show ¬ (0 : Int32) = 3 by decide) | exact (show ¬ (1 : Int32) = 3 by decide) | exact (show ¬ (2 : Int32) = 3 by decide))
set_option maxHeartbeats 4000000 in
set_option maxRecDepth 100000 in
theorem mL_leave (l : Launch) (hl : l.stackTraces = false) (D : va_G) (cI cJ : ClassId) (a0 a1 a2 a3 a4 a5 a6 o : Nat)  (u : Int64) (X : Co) : kCH l D cI cJ yL_leave (.codeWith yL_leave cL_leave 3 (some .int) [(0, 8, 11, 15)]) { frames := 7, cells := 1, slots := 6, locals := 110 } [.ref a0, .ref o] (wC a0 a1 a2 a3 a4 a5 a6 X ++ [(o, cJ1 cJ u)]) (kK (xX2_leave X).1 9 1 9) (wC a0 a1 a2 a3 a4 a5 a6 (if (xX2_leave X).1 = 0 then (xX2_leave X).2.2 else X) ++ [(o, cJ1 cJ (if (xX2_leave X).1 = 0 then (xX2_leave X).2.1.toInt64 else u))]) := by
  refine fun sz => k_ofH (lv := [(0, .ref a0), (1, .ref o)]) (by decide) sz (Nat.le_of_ble_eq_true rfl) rfl ?_
  intro p e s m args below meth c hsz hTb T C
  refine k_aload_n C dL_leave_0 1 rfl ?_
  refine k_iconst C 0 (by decide) dL_leave_1 ?_
  refine k_aload_n C dL_leave_2 0 rfl ?_
  refine k_callX C T (x_X2_leave l hl D cI cJ a0 a1 a2 a3 a4 a5 a6  X) (cwV 0 C.2.2.2.2.1 (kGV q477 q478 q479 q58 q480) rfl rfl rfl ⟨rfl, hdX2_leave⟩ ⟨Nat.le_of_ble_eq_true rfl, Nat.le_of_ble_eq_true rfl⟩) [0, 1, 2, 3, 4, 5, 6] [7] [1, 2, 3, 4, 5, 6, 7, 0] [(o, cJ1 cJ u)] (wC a0 a1 a2 a3 a4 a5 a6 (xX2_leave X).2.2 ++ [(o, cJ1 cJ u)]) rfl rfl rfl rfl (by decide) [a0, a1, a2, a3, a4, a5, a6] rfl rfl rfl rfl rfl 0 2 rfl rfl rfl (Nat.le_of_ble_eq_true rfl) ⟨Nat.le_of_ble_eq_true rfl, Nat.le_of_ble_eq_true rfl⟩ rfl dL_leave_3 (fun E q9 hE => ?_) (fun hk => ?_)
  · rcases hE with ⟨hk, rfl⟩ | ⟨hk, rfl⟩ | ⟨hk, rfl⟩
    · exact absurd hk (ncA_leave  X)
    · refine k_catch C T [] ({ startPc := 0, endPc := 8, handlerPc := 11, catchType := 15 } : ExceptionTableEntry) [] (hTb.trans rfl) (fun z hz => nomatch hz) (by decide) (by decide) q322 (by decide) ?_
      refine k_astore_n C [(2, .ref q9), (0, .ref a0), (1, .ref o)] (by decide) rfl dL_leave_11 ?_
      refine k_iconst C 1 (by decide) dL_leave_12 ?_
      exact k_iret C rfl (by rw [hk]; decide) (by rw [hk, if_neg (by decide), if_neg (by decide)]) dL_leave_13
    · exact absurd hk (ncO_leave  X)
  · refine k_i2l C dL_leave_6 ?_
    refine k_last C (wC a0 a1 a2 a3 a4 a5 a6 (xX2_leave X).2.2 ++ [(o, cJ1 cJ (xX2_leave X).2.1.toInt64)]) 7 rfl vi1_0 (by rw [aJ_s]; rfl) dL_leave_7 ?_
    refine k_goto C 14 (by decide) dL_leave_8 ?_
    refine k_iconst C 0 (by decide) dL_leave_14 ?_
    exact k_iret C rfl (by rw [hk]; decide) (by rw [if_pos hk, if_pos hk]) dL_leave_15
theorem hdL_let : yL_let.cls ≠ "java/lang/invoke/MethodHandle" ∧ yL_let.cls ≠ "java/lang/invoke/VarHandle" ∧ (parseMethodDescriptor yL_let.desc).map (fun d => d.parameters.length) = some 2 := by decide +kernel
theorem ncA_let  (X : Co) : ¬ (xX2_let X).1 = 1 := by unfold xX2_let; (repeat' split) <;> (first | exact (show ¬ (0 : Int32) = 1 by decide) | exact (show ¬ (2 : Int32) = 1 by decide) | exact (show ¬ (3 : Int32) = 1 by decide))
theorem ncO_let  (X : Co) : ¬ (xX2_let X).1 = 3 := by unfold xX2_let; (repeat' split) <;> (first | exact (show ¬ (0 : Int32) = 3 by decide) | exact (show ¬ (1 : Int32) = 3 by decide) | exact (show ¬ (2 : Int32) = 3 by decide))
set_option maxHeartbeats 4000000 in
set_option maxRecDepth 100000 in
theorem mL_let (l : Launch) (hl : l.stackTraces = false) (D : va_G) (cI cJ : ClassId) (a0 a1 a2 a3 a4 a5 a6 o : Nat)  (u : Int64) (X : Co) : kCH l D cI cJ yL_let (.codeWith yL_let cL_let 3 (some .int) [(0, 8, 11, 15)]) { frames := 7, cells := 1, slots := 6, locals := 111 } [.ref a0, .ref o] (wC a0 a1 a2 a3 a4 a5 a6 X ++ [(o, cJ1 cJ u)]) (kK (xX2_let X).1 9 1 9) (wC a0 a1 a2 a3 a4 a5 a6 (if (xX2_let X).1 = 0 then (xX2_let X).2.2 else X) ++ [(o, cJ1 cJ (if (xX2_let X).1 = 0 then (xX2_let X).2.1.toInt64 else u))]) := by
  refine fun sz => k_ofH (lv := [(0, .ref a0), (1, .ref o)]) (by decide) sz (Nat.le_of_ble_eq_true rfl) rfl ?_
  intro p e s m args below meth c hsz hTb T C
  refine k_aload_n C dL_let_0 1 rfl ?_
  refine k_iconst C 0 (by decide) dL_let_1 ?_
  refine k_aload_n C dL_let_2 0 rfl ?_
  refine k_callX C T (x_X2_let l hl D cI cJ a0 a1 a2 a3 a4 a5 a6  X) (cwV 0 C.2.2.2.2.1 (kGV q484 q485 q486 q58 q487) rfl rfl rfl ⟨rfl, hdX2_let⟩ ⟨Nat.le_of_ble_eq_true rfl, Nat.le_of_ble_eq_true rfl⟩) [0, 1, 2, 3, 4, 5, 6] [7] [1, 2, 3, 4, 5, 6, 7, 0] [(o, cJ1 cJ u)] (wC a0 a1 a2 a3 a4 a5 a6 (xX2_let X).2.2 ++ [(o, cJ1 cJ u)]) rfl rfl rfl rfl (by decide) [a0, a1, a2, a3, a4, a5, a6] rfl rfl rfl rfl rfl 0 2 rfl rfl rfl (Nat.le_of_ble_eq_true rfl) ⟨Nat.le_of_ble_eq_true rfl, Nat.le_of_ble_eq_true rfl⟩ rfl dL_let_3 (fun E q9 hE => ?_) (fun hk => ?_)
  · rcases hE with ⟨hk, rfl⟩ | ⟨hk, rfl⟩ | ⟨hk, rfl⟩
    · exact absurd hk (ncA_let  X)
    · refine k_catch C T [] ({ startPc := 0, endPc := 8, handlerPc := 11, catchType := 15 } : ExceptionTableEntry) [] (hTb.trans rfl) (fun z hz => nomatch hz) (by decide) (by decide) q322 (by decide) ?_
      refine k_astore_n C [(2, .ref q9), (0, .ref a0), (1, .ref o)] (by decide) rfl dL_let_11 ?_
      refine k_iconst C 1 (by decide) dL_let_12 ?_
      exact k_iret C rfl (by rw [hk]; decide) (by rw [hk, if_neg (by decide), if_neg (by decide)]) dL_let_13
    · exact absurd hk (ncO_let  X)
  · refine k_i2l C dL_let_6 ?_
    refine k_last C (wC a0 a1 a2 a3 a4 a5 a6 (xX2_let X).2.2 ++ [(o, cJ1 cJ (xX2_let X).2.1.toInt64)]) 7 rfl vi1_0 (by rw [aJ_s]; rfl) dL_let_7 ?_
    refine k_goto C 14 (by decide) dL_let_8 ?_
    refine k_iconst C 0 (by decide) dL_let_14 ?_
    exact k_iret C rfl (by rw [hk]; decide) (by rw [if_pos hk, if_pos hk]) dL_let_15
theorem hdL_set : yL_set.cls ≠ "java/lang/invoke/MethodHandle" ∧ yL_set.cls ≠ "java/lang/invoke/VarHandle" ∧ (parseMethodDescriptor yL_set.desc).map (fun d => d.parameters.length) = some 3 := by decide +kernel
theorem ncO_set (p0 : Int32) (X : Co) : ¬ (xX2_set p0 X).1 = 3 := by unfold xX2_set; (repeat' split) <;> (first | exact (show ¬ (0 : Int32) = 3 by decide) | exact (show ¬ (1 : Int32) = 3 by decide) | exact (show ¬ (2 : Int32) = 3 by decide))
set_option maxHeartbeats 4000000 in
set_option maxRecDepth 100000 in
theorem mL_set (l : Launch) (hl : l.stackTraces = false) (D : va_G) (cI cJ : ClassId) (a0 a1 a2 a3 a4 a5 a6 o : Nat) (p0 : Int32) (u : Int64) (X : Co) : kCH l D cI cJ yL_set (.codeWith yL_set cL_set 4 (some .int) [(0, 9, 12, 13), (0, 9, 15, 15)]) { frames := 7, cells := 1, slots := 6, locals := 111 } [.ref a0, .int p0, .ref o] (wC a0 a1 a2 a3 a4 a5 a6 X ++ [(o, cJ1 cJ u)]) (kK (xX2_set p0 X).1 1 2 9) (wC a0 a1 a2 a3 a4 a5 a6 (if (xX2_set p0 X).1 = 0 then (xX2_set p0 X).2.2 else X) ++ [(o, cJ1 cJ (if (xX2_set p0 X).1 = 0 then (xX2_set p0 X).2.1.toInt64 else u))]) := by
  refine fun sz => k_ofH (lv := [(0, .ref a0), (1, .int p0), (2, .ref o)]) (by decide) sz (Nat.le_of_ble_eq_true rfl) rfl ?_
  intro p e s m args below meth c hsz hTb T C
  refine k_aload_n C dL_set_0 2 rfl ?_
  refine k_iconst C 0 (by decide) dL_set_1 ?_
  refine k_aload_n C dL_set_2 0 rfl ?_
  refine k_iload_n C dL_set_3 1 rfl ?_
  refine k_callX C T (x_X2_set l hl D cI cJ a0 a1 a2 a3 a4 a5 a6 p0 X) (cwV 1 C.2.2.2.2.1 (kGV q491 q492 q493 q58 q494) rfl rfl rfl ⟨rfl, hdX2_set⟩ ⟨Nat.le_of_ble_eq_true rfl, Nat.le_of_ble_eq_true rfl⟩) [0, 1, 2, 3, 4, 5, 6] [7] [1, 2, 3, 4, 5, 6, 7, 0] [(o, cJ1 cJ u)] (wC a0 a1 a2 a3 a4 a5 a6 (xX2_set p0 X).2.2 ++ [(o, cJ1 cJ u)]) rfl rfl rfl rfl (by decide) [a0, a1, a2, a3, a4, a5, a6] rfl rfl rfl rfl rfl 0 2 rfl rfl rfl (Nat.le_of_ble_eq_true rfl) ⟨Nat.le_of_ble_eq_true rfl, Nat.le_of_ble_eq_true rfl⟩ rfl dL_set_4 (fun E q9 hE => ?_) (fun hk => ?_)
  · rcases hE with ⟨hk, rfl⟩ | ⟨hk, rfl⟩ | ⟨hk, rfl⟩
    · refine k_catch C T [] ({ startPc := 0, endPc := 9, handlerPc := 12, catchType := 13 } : ExceptionTableEntry) [({ startPc := 0, endPc := 9, handlerPc := 15, catchType := 15 } : ExceptionTableEntry)] (hTb.trans rfl) (fun z hz => nomatch hz) (by decide) (by decide) q321 (by decide) ?_
      refine k_astore_n C [(3, .ref q9), (0, .ref a0), (1, .int p0), (2, .ref o)] (by decide) rfl dL_set_12 ?_
      refine k_iconst C 1 (by decide) dL_set_13 ?_
      exact k_iret C rfl (by rw [hk]; decide) (by rw [hk, if_neg (by decide), if_neg (by decide)]) dL_set_14
    · refine k_catch C T [({ startPc := 0, endPc := 9, handlerPc := 12, catchType := 13 } : ExceptionTableEntry)] ({ startPc := 0, endPc := 9, handlerPc := 15, catchType := 15 } : ExceptionTableEntry) [] (hTb.trans rfl) (fun z hz => by rcases List.mem_singleton.mp hz with rfl; exact ⟨by decide, _, q321, T.2.2.2.2.1⟩) (by decide) (by decide) q322 (by decide) ?_
      refine k_astore_n C [(3, .ref q9), (0, .ref a0), (1, .int p0), (2, .ref o)] (by decide) rfl dL_set_15 ?_
      refine k_iconst C 2 (by decide) dL_set_16 ?_
      exact k_iret C rfl (by rw [hk]; decide) (by rw [hk, if_neg (by decide), if_neg (by decide)]) dL_set_17
    · exact absurd hk (ncO_set p0 X)
  · refine k_i2l C dL_set_7 ?_
    refine k_last C (wC a0 a1 a2 a3 a4 a5 a6 (xX2_set p0 X).2.2 ++ [(o, cJ1 cJ (xX2_set p0 X).2.1.toInt64)]) 7 rfl vi1_0 (by rw [aJ_s]; rfl) dL_set_8 ?_
    refine k_goto C 18 (by decide) dL_set_9 ?_
    refine k_iconst C 0 (by decide) dL_set_18 ?_
    exact k_iret C rfl (by rw [hk]; decide) (by rw [if_pos hk, if_pos hk]) dL_set_19
theorem hdL_match : yL_match.cls ≠ "java/lang/invoke/MethodHandle" ∧ yL_match.cls ≠ "java/lang/invoke/VarHandle" ∧ (parseMethodDescriptor yL_match.desc).map (fun d => d.parameters.length) = some 3 := by decide +kernel
theorem ncA_match (p0 : Int32) (X : Co) : ¬ (xX2_match p0 X).1 = 1 := by unfold xX2_match; (repeat' split) <;> (first | exact (show ¬ (0 : Int32) = 1 by decide) | exact (show ¬ (2 : Int32) = 1 by decide) | exact (show ¬ (3 : Int32) = 1 by decide))
theorem ncS_match (p0 : Int32) (X : Co) : ¬ (xX2_match p0 X).1 = 2 := by unfold xX2_match; (repeat' split) <;> (first | exact (show ¬ (0 : Int32) = 2 by decide) | exact (show ¬ (1 : Int32) = 2 by decide) | exact (show ¬ (3 : Int32) = 2 by decide))
set_option maxHeartbeats 4000000 in
set_option maxRecDepth 100000 in
theorem mL_match (l : Launch) (hl : l.stackTraces = false) (D : va_G) (cI cJ : ClassId) (a0 a1 a2 a3 a4 a5 a6 o : Nat) (p0 : Int32) (u : Int64) (X : Co) : kCH l D cI cJ yL_match (.codeWith yL_match cL_match 4 (some .int) [(0, 9, 12, 35)]) { frames := 7, cells := 1, slots := 6, locals := 112 } [.ref a0, .int p0, .ref o] (wC a0 a1 a2 a3 a4 a5 a6 X ++ [(o, cJ1 cJ u)]) (kK (xX2_match p0 X).1 9 9 1) (wC a0 a1 a2 a3 a4 a5 a6 (if (xX2_match p0 X).1 = 0 then (xX2_match p0 X).2.2 else X) ++ [(o, cJ1 cJ (if (xX2_match p0 X).1 = 0 then (xX2_match p0 X).2.1.toInt64 else u))]) := by
  refine fun sz => k_ofH (lv := [(0, .ref a0), (1, .int p0), (2, .ref o)]) (by decide) sz (Nat.le_of_ble_eq_true rfl) rfl ?_
  intro p e s m args below meth c hsz hTb T C
  refine k_aload_n C dL_match_0 2 rfl ?_
  refine k_iconst C 0 (by decide) dL_match_1 ?_
  refine k_aload_n C dL_match_2 0 rfl ?_
  refine k_iload_n C dL_match_3 1 rfl ?_
  refine k_callX C T (x_X2_match l hl D cI cJ a0 a1 a2 a3 a4 a5 a6 p0 X) (cwV 1 C.2.2.2.2.1 (kGV q501 q502 q503 q58 q504) rfl rfl rfl ⟨rfl, hdX2_match⟩ ⟨Nat.le_of_ble_eq_true rfl, Nat.le_of_ble_eq_true rfl⟩) [0, 1, 2, 3, 4, 5, 6] [7] [1, 2, 3, 4, 5, 6, 7, 0] [(o, cJ1 cJ u)] (wC a0 a1 a2 a3 a4 a5 a6 (xX2_match p0 X).2.2 ++ [(o, cJ1 cJ u)]) rfl rfl rfl rfl (by decide) [a0, a1, a2, a3, a4, a5, a6] rfl rfl rfl rfl rfl 0 2 rfl rfl rfl (Nat.le_of_ble_eq_true rfl) ⟨Nat.le_of_ble_eq_true rfl, Nat.le_of_ble_eq_true rfl⟩ rfl dL_match_4 (fun E q9 hE => ?_) (fun hk => ?_)
  · rcases hE with ⟨hk, rfl⟩ | ⟨hk, rfl⟩ | ⟨hk, rfl⟩
    · exact absurd hk (ncA_match p0 X)
    · exact absurd hk (ncS_match p0 X)
    · refine k_catch C T [] ({ startPc := 0, endPc := 9, handlerPc := 12, catchType := 35 } : ExceptionTableEntry) [] (hTb.trans rfl) (fun z hz => nomatch hz) (by decide) (by decide) q500 (by decide) ?_
      refine k_astore_n C [(3, .ref q9), (0, .ref a0), (1, .int p0), (2, .ref o)] (by decide) rfl dL_match_12 ?_
      refine k_iconst C 1 (by decide) dL_match_13 ?_
      exact k_iret C rfl (by rw [hk]; decide) (by rw [hk, if_neg (by decide), if_neg (by decide)]) dL_match_14
  · refine k_i2l C dL_match_7 ?_
    refine k_last C (wC a0 a1 a2 a3 a4 a5 a6 (xX2_match p0 X).2.2 ++ [(o, cJ1 cJ (xX2_match p0 X).2.1.toInt64)]) 7 rfl vi1_0 (by rw [aJ_s]; rfl) dL_match_8 ?_
    refine k_goto C 15 (by decide) dL_match_9 ?_
    refine k_iconst C 0 (by decide) dL_match_15 ?_
    exact k_iret C rfl (by rw [hk]; decide) (by rw [if_pos hk, if_pos hk]) dL_match_16
theorem hdL_ball : yL_ball.cls ≠ "java/lang/invoke/MethodHandle" ∧ yL_ball.cls ≠ "java/lang/invoke/VarHandle" ∧ (parseMethodDescriptor yL_ball.desc).map (fun d => d.parameters.length) = some 3 := by decide +kernel
theorem ncA_ball (p0 : Int32) (X : Co) : ¬ (gX2_ball p0 X).1 = 1 := by unfold gX2_ball; (repeat' split) <;> (first | (unfold xX2_ball_bad; (repeat' split) <;> (first | exact (show ¬ (0 : Int32) = 1 by decide) | exact (show ¬ (2 : Int32) = 1 by decide) | exact (show ¬ (3 : Int32) = 1 by decide))) | (unfold xX2_ball_0; (repeat' split) <;> (first | exact (show ¬ (0 : Int32) = 1 by decide) | exact (show ¬ (2 : Int32) = 1 by decide) | exact (show ¬ (3 : Int32) = 1 by decide))) | (unfold xX2_ball_1; (repeat' split) <;> (first | exact (show ¬ (0 : Int32) = 1 by decide) | exact (show ¬ (2 : Int32) = 1 by decide) | exact (show ¬ (3 : Int32) = 1 by decide))) | (unfold xX2_ball_2; (repeat' split) <;> (first | exact (show ¬ (0 : Int32) = 1 by decide) | exact (show ¬ (2 : Int32) = 1 by decide) | exact (show ¬ (3 : Int32) = 1 by decide))) | (unfold xX2_ball_3; (repeat' split) <;> (first | exact (show ¬ (0 : Int32) = 1 by decide) | exact (show ¬ (2 : Int32) = 1 by decide) | exact (show ¬ (3 : Int32) = 1 by decide))) | (unfold xX2_ball_4; (repeat' split) <;> (first | exact (show ¬ (0 : Int32) = 1 by decide) | exact (show ¬ (2 : Int32) = 1 by decide) | exact (show ¬ (3 : Int32) = 1 by decide))) | (unfold xX2_ball_5; (repeat' split) <;> (first | exact (show ¬ (0 : Int32) = 1 by decide) | exact (show ¬ (2 : Int32) = 1 by decide) | exact (show ¬ (3 : Int32) = 1 by decide))))
theorem ncS_ball (p0 : Int32) (X : Co) : ¬ (gX2_ball p0 X).1 = 2 := by unfold gX2_ball; (repeat' split) <;> (first | (unfold xX2_ball_bad; (repeat' split) <;> (first | exact (show ¬ (0 : Int32) = 2 by decide) | exact (show ¬ (1 : Int32) = 2 by decide) | exact (show ¬ (3 : Int32) = 2 by decide))) | (unfold xX2_ball_0; (repeat' split) <;> (first | exact (show ¬ (0 : Int32) = 2 by decide) | exact (show ¬ (1 : Int32) = 2 by decide) | exact (show ¬ (3 : Int32) = 2 by decide))) | (unfold xX2_ball_1; (repeat' split) <;> (first | exact (show ¬ (0 : Int32) = 2 by decide) | exact (show ¬ (1 : Int32) = 2 by decide) | exact (show ¬ (3 : Int32) = 2 by decide))) | (unfold xX2_ball_2; (repeat' split) <;> (first | exact (show ¬ (0 : Int32) = 2 by decide) | exact (show ¬ (1 : Int32) = 2 by decide) | exact (show ¬ (3 : Int32) = 2 by decide))) | (unfold xX2_ball_3; (repeat' split) <;> (first | exact (show ¬ (0 : Int32) = 2 by decide) | exact (show ¬ (1 : Int32) = 2 by decide) | exact (show ¬ (3 : Int32) = 2 by decide))) | (unfold xX2_ball_4; (repeat' split) <;> (first | exact (show ¬ (0 : Int32) = 2 by decide) | exact (show ¬ (1 : Int32) = 2 by decide) | exact (show ¬ (3 : Int32) = 2 by decide))) | (unfold xX2_ball_5; (repeat' split) <;> (first | exact (show ¬ (0 : Int32) = 2 by decide) | exact (show ¬ (1 : Int32) = 2 by decide) | exact (show ¬ (3 : Int32) = 2 by decide))))
set_option maxHeartbeats 4000000 in
set_option maxRecDepth 100000 in
theorem mL_ball (l : Launch) (hl : l.stackTraces = false) (D : va_G) (cI cJ : ClassId) (a0 a1 a2 a3 a4 a5 a6 o : Nat) (p0 : Int32) (u : Int64) (X : Co) : kCH l D cI cJ yL_ball (.codeWith yL_ball cL_ball 4 (some .int) [(0, 9, 12, 35)]) { frames := 7, cells := 1, slots := 6, locals := 111 } [.ref a0, .int p0, .ref o] (wC a0 a1 a2 a3 a4 a5 a6 X ++ [(o, cJ1 cJ u)]) (kK (gX2_ball p0 X).1 9 9 1) (wC a0 a1 a2 a3 a4 a5 a6 (if (gX2_ball p0 X).1 = 0 then (gX2_ball p0 X).2.2 else X) ++ [(o, cJ1 cJ (if (gX2_ball p0 X).1 = 0 then (gX2_ball p0 X).2.1.toInt64 else u))]) := by
  refine fun sz => k_ofH (lv := [(0, .ref a0), (1, .int p0), (2, .ref o)]) (by decide) sz (Nat.le_of_ble_eq_true rfl) rfl ?_
  intro p e s m args below meth c hsz hTb T C
  refine k_aload_n C dL_ball_0 2 rfl ?_
  refine k_iconst C 0 (by decide) dL_ball_1 ?_
  refine k_aload_n C dL_ball_2 0 rfl ?_
  refine k_iload_n C dL_ball_3 1 rfl ?_
  refine k_callX C T (y_X2_ball l hl D cI cJ a0 a1 a2 a3 a4 a5 a6 p0 X) (cwV 1 C.2.2.2.2.1 (kGV q513 q301 q302 q58 q303) rfl rfl rfl ⟨rfl, hdX2_ball⟩ ⟨Nat.le_of_ble_eq_true rfl, Nat.le_of_ble_eq_true rfl⟩) [0, 1, 2, 3, 4, 5, 6] [7] [1, 2, 3, 4, 5, 6, 7, 0] [(o, cJ1 cJ u)] (wC a0 a1 a2 a3 a4 a5 a6 (gX2_ball p0 X).2.2 ++ [(o, cJ1 cJ u)]) rfl rfl rfl rfl (by decide) [a0, a1, a2, a3, a4, a5, a6] rfl rfl rfl rfl rfl 0 2 rfl rfl rfl (Nat.le_of_ble_eq_true rfl) ⟨Nat.le_of_ble_eq_true rfl, Nat.le_of_ble_eq_true rfl⟩ rfl dL_ball_4 (fun E q9 hE => ?_) (fun hk => ?_)
  · rcases hE with ⟨hk, rfl⟩ | ⟨hk, rfl⟩ | ⟨hk, rfl⟩
    · exact absurd hk (ncA_ball p0 X)
    · exact absurd hk (ncS_ball p0 X)
    · refine k_catch C T [] ({ startPc := 0, endPc := 9, handlerPc := 12, catchType := 35 } : ExceptionTableEntry) [] (hTb.trans rfl) (fun z hz => nomatch hz) (by decide) (by decide) q500 (by decide) ?_
      refine k_astore_n C [(3, .ref q9), (0, .ref a0), (1, .int p0), (2, .ref o)] (by decide) rfl dL_ball_12 ?_
      refine k_iconst C 1 (by decide) dL_ball_13 ?_
      exact k_iret C rfl (by rw [hk]; decide) (by rw [hk, if_neg (by decide), if_neg (by decide)]) dL_ball_14
  · refine k_i2l C dL_ball_7 ?_
    refine k_last C (wC a0 a1 a2 a3 a4 a5 a6 (gX2_ball p0 X).2.2 ++ [(o, cJ1 cJ (gX2_ball p0 X).2.1.toInt64)]) 7 rfl vi1_0 (by rw [aJ_s]; rfl) dL_ball_8 ?_
    refine k_goto C 15 (by decide) dL_ball_9 ?_
    refine k_iconst C 0 (by decide) dL_ball_15 ?_
    exact k_iret C rfl (by rw [hk]; decide) (by rw [if_pos hk, if_pos hk]) dL_ball_16
theorem hdL_told : yL_told.cls ≠ "java/lang/invoke/MethodHandle" ∧ yL_told.cls ≠ "java/lang/invoke/VarHandle" ∧ (parseMethodDescriptor yL_told.desc).map (fun d => d.parameters.length) = some 4 := by decide +kernel
theorem ncA_told (p0 : Int32) (p1 : Int32) (X : Co) : ¬ (gX2_told p0 p1 X).1 = 1 := by unfold gX2_told; (repeat' split) <;> (first | (unfold xX2_told_bad; (repeat' split) <;> (first | exact (show ¬ (0 : Int32) = 1 by decide) | exact (show ¬ (2 : Int32) = 1 by decide) | exact (show ¬ (3 : Int32) = 1 by decide))) | (unfold xX2_told_00; (repeat' split) <;> (first | exact (show ¬ (0 : Int32) = 1 by decide) | exact (show ¬ (2 : Int32) = 1 by decide) | exact (show ¬ (3 : Int32) = 1 by decide))) | (unfold xX2_told_01; (repeat' split) <;> (first | exact (show ¬ (0 : Int32) = 1 by decide) | exact (show ¬ (2 : Int32) = 1 by decide) | exact (show ¬ (3 : Int32) = 1 by decide))) | (unfold xX2_told_02; (repeat' split) <;> (first | exact (show ¬ (0 : Int32) = 1 by decide) | exact (show ¬ (2 : Int32) = 1 by decide) | exact (show ¬ (3 : Int32) = 1 by decide))) | (unfold xX2_told_03; (repeat' split) <;> (first | exact (show ¬ (0 : Int32) = 1 by decide) | exact (show ¬ (2 : Int32) = 1 by decide) | exact (show ¬ (3 : Int32) = 1 by decide))) | (unfold xX2_told_10; (repeat' split) <;> (first | exact (show ¬ (0 : Int32) = 1 by decide) | exact (show ¬ (2 : Int32) = 1 by decide) | exact (show ¬ (3 : Int32) = 1 by decide))) | (unfold xX2_told_11; (repeat' split) <;> (first | exact (show ¬ (0 : Int32) = 1 by decide) | exact (show ¬ (2 : Int32) = 1 by decide) | exact (show ¬ (3 : Int32) = 1 by decide))) | (unfold xX2_told_12; (repeat' split) <;> (first | exact (show ¬ (0 : Int32) = 1 by decide) | exact (show ¬ (2 : Int32) = 1 by decide) | exact (show ¬ (3 : Int32) = 1 by decide))) | (unfold xX2_told_13; (repeat' split) <;> (first | exact (show ¬ (0 : Int32) = 1 by decide) | exact (show ¬ (2 : Int32) = 1 by decide) | exact (show ¬ (3 : Int32) = 1 by decide))))
theorem ncS_told (p0 : Int32) (p1 : Int32) (X : Co) : ¬ (gX2_told p0 p1 X).1 = 2 := by unfold gX2_told; (repeat' split) <;> (first | (unfold xX2_told_bad; (repeat' split) <;> (first | exact (show ¬ (0 : Int32) = 2 by decide) | exact (show ¬ (1 : Int32) = 2 by decide) | exact (show ¬ (3 : Int32) = 2 by decide))) | (unfold xX2_told_00; (repeat' split) <;> (first | exact (show ¬ (0 : Int32) = 2 by decide) | exact (show ¬ (1 : Int32) = 2 by decide) | exact (show ¬ (3 : Int32) = 2 by decide))) | (unfold xX2_told_01; (repeat' split) <;> (first | exact (show ¬ (0 : Int32) = 2 by decide) | exact (show ¬ (1 : Int32) = 2 by decide) | exact (show ¬ (3 : Int32) = 2 by decide))) | (unfold xX2_told_02; (repeat' split) <;> (first | exact (show ¬ (0 : Int32) = 2 by decide) | exact (show ¬ (1 : Int32) = 2 by decide) | exact (show ¬ (3 : Int32) = 2 by decide))) | (unfold xX2_told_03; (repeat' split) <;> (first | exact (show ¬ (0 : Int32) = 2 by decide) | exact (show ¬ (1 : Int32) = 2 by decide) | exact (show ¬ (3 : Int32) = 2 by decide))) | (unfold xX2_told_10; (repeat' split) <;> (first | exact (show ¬ (0 : Int32) = 2 by decide) | exact (show ¬ (1 : Int32) = 2 by decide) | exact (show ¬ (3 : Int32) = 2 by decide))) | (unfold xX2_told_11; (repeat' split) <;> (first | exact (show ¬ (0 : Int32) = 2 by decide) | exact (show ¬ (1 : Int32) = 2 by decide) | exact (show ¬ (3 : Int32) = 2 by decide))) | (unfold xX2_told_12; (repeat' split) <;> (first | exact (show ¬ (0 : Int32) = 2 by decide) | exact (show ¬ (1 : Int32) = 2 by decide) | exact (show ¬ (3 : Int32) = 2 by decide))) | (unfold xX2_told_13; (repeat' split) <;> (first | exact (show ¬ (0 : Int32) = 2 by decide) | exact (show ¬ (1 : Int32) = 2 by decide) | exact (show ¬ (3 : Int32) = 2 by decide))))
set_option maxHeartbeats 4000000 in
set_option maxRecDepth 100000 in
theorem mL_told (l : Launch) (hl : l.stackTraces = false) (D : va_G) (cI cJ : ClassId) (a0 a1 a2 a3 a4 a5 a6 o : Nat) (p0 : Int32) (p1 : Int32) (u : Int64) (X : Co) : kCH l D cI cJ yL_told (.codeWith yL_told cL_told 5 (some .int) [(0, 10, 13, 35)]) { frames := 7, cells := 1, slots := 6, locals := 112 } [.ref a0, .int p0, .int p1, .ref o] (wC a0 a1 a2 a3 a4 a5 a6 X ++ [(o, cJ1 cJ u)]) (kK (gX2_told p0 p1 X).1 9 9 1) (wC a0 a1 a2 a3 a4 a5 a6 (if (gX2_told p0 p1 X).1 = 0 then (gX2_told p0 p1 X).2.2 else X) ++ [(o, cJ1 cJ (if (gX2_told p0 p1 X).1 = 0 then (gX2_told p0 p1 X).2.1.toInt64 else u))]) := by
  refine fun sz => k_ofH (lv := [(0, .ref a0), (1, .int p0), (2, .int p1), (3, .ref o)]) (by decide) sz (Nat.le_of_ble_eq_true rfl) rfl ?_
  intro p e s m args below meth c hsz hTb T C
  refine k_aload_n C dL_told_0 3 rfl ?_
  refine k_iconst C 0 (by decide) dL_told_1 ?_
  refine k_aload_n C dL_told_2 0 rfl ?_
  refine k_iload_n C dL_told_3 1 rfl ?_
  refine k_iload_n C dL_told_4 2 rfl ?_
  refine k_callX C T (y_X2_told l hl D cI cJ a0 a1 a2 a3 a4 a5 a6 p0 p1 X) (cwV 2 C.2.2.2.2.1 (kGV q517 q285 q286 q58 q287) rfl rfl rfl ⟨rfl, hdX2_told⟩ ⟨Nat.le_of_ble_eq_true rfl, Nat.le_of_ble_eq_true rfl⟩) [0, 1, 2, 3, 4, 5, 6] [7] [1, 2, 3, 4, 5, 6, 7, 0] [(o, cJ1 cJ u)] (wC a0 a1 a2 a3 a4 a5 a6 (gX2_told p0 p1 X).2.2 ++ [(o, cJ1 cJ u)]) rfl rfl rfl rfl (by decide) [a0, a1, a2, a3, a4, a5, a6] rfl rfl rfl rfl rfl 0 2 rfl rfl rfl (Nat.le_of_ble_eq_true rfl) ⟨Nat.le_of_ble_eq_true rfl, Nat.le_of_ble_eq_true rfl⟩ rfl dL_told_5 (fun E q9 hE => ?_) (fun hk => ?_)
  · rcases hE with ⟨hk, rfl⟩ | ⟨hk, rfl⟩ | ⟨hk, rfl⟩
    · exact absurd hk (ncA_told p0 p1 X)
    · exact absurd hk (ncS_told p0 p1 X)
    · refine k_catch C T [] ({ startPc := 0, endPc := 10, handlerPc := 13, catchType := 35 } : ExceptionTableEntry) [] (hTb.trans rfl) (fun z hz => nomatch hz) (by decide) (by decide) q500 (by decide) ?_
      refine k_astore C [(4, .ref q9), (0, .ref a0), (1, .int p0), (2, .int p1), (3, .ref o)] (by decide) rfl dL_told_13 ?_
      refine k_iconst C 1 (by decide) dL_told_15 ?_
      exact k_iret C rfl (by rw [hk]; decide) (by rw [hk, if_neg (by decide), if_neg (by decide)]) dL_told_16
  · refine k_i2l C dL_told_8 ?_
    refine k_last C (wC a0 a1 a2 a3 a4 a5 a6 (gX2_told p0 p1 X).2.2 ++ [(o, cJ1 cJ (gX2_told p0 p1 X).2.1.toInt64)]) 7 rfl vi1_0 (by rw [aJ_s]; rfl) dL_told_9 ?_
    refine k_goto C 17 (by decide) dL_told_10 ?_
    refine k_iconst C 0 (by decide) dL_told_17 ?_
    exact k_iret C rfl (by rw [hk]; decide) (by rw [if_pos hk, if_pos hk]) dL_told_18
theorem hdL_count : yL_count.cls ≠ "java/lang/invoke/MethodHandle" ∧ yL_count.cls ≠ "java/lang/invoke/VarHandle" ∧ (parseMethodDescriptor yL_count.desc).map (fun d => d.parameters.length) = some 3 := by decide +kernel
theorem ncA_count (p0 : Int32) (X : Co) : ¬ (gX2_count p0 X).1 = 1 := by unfold gX2_count; (repeat' split) <;> (first | (unfold xX2_count_bad; (repeat' split) <;> (first | exact (show ¬ (0 : Int32) = 1 by decide) | exact (show ¬ (2 : Int32) = 1 by decide) | exact (show ¬ (3 : Int32) = 1 by decide))) | (unfold xX2_count_0; (repeat' split) <;> (first | exact (show ¬ (0 : Int32) = 1 by decide) | exact (show ¬ (2 : Int32) = 1 by decide) | exact (show ¬ (3 : Int32) = 1 by decide))) | (unfold xX2_count_1; (repeat' split) <;> (first | exact (show ¬ (0 : Int32) = 1 by decide) | exact (show ¬ (2 : Int32) = 1 by decide) | exact (show ¬ (3 : Int32) = 1 by decide))) | (unfold xX2_count_2; (repeat' split) <;> (first | exact (show ¬ (0 : Int32) = 1 by decide) | exact (show ¬ (2 : Int32) = 1 by decide) | exact (show ¬ (3 : Int32) = 1 by decide))) | (unfold xX2_count_3; (repeat' split) <;> (first | exact (show ¬ (0 : Int32) = 1 by decide) | exact (show ¬ (2 : Int32) = 1 by decide) | exact (show ¬ (3 : Int32) = 1 by decide))) | (unfold xX2_count_4; (repeat' split) <;> (first | exact (show ¬ (0 : Int32) = 1 by decide) | exact (show ¬ (2 : Int32) = 1 by decide) | exact (show ¬ (3 : Int32) = 1 by decide))) | (unfold xX2_count_5; (repeat' split) <;> (first | exact (show ¬ (0 : Int32) = 1 by decide) | exact (show ¬ (2 : Int32) = 1 by decide) | exact (show ¬ (3 : Int32) = 1 by decide))) | (unfold xX2_count_6; (repeat' split) <;> (first | exact (show ¬ (0 : Int32) = 1 by decide) | exact (show ¬ (2 : Int32) = 1 by decide) | exact (show ¬ (3 : Int32) = 1 by decide))) | (unfold xX2_count_7; (repeat' split) <;> (first | exact (show ¬ (0 : Int32) = 1 by decide) | exact (show ¬ (2 : Int32) = 1 by decide) | exact (show ¬ (3 : Int32) = 1 by decide))) | (unfold xX2_count_8; (repeat' split) <;> (first | exact (show ¬ (0 : Int32) = 1 by decide) | exact (show ¬ (2 : Int32) = 1 by decide) | exact (show ¬ (3 : Int32) = 1 by decide))))
theorem ncS_count (p0 : Int32) (X : Co) : ¬ (gX2_count p0 X).1 = 2 := by unfold gX2_count; (repeat' split) <;> (first | (unfold xX2_count_bad; (repeat' split) <;> (first | exact (show ¬ (0 : Int32) = 2 by decide) | exact (show ¬ (1 : Int32) = 2 by decide) | exact (show ¬ (3 : Int32) = 2 by decide))) | (unfold xX2_count_0; (repeat' split) <;> (first | exact (show ¬ (0 : Int32) = 2 by decide) | exact (show ¬ (1 : Int32) = 2 by decide) | exact (show ¬ (3 : Int32) = 2 by decide))) | (unfold xX2_count_1; (repeat' split) <;> (first | exact (show ¬ (0 : Int32) = 2 by decide) | exact (show ¬ (1 : Int32) = 2 by decide) | exact (show ¬ (3 : Int32) = 2 by decide))) | (unfold xX2_count_2; (repeat' split) <;> (first | exact (show ¬ (0 : Int32) = 2 by decide) | exact (show ¬ (1 : Int32) = 2 by decide) | exact (show ¬ (3 : Int32) = 2 by decide))) | (unfold xX2_count_3; (repeat' split) <;> (first | exact (show ¬ (0 : Int32) = 2 by decide) | exact (show ¬ (1 : Int32) = 2 by decide) | exact (show ¬ (3 : Int32) = 2 by decide))) | (unfold xX2_count_4; (repeat' split) <;> (first | exact (show ¬ (0 : Int32) = 2 by decide) | exact (show ¬ (1 : Int32) = 2 by decide) | exact (show ¬ (3 : Int32) = 2 by decide))) | (unfold xX2_count_5; (repeat' split) <;> (first | exact (show ¬ (0 : Int32) = 2 by decide) | exact (show ¬ (1 : Int32) = 2 by decide) | exact (show ¬ (3 : Int32) = 2 by decide))) | (unfold xX2_count_6; (repeat' split) <;> (first | exact (show ¬ (0 : Int32) = 2 by decide) | exact (show ¬ (1 : Int32) = 2 by decide) | exact (show ¬ (3 : Int32) = 2 by decide))) | (unfold xX2_count_7; (repeat' split) <;> (first | exact (show ¬ (0 : Int32) = 2 by decide) | exact (show ¬ (1 : Int32) = 2 by decide) | exact (show ¬ (3 : Int32) = 2 by decide))) | (unfold xX2_count_8; (repeat' split) <;> (first | exact (show ¬ (0 : Int32) = 2 by decide) | exact (show ¬ (1 : Int32) = 2 by decide) | exact (show ¬ (3 : Int32) = 2 by decide))))
set_option maxHeartbeats 4000000 in
set_option maxRecDepth 100000 in
theorem mL_count (l : Launch) (hl : l.stackTraces = false) (D : va_G) (cI cJ : ClassId) (a0 a1 a2 a3 a4 a5 a6 o : Nat) (p0 : Int32) (u : Int64) (X : Co) : kCH l D cI cJ yL_count (.codeWith yL_count cL_count 4 (some .int) [(0, 9, 12, 35)]) { frames := 7, cells := 1, slots := 6, locals := 111 } [.ref a0, .int p0, .ref o] (wC a0 a1 a2 a3 a4 a5 a6 X ++ [(o, cJ1 cJ u)]) (kK (gX2_count p0 X).1 9 9 1) (wC a0 a1 a2 a3 a4 a5 a6 (if (gX2_count p0 X).1 = 0 then (gX2_count p0 X).2.2 else X) ++ [(o, cJ1 cJ (if (gX2_count p0 X).1 = 0 then (gX2_count p0 X).2.1.toInt64 else u))]) := by
  refine fun sz => k_ofH (lv := [(0, .ref a0), (1, .int p0), (2, .ref o)]) (by decide) sz (Nat.le_of_ble_eq_true rfl) rfl ?_
  intro p e s m args below meth c hsz hTb T C
  refine k_aload_n C dL_count_0 2 rfl ?_
  refine k_iconst C 0 (by decide) dL_count_1 ?_
  refine k_aload_n C dL_count_2 0 rfl ?_
  refine k_iload_n C dL_count_3 1 rfl ?_
  refine k_callX C T (y_X2_count l hl D cI cJ a0 a1 a2 a3 a4 a5 a6 p0 X) (cwV 1 C.2.2.2.2.1 (kGV q521 q202 q203 q58 q204) rfl rfl rfl ⟨rfl, hdX2_count⟩ ⟨Nat.le_of_ble_eq_true rfl, Nat.le_of_ble_eq_true rfl⟩) [0, 1, 2, 3, 4, 5, 6] [7] [1, 2, 3, 4, 5, 6, 7, 0] [(o, cJ1 cJ u)] (wC a0 a1 a2 a3 a4 a5 a6 (gX2_count p0 X).2.2 ++ [(o, cJ1 cJ u)]) rfl rfl rfl rfl (by decide) [a0, a1, a2, a3, a4, a5, a6] rfl rfl rfl rfl rfl 0 2 rfl rfl rfl (Nat.le_of_ble_eq_true rfl) ⟨Nat.le_of_ble_eq_true rfl, Nat.le_of_ble_eq_true rfl⟩ rfl dL_count_4 (fun E q9 hE => ?_) (fun hk => ?_)
  · rcases hE with ⟨hk, rfl⟩ | ⟨hk, rfl⟩ | ⟨hk, rfl⟩
    · exact absurd hk (ncA_count p0 X)
    · exact absurd hk (ncS_count p0 X)
    · refine k_catch C T [] ({ startPc := 0, endPc := 9, handlerPc := 12, catchType := 35 } : ExceptionTableEntry) [] (hTb.trans rfl) (fun z hz => nomatch hz) (by decide) (by decide) q500 (by decide) ?_
      refine k_astore_n C [(3, .ref q9), (0, .ref a0), (1, .int p0), (2, .ref o)] (by decide) rfl dL_count_12 ?_
      refine k_iconst C 1 (by decide) dL_count_13 ?_
      exact k_iret C rfl (by rw [hk]; decide) (by rw [hk, if_neg (by decide), if_neg (by decide)]) dL_count_14
  · refine k_i2l C dL_count_7 ?_
    refine k_last C (wC a0 a1 a2 a3 a4 a5 a6 (gX2_count p0 X).2.2 ++ [(o, cJ1 cJ (gX2_count p0 X).2.1.toInt64)]) 7 rfl vi1_0 (by rw [aJ_s]; rfl) dL_count_8 ?_
    refine k_goto C 15 (by decide) dL_count_9 ?_
    refine k_iconst C 0 (by decide) dL_count_15 ?_
    exact k_iret C rfl (by rw [hk]; decide) (by rw [if_pos hk, if_pos hk]) dL_count_16
theorem hdL_flight : yL_flight.cls ≠ "java/lang/invoke/MethodHandle" ∧ yL_flight.cls ≠ "java/lang/invoke/VarHandle" ∧ (parseMethodDescriptor yL_flight.desc).map (fun d => d.parameters.length) = some 4 := by decide +kernel
theorem ncS_flight (p0 : Int32) (p1 : Int32) (X : Co) : ¬ (gX2_flight p0 p1 X).1 = 2 := by unfold gX2_flight; (repeat' split) <;> (first | (unfold xX2_flight_bad; (repeat' split) <;> (first | exact (show ¬ (0 : Int32) = 2 by decide) | exact (show ¬ (1 : Int32) = 2 by decide) | exact (show ¬ (3 : Int32) = 2 by decide))) | (unfold xX2_flight_0; (repeat' split) <;> (first | exact (show ¬ (0 : Int32) = 2 by decide) | exact (show ¬ (1 : Int32) = 2 by decide) | exact (show ¬ (3 : Int32) = 2 by decide))) | (unfold xX2_flight_1; (repeat' split) <;> (first | exact (show ¬ (0 : Int32) = 2 by decide) | exact (show ¬ (1 : Int32) = 2 by decide) | exact (show ¬ (3 : Int32) = 2 by decide))) | (unfold xX2_flight_2; (repeat' split) <;> (first | exact (show ¬ (0 : Int32) = 2 by decide) | exact (show ¬ (1 : Int32) = 2 by decide) | exact (show ¬ (3 : Int32) = 2 by decide))) | (unfold xX2_flight_3; (repeat' split) <;> (first | exact (show ¬ (0 : Int32) = 2 by decide) | exact (show ¬ (1 : Int32) = 2 by decide) | exact (show ¬ (3 : Int32) = 2 by decide))) | (unfold xX2_flight_4; (repeat' split) <;> (first | exact (show ¬ (0 : Int32) = 2 by decide) | exact (show ¬ (1 : Int32) = 2 by decide) | exact (show ¬ (3 : Int32) = 2 by decide))) | (unfold xX2_flight_5; (repeat' split) <;> (first | exact (show ¬ (0 : Int32) = 2 by decide) | exact (show ¬ (1 : Int32) = 2 by decide) | exact (show ¬ (3 : Int32) = 2 by decide))) | (unfold xX2_flight_6; (repeat' split) <;> (first | exact (show ¬ (0 : Int32) = 2 by decide) | exact (show ¬ (1 : Int32) = 2 by decide) | exact (show ¬ (3 : Int32) = 2 by decide))) | (unfold xX2_flight_7; (repeat' split) <;> (first | exact (show ¬ (0 : Int32) = 2 by decide) | exact (show ¬ (1 : Int32) = 2 by decide) | exact (show ¬ (3 : Int32) = 2 by decide))) | (unfold xX2_flight_8; (repeat' split) <;> (first | exact (show ¬ (0 : Int32) = 2 by decide) | exact (show ¬ (1 : Int32) = 2 by decide) | exact (show ¬ (3 : Int32) = 2 by decide))))
set_option maxHeartbeats 4000000 in
set_option maxRecDepth 100000 in
theorem mL_flight (l : Launch) (hl : l.stackTraces = false) (D : va_G) (cI cJ : ClassId) (a0 a1 a2 a3 a4 a5 a6 o : Nat) (p0 : Int32) (p1 : Int32) (u : Int64) (X : Co) : kCH l D cI cJ yL_flight (.codeWith yL_flight cL_flight 5 (some .int) [(0, 10, 13, 13), (0, 10, 17, 35)]) { frames := 7, cells := 1, slots := 6, locals := 149 } [.ref a0, .int p0, .int p1, .ref o] (wC a0 a1 a2 a3 a4 a5 a6 X ++ [(o, cJ1 cJ u)]) (kK (gX2_flight p0 p1 X).1 1 9 2) (wC a0 a1 a2 a3 a4 a5 a6 (if (gX2_flight p0 p1 X).1 = 0 then (gX2_flight p0 p1 X).2.2 else X) ++ [(o, cJ1 cJ (if (gX2_flight p0 p1 X).1 = 0 then (gX2_flight p0 p1 X).2.1.toInt64 else u))]) := by
  refine fun sz => k_ofH (lv := [(0, .ref a0), (1, .int p0), (2, .int p1), (3, .ref o)]) (by decide) sz (Nat.le_of_ble_eq_true rfl) rfl ?_
  intro p e s m args below meth c hsz hTb T C
  refine k_aload_n C dL_flight_0 3 rfl ?_
  refine k_iconst C 0 (by decide) dL_flight_1 ?_
  refine k_aload_n C dL_flight_2 0 rfl ?_
  refine k_iload_n C dL_flight_3 1 rfl ?_
  refine k_iload_n C dL_flight_4 2 rfl ?_
  refine k_callX C T (y_X2_flight l hl D cI cJ a0 a1 a2 a3 a4 a5 a6 p0 p1 X) (cwV 2 C.2.2.2.2.1 (kGV q525 q526 q527 q58 q528) rfl rfl rfl ⟨rfl, hdX2_flight⟩ ⟨Nat.le_of_ble_eq_true rfl, Nat.le_of_ble_eq_true rfl⟩) [0, 1, 2, 3, 4, 5, 6] [7] [1, 2, 3, 4, 5, 6, 7, 0] [(o, cJ1 cJ u)] (wC a0 a1 a2 a3 a4 a5 a6 (gX2_flight p0 p1 X).2.2 ++ [(o, cJ1 cJ u)]) rfl rfl rfl rfl (by decide) [a0, a1, a2, a3, a4, a5, a6] rfl rfl rfl rfl rfl 0 2 rfl rfl rfl (Nat.le_of_ble_eq_true rfl) ⟨Nat.le_of_ble_eq_true rfl, Nat.le_of_ble_eq_true rfl⟩ rfl dL_flight_5 (fun E q9 hE => ?_) (fun hk => ?_)
  · rcases hE with ⟨hk, rfl⟩ | ⟨hk, rfl⟩ | ⟨hk, rfl⟩
    · refine k_catch C T [] ({ startPc := 0, endPc := 10, handlerPc := 13, catchType := 13 } : ExceptionTableEntry) [({ startPc := 0, endPc := 10, handlerPc := 17, catchType := 35 } : ExceptionTableEntry)] (hTb.trans rfl) (fun z hz => nomatch hz) (by decide) (by decide) q321 (by decide) ?_
      refine k_astore C [(4, .ref q9), (0, .ref a0), (1, .int p0), (2, .int p1), (3, .ref o)] (by decide) rfl dL_flight_13 ?_
      refine k_iconst C 1 (by decide) dL_flight_15 ?_
      exact k_iret C rfl (by rw [hk]; decide) (by rw [hk, if_neg (by decide), if_neg (by decide)]) dL_flight_16
    · exact absurd hk (ncS_flight p0 p1 X)
    · refine k_catch C T [({ startPc := 0, endPc := 10, handlerPc := 13, catchType := 13 } : ExceptionTableEntry)] ({ startPc := 0, endPc := 10, handlerPc := 17, catchType := 35 } : ExceptionTableEntry) [] (hTb.trans rfl) (fun z hz => by rcases List.mem_singleton.mp hz with rfl; exact ⟨by decide, _, q321, T.2.2.2.2.2⟩) (by decide) (by decide) q500 (by decide) ?_
      refine k_astore C [(4, .ref q9), (0, .ref a0), (1, .int p0), (2, .int p1), (3, .ref o)] (by decide) rfl dL_flight_17 ?_
      refine k_iconst C 2 (by decide) dL_flight_19 ?_
      exact k_iret C rfl (by rw [hk]; decide) (by rw [hk, if_neg (by decide), if_neg (by decide)]) dL_flight_20
  · refine k_i2l C dL_flight_8 ?_
    refine k_last C (wC a0 a1 a2 a3 a4 a5 a6 (gX2_flight p0 p1 X).2.2 ++ [(o, cJ1 cJ (gX2_flight p0 p1 X).2.1.toInt64)]) 7 rfl vi1_0 (by rw [aJ_s]; rfl) dL_flight_9 ?_
    refine k_goto C 21 (by decide) dL_flight_10 ?_
    refine k_iconst C 0 (by decide) dL_flight_21 ?_
    exact k_iret C rfl (by rw [hk]; decide) (by rw [if_pos hk, if_pos hk]) dL_flight_22
theorem hdL_end : yL_end.cls ≠ "java/lang/invoke/MethodHandle" ∧ yL_end.cls ≠ "java/lang/invoke/VarHandle" ∧ (parseMethodDescriptor yL_end.desc).map (fun d => d.parameters.length) = some 3 := by decide +kernel
theorem ncA_end (p0 : Int32) (X : Co) : ¬ (gX2_end p0 X).1 = 1 := by unfold gX2_end; (repeat' split) <;> (first | (unfold xX2_end_bad; (repeat' split) <;> (first | exact (show ¬ (0 : Int32) = 1 by decide) | exact (show ¬ (2 : Int32) = 1 by decide) | exact (show ¬ (3 : Int32) = 1 by decide))) | (unfold xX2_end_0; (repeat' split) <;> (first | exact (show ¬ (0 : Int32) = 1 by decide) | exact (show ¬ (2 : Int32) = 1 by decide) | exact (show ¬ (3 : Int32) = 1 by decide))) | (unfold xX2_end_1; (repeat' split) <;> (first | exact (show ¬ (0 : Int32) = 1 by decide) | exact (show ¬ (2 : Int32) = 1 by decide) | exact (show ¬ (3 : Int32) = 1 by decide))) | (unfold xX2_end_2; (repeat' split) <;> (first | exact (show ¬ (0 : Int32) = 1 by decide) | exact (show ¬ (2 : Int32) = 1 by decide) | exact (show ¬ (3 : Int32) = 1 by decide))) | (unfold xX2_end_3; (repeat' split) <;> (first | exact (show ¬ (0 : Int32) = 1 by decide) | exact (show ¬ (2 : Int32) = 1 by decide) | exact (show ¬ (3 : Int32) = 1 by decide))) | (unfold xX2_end_4; (repeat' split) <;> (first | exact (show ¬ (0 : Int32) = 1 by decide) | exact (show ¬ (2 : Int32) = 1 by decide) | exact (show ¬ (3 : Int32) = 1 by decide))))
theorem ncS_end (p0 : Int32) (X : Co) : ¬ (gX2_end p0 X).1 = 2 := by unfold gX2_end; (repeat' split) <;> (first | (unfold xX2_end_bad; (repeat' split) <;> (first | exact (show ¬ (0 : Int32) = 2 by decide) | exact (show ¬ (1 : Int32) = 2 by decide) | exact (show ¬ (3 : Int32) = 2 by decide))) | (unfold xX2_end_0; (repeat' split) <;> (first | exact (show ¬ (0 : Int32) = 2 by decide) | exact (show ¬ (1 : Int32) = 2 by decide) | exact (show ¬ (3 : Int32) = 2 by decide))) | (unfold xX2_end_1; (repeat' split) <;> (first | exact (show ¬ (0 : Int32) = 2 by decide) | exact (show ¬ (1 : Int32) = 2 by decide) | exact (show ¬ (3 : Int32) = 2 by decide))) | (unfold xX2_end_2; (repeat' split) <;> (first | exact (show ¬ (0 : Int32) = 2 by decide) | exact (show ¬ (1 : Int32) = 2 by decide) | exact (show ¬ (3 : Int32) = 2 by decide))) | (unfold xX2_end_3; (repeat' split) <;> (first | exact (show ¬ (0 : Int32) = 2 by decide) | exact (show ¬ (1 : Int32) = 2 by decide) | exact (show ¬ (3 : Int32) = 2 by decide))) | (unfold xX2_end_4; (repeat' split) <;> (first | exact (show ¬ (0 : Int32) = 2 by decide) | exact (show ¬ (1 : Int32) = 2 by decide) | exact (show ¬ (3 : Int32) = 2 by decide))))
set_option maxHeartbeats 4000000 in
set_option maxRecDepth 100000 in
theorem mL_end (l : Launch) (hl : l.stackTraces = false) (D : va_G) (cI cJ : ClassId) (a0 a1 a2 a3 a4 a5 a6 o : Nat) (p0 : Int32) (u : Int64) (X : Co) : kCH l D cI cJ yL_end (.codeWith yL_end cL_end 4 (some .int) [(0, 9, 12, 35)]) { frames := 7, cells := 1, slots := 6, locals := 111 } [.ref a0, .int p0, .ref o] (wC a0 a1 a2 a3 a4 a5 a6 X ++ [(o, cJ1 cJ u)]) (kK (gX2_end p0 X).1 9 9 1) (wC a0 a1 a2 a3 a4 a5 a6 (if (gX2_end p0 X).1 = 0 then (gX2_end p0 X).2.2 else X) ++ [(o, cJ1 cJ (if (gX2_end p0 X).1 = 0 then (gX2_end p0 X).2.1.toInt64 else u))]) := by
  refine fun sz => k_ofH (lv := [(0, .ref a0), (1, .int p0), (2, .ref o)]) (by decide) sz (Nat.le_of_ble_eq_true rfl) rfl ?_
  intro p e s m args below meth c hsz hTb T C
  refine k_aload_n C dL_end_0 2 rfl ?_
  refine k_iconst C 0 (by decide) dL_end_1 ?_
  refine k_aload_n C dL_end_2 0 rfl ?_
  refine k_iload_n C dL_end_3 1 rfl ?_
  refine k_callX C T (y_X2_end l hl D cI cJ a0 a1 a2 a3 a4 a5 a6 p0 X) (cwV 1 C.2.2.2.2.1 (kGV q537 q310 q311 q58 q312) rfl rfl rfl ⟨rfl, hdX2_end⟩ ⟨Nat.le_of_ble_eq_true rfl, Nat.le_of_ble_eq_true rfl⟩) [0, 1, 2, 3, 4, 5, 6] [7] [1, 2, 3, 4, 5, 6, 7, 0] [(o, cJ1 cJ u)] (wC a0 a1 a2 a3 a4 a5 a6 (gX2_end p0 X).2.2 ++ [(o, cJ1 cJ u)]) rfl rfl rfl rfl (by decide) [a0, a1, a2, a3, a4, a5, a6] rfl rfl rfl rfl rfl 0 2 rfl rfl rfl (Nat.le_of_ble_eq_true rfl) ⟨Nat.le_of_ble_eq_true rfl, Nat.le_of_ble_eq_true rfl⟩ rfl dL_end_4 (fun E q9 hE => ?_) (fun hk => ?_)
  · rcases hE with ⟨hk, rfl⟩ | ⟨hk, rfl⟩ | ⟨hk, rfl⟩
    · exact absurd hk (ncA_end p0 X)
    · exact absurd hk (ncS_end p0 X)
    · refine k_catch C T [] ({ startPc := 0, endPc := 9, handlerPc := 12, catchType := 35 } : ExceptionTableEntry) [] (hTb.trans rfl) (fun z hz => nomatch hz) (by decide) (by decide) q500 (by decide) ?_
      refine k_astore_n C [(3, .ref q9), (0, .ref a0), (1, .int p0), (2, .ref o)] (by decide) rfl dL_end_12 ?_
      refine k_iconst C 1 (by decide) dL_end_13 ?_
      exact k_iret C rfl (by rw [hk]; decide) (by rw [hk, if_neg (by decide), if_neg (by decide)]) dL_end_14
  · refine k_i2l C dL_end_7 ?_
    refine k_last C (wC a0 a1 a2 a3 a4 a5 a6 (gX2_end p0 X).2.2 ++ [(o, cJ1 cJ (gX2_end p0 X).2.1.toInt64)]) 7 rfl vi1_0 (by rw [aJ_s]; rfl) dL_end_8 ?_
    refine k_goto C 15 (by decide) dL_end_9 ?_
    refine k_iconst C 0 (by decide) dL_end_15 ?_
    exact k_iret C rfl (by rw [hk]; decide) (by rw [if_pos hk, if_pos hk]) dL_end_16
theorem hdL_would : yL_would.cls ≠ "java/lang/invoke/MethodHandle" ∧ yL_would.cls ≠ "java/lang/invoke/VarHandle" ∧ (parseMethodDescriptor yL_would.desc).map (fun d => d.parameters.length) = some 6 := by decide +kernel
theorem ncS_would (p0 : Int32) (p1 : Int32) (p2 : Int32) (p3 : Int32) (X : Co) : ¬ (xX2_would p0 p1 p2 p3 X).1 = 2 := by unfold xX2_would; (repeat' split) <;> (first | exact (show ¬ (0 : Int32) = 2 by decide) | exact (show ¬ (1 : Int32) = 2 by decide) | exact (show ¬ (3 : Int32) = 2 by decide))
theorem ncO_would (p0 : Int32) (p1 : Int32) (p2 : Int32) (p3 : Int32) (X : Co) : ¬ (xX2_would p0 p1 p2 p3 X).1 = 3 := by unfold xX2_would; (repeat' split) <;> (first | exact (show ¬ (0 : Int32) = 3 by decide) | exact (show ¬ (1 : Int32) = 3 by decide) | exact (show ¬ (2 : Int32) = 3 by decide))
set_option maxHeartbeats 4000000 in
set_option maxRecDepth 100000 in
theorem mL_would (l : Launch) (hl : l.stackTraces = false) (D : va_G) (cI cJ : ClassId) (a0 a1 a2 a3 a4 a5 a6 o : Nat) (p0 : Int32) (p1 : Int32) (p2 : Int32) (p3 : Int32) (u : Int64) (X : Co) : kCH l D cI cJ yL_would (.codeWith yL_would cL_would 7 (some .int) [(0, 14, 17, 13)]) { frames := 8, cells := 1, slots := 6, locals := 172 } [.ref a0, .int p0, .int p1, .int p2, .int p3, .ref o] (wC a0 a1 a2 a3 a4 a5 a6 X ++ [(o, cJ1 cJ u)]) (kK (xX2_would p0 p1 p2 p3 X).1 1 9 9) (wC a0 a1 a2 a3 a4 a5 a6 (if (xX2_would p0 p1 p2 p3 X).1 = 0 then (xX2_would p0 p1 p2 p3 X).2.2 else X) ++ [(o, cJ1 cJ (if (xX2_would p0 p1 p2 p3 X).1 = 0 then (xX2_would p0 p1 p2 p3 X).2.1.toInt64 else u))]) := by
  refine fun sz => k_ofH (lv := [(0, .ref a0), (1, .int p0), (2, .int p1), (3, .int p2), (4, .int p3), (5, .ref o)]) (by decide) sz (Nat.le_of_ble_eq_true rfl) rfl ?_
  intro p e s m args below meth c hsz hTb T C
  refine k_aload C dL_would_0 5 rfl ?_
  refine k_iconst C 0 (by decide) dL_would_2 ?_
  refine k_aload_n C dL_would_3 0 rfl ?_
  refine k_iload_n C dL_would_4 1 rfl ?_
  refine k_iload_n C dL_would_5 2 rfl ?_
  refine k_iload_n C dL_would_6 3 rfl ?_
  refine k_iload C dL_would_7 4 rfl ?_
  refine k_callX C T (x_X2_would l hl D cI cJ a0 a1 a2 a3 a4 a5 a6 p0 p1 p2 p3 X) (cwV 4 C.2.2.2.2.1 (kGV q541 q542 q543 q58 q544) rfl rfl rfl ⟨rfl, hdX2_would⟩ ⟨Nat.le_of_ble_eq_true rfl, Nat.le_of_ble_eq_true rfl⟩) [0, 1, 2, 3, 4, 5, 6] [7] [1, 2, 3, 4, 5, 6, 7, 0] [(o, cJ1 cJ u)] (wC a0 a1 a2 a3 a4 a5 a6 (xX2_would p0 p1 p2 p3 X).2.2 ++ [(o, cJ1 cJ u)]) rfl rfl rfl rfl (by decide) [a0, a1, a2, a3, a4, a5, a6] rfl rfl rfl rfl rfl 0 2 rfl rfl rfl (Nat.le_of_ble_eq_true rfl) ⟨Nat.le_of_ble_eq_true rfl, Nat.le_of_ble_eq_true rfl⟩ rfl dL_would_9 (fun E q9 hE => ?_) (fun hk => ?_)
  · rcases hE with ⟨hk, rfl⟩ | ⟨hk, rfl⟩ | ⟨hk, rfl⟩
    · refine k_catch C T [] ({ startPc := 0, endPc := 14, handlerPc := 17, catchType := 13 } : ExceptionTableEntry) [] (hTb.trans rfl) (fun z hz => nomatch hz) (by decide) (by decide) q321 (by decide) ?_
      refine k_astore C [(6, .ref q9), (0, .ref a0), (1, .int p0), (2, .int p1), (3, .int p2), (4, .int p3), (5, .ref o)] (by decide) rfl dL_would_17 ?_
      refine k_iconst C 1 (by decide) dL_would_19 ?_
      exact k_iret C rfl (by rw [hk]; decide) (by rw [hk, if_neg (by decide), if_neg (by decide)]) dL_would_20
    · exact absurd hk (ncS_would p0 p1 p2 p3 X)
    · exact absurd hk (ncO_would p0 p1 p2 p3 X)
  · refine k_i2l C dL_would_12 ?_
    refine k_last C (wC a0 a1 a2 a3 a4 a5 a6 (xX2_would p0 p1 p2 p3 X).2.2 ++ [(o, cJ1 cJ (xX2_would p0 p1 p2 p3 X).2.1.toInt64)]) 7 rfl vi1_0 (by rw [aJ_s]; rfl) dL_would_13 ?_
    refine k_goto C 21 (by decide) dL_would_14 ?_
    refine k_iconst C 0 (by decide) dL_would_21 ?_
    exact k_iret C rfl (by rw [hk]; decide) (by rw [if_pos hk, if_pos hk]) dL_would_22
theorem hdL_advise : yL_advise.cls ≠ "java/lang/invoke/MethodHandle" ∧ yL_advise.cls ≠ "java/lang/invoke/VarHandle" ∧ (parseMethodDescriptor yL_advise.desc).map (fun d => d.parameters.length) = some 3 := by decide +kernel
theorem ncS_advise (p0 : Int32) (X : Co) : ¬ (xX2_advise p0 X).1 = 2 := by unfold xX2_advise; (repeat' split) <;> (first | exact (show ¬ (0 : Int32) = 2 by decide) | exact (show ¬ (1 : Int32) = 2 by decide) | exact (show ¬ (3 : Int32) = 2 by decide))
theorem ncO_advise (p0 : Int32) (X : Co) : ¬ (xX2_advise p0 X).1 = 3 := by unfold xX2_advise; (repeat' split) <;> (first | exact (show ¬ (0 : Int32) = 3 by decide) | exact (show ¬ (1 : Int32) = 3 by decide) | exact (show ¬ (2 : Int32) = 3 by decide))
set_option maxHeartbeats 4000000 in
set_option maxRecDepth 100000 in
theorem mL_advise (l : Launch) (hl : l.stackTraces = false) (D : va_G) (cI cJ : ClassId) (a0 a1 a2 a3 a4 a5 a6 o : Nat) (p0 : Int32) (u : Int64) (X : Co) : kCH l D cI cJ yL_advise (.codeWith yL_advise cL_advise 4 (some .int) [(0, 9, 12, 13)]) { frames := 8, cells := 1, slots := 6, locals := 176 } [.ref a0, .int p0, .ref o] (wC a0 a1 a2 a3 a4 a5 a6 X ++ [(o, cJ1 cJ u)]) (kK (xX2_advise p0 X).1 1 9 9) (wC a0 a1 a2 a3 a4 a5 a6 (if (xX2_advise p0 X).1 = 0 then (xX2_advise p0 X).2.2 else X) ++ [(o, cJ1 cJ (if (xX2_advise p0 X).1 = 0 then (xX2_advise p0 X).2.1.toInt64 else u))]) := by
  refine fun sz => k_ofH (lv := [(0, .ref a0), (1, .int p0), (2, .ref o)]) (by decide) sz (Nat.le_of_ble_eq_true rfl) rfl ?_
  intro p e s m args below meth c hsz hTb T C
  refine k_aload_n C dL_advise_0 2 rfl ?_
  refine k_iconst C 0 (by decide) dL_advise_1 ?_
  refine k_aload_n C dL_advise_2 0 rfl ?_
  refine k_iload_n C dL_advise_3 1 rfl ?_
  refine k_callX C T (x_X2_advise l hl D cI cJ a0 a1 a2 a3 a4 a5 a6 p0 X) (cwV 1 C.2.2.2.2.1 (kGV q556 q557 q558 q58 q559) rfl rfl rfl ⟨rfl, hdX2_advise⟩ ⟨Nat.le_of_ble_eq_true rfl, Nat.le_of_ble_eq_true rfl⟩) [0, 1, 2, 3, 4, 5, 6] [7] [1, 2, 3, 4, 5, 6, 7, 0] [(o, cJ1 cJ u)] (wC a0 a1 a2 a3 a4 a5 a6 (xX2_advise p0 X).2.2 ++ [(o, cJ1 cJ u)]) rfl rfl rfl rfl (by decide) [a0, a1, a2, a3, a4, a5, a6] rfl rfl rfl rfl rfl 0 2 rfl rfl rfl (Nat.le_of_ble_eq_true rfl) ⟨Nat.le_of_ble_eq_true rfl, Nat.le_of_ble_eq_true rfl⟩ rfl dL_advise_4 (fun E q9 hE => ?_) (fun hk => ?_)
  · rcases hE with ⟨hk, rfl⟩ | ⟨hk, rfl⟩ | ⟨hk, rfl⟩
    · refine k_catch C T [] ({ startPc := 0, endPc := 9, handlerPc := 12, catchType := 13 } : ExceptionTableEntry) [] (hTb.trans rfl) (fun z hz => nomatch hz) (by decide) (by decide) q321 (by decide) ?_
      refine k_astore_n C [(3, .ref q9), (0, .ref a0), (1, .int p0), (2, .ref o)] (by decide) rfl dL_advise_12 ?_
      refine k_iconst C 1 (by decide) dL_advise_13 ?_
      exact k_iret C rfl (by rw [hk]; decide) (by rw [hk, if_neg (by decide), if_neg (by decide)]) dL_advise_14
    · exact absurd hk (ncS_advise p0 X)
    · exact absurd hk (ncO_advise p0 X)
  · refine k_i2l C dL_advise_7 ?_
    refine k_last C (wC a0 a1 a2 a3 a4 a5 a6 (xX2_advise p0 X).2.2 ++ [(o, cJ1 cJ (xX2_advise p0 X).2.1.toInt64)]) 7 rfl vi1_0 (by rw [aJ_s]; rfl) dL_advise_8 ?_
    refine k_goto C 15 (by decide) dL_advise_9 ?_
    refine k_iconst C 0 (by decide) dL_advise_15 ?_
    exact k_iret C rfl (by rw [hk]; decide) (by rw [if_pos hk, if_pos hk]) dL_advise_16