/-! the court: what is called from outside, with its exceptions -/
theorem hdX2_serve : yX2_serve.cls ≠ "java/lang/invoke/MethodHandle" ∧ yX2_serve.cls ≠ "java/lang/invoke/VarHandle" ∧ (parseMethodDescriptor yX2_serve.desc).map (fun d => d.parameters.length) = some 3 := by decide +kernel
noncomputable def xX2_serve (p0 : Int32) (p1 : Int32) (p2 : Int32) (X : Co) : Int32 × Int32 × Co :=
  if (fX2_isStroke p0 p1 p2) = 0 then (1, 0, X)
  else (if X.2.2.2.2.2.2.2.1 = 0 then (if (fX2_isMatchOver X) = 0 then (0, (fX2_play X.2.2.2.2.2.2.1 p0 p1 p2 (X.1, X.2.1, (fX0_placeToServe X.2.2.1), X.2.2.2.1, X.2.2.2.2.1, X.2.2.2.2.2.1, X.2.2.2.2.2.2.1, 1, X.2.2.2.2.2.2.2.2)).2.2.2.2.2.2.1, (fX2_play X.2.2.2.2.2.2.1 p0 p1 p2 (X.1, X.2.1, (fX0_placeToServe X.2.2.1), X.2.2.2.1, X.2.2.2.2.1, X.2.2.2.2.2.1, X.2.2.2.2.2.2.1, 1, X.2.2.2.2.2.2.2.2)))
      else (2, 0, X))
    else (2, 0, X))
set_option maxHeartbeats 4000000 in
set_option maxRecDepth 100000 in
theorem x_X2_serve (l : Launch) (hl : l.stackTraces = false) (D : va_G) (cI cJ : ClassId) (a0 a1 a2 a3 a4 a5 a6 : Nat) (p0 : Int32) (p1 : Int32) (p2 : Int32) (X : Co)  : kCX l D cI cJ yX2_serve (.code yX2_serve cX2_serve 4 (some .int)) { frames := 6, cells := 1, slots := 6, locals := 130 } [.ref a0, .int p0, .int p1, .int p2] (wC a0 a1 a2 a3 a4 a5 a6 X) (xX2_serve p0 p1 p2 X).1 (xX2_serve p0 p1 p2 X).2.1 (wC a0 a1 a2 a3 a4 a5 a6 (xX2_serve p0 p1 p2 X).2.2) := by
  refine fun sz => k_ofX (lv := [(0, .ref a0), (1, .int p0), (2, .int p1), (3, .int p2)]) (by decide) sz (Nat.le_of_ble_eq_true rfl) rfl ?_
  intro p e s m args below meth c hsz hx0 T C
  refine k_iload_n C dX2_serve_0 1 rfl ?_
  refine k_iload_n C dX2_serve_1 2 rfl ?_
  refine k_iload_n C dX2_serve_2 3 rfl ?_
  refine k_callS_i C (mX2_isStroke l D cI cJ p0 p1 p2) (va_cwS 3 C.2.2.2.2.1 (kGS q366 q367 q35 q368) rfl rfl rfl hdX2_isStroke ⟨Nat.le_of_ble_eq_true rfl, Nat.le_of_ble_eq_true rfl⟩) [] [0, 1, 2, 3, 4, 5, 6] [0, 1, 2, 3, 4, 5, 6] [(a0, cF a1 a2 a3 a4 a5 a6 X.2.2.2.2.2.2), (a1, cS X.1), (a2, cS X.2.1), (a3, cB X.2.2.1), (a4, cB X.2.2.2.1), (a5, cB X.2.2.2.2.1), (a6, cB X.2.2.2.2.2.1)] ([(a0, cF a1 a2 a3 a4 a5 a6 X.2.2.2.2.2.2), (a1, cS X.1), (a2, cS X.2.1), (a3, cB X.2.2.1), (a4, cB X.2.2.2.1), (a5, cB X.2.2.2.2.1), (a6, cB X.2.2.2.2.2.1)]) rfl rfl rfl rfl (by decide) [] rfl rfl rfl rfl (Nat.le_of_ble_eq_true rfl) ⟨Nat.zero_le _, Nat.zero_le _⟩ rfl dX2_serve_3 ?_
  generalize er1 : fX2_isStroke p0 p1 p2 = r1
  refine k_if_ne C 19 (by decide) dX2_serve_6 (fun c2 => ?_) (fun c2 => ?_)
  ·
    refine k_aload_n C dX2_serve_19 0 rfl ?_
    refine k_getX2 C 0 7 rfl (by decide) rfl q129 rfl dX2_serve_20 ?_
    refine k_if_ne C 33 (by decide) dX2_serve_23 (fun c3 => ?_) (fun c3 => ?_)
    ·
      have hL : xX2_serve p0 p1 p2 X = (2, 0, X) := by subst er1; exact (if_neg c2).trans ((if_neg c3).trans rfl)
      exact k_throw (cls := kISE) (text := "nothing to serve") (mc := 1) (ms := 6) C T hl hx0 (by rw [hL]; exact Or.inr (Or.inl ⟨rfl, rfl⟩)) rfl (by decide) q591 q44 (by decide) atS_tbl atS_rest (by decide) atS_ot (Nat.le_of_ble_eq_true rfl) (Nat.le_of_ble_eq_true rfl) (Nat.le_of_ble_eq_true rfl) (Nat.le_of_ble_eq_true rfl) (Nat.le_refl _) (Nat.le_refl _) dX2_serve_33 dX2_serve_36 dX2_serve_37 dX2_serve_39 dX2_serve_42
    ·
      refine k_aload_n C dX2_serve_26 0 rfl ?_
      refine k_callV_i C (mX2_isMatchOver l D cI cJ a0 a1 a2 a3 a4 a5 a6 X) (cwV 0 C.2.2.2.2.1 (kGV q381 q383 q20 q35 q384) rfl rfl rfl ⟨rfl, hdX2_isMatchOver⟩ ⟨Nat.le_of_ble_eq_true rfl, Nat.le_of_ble_eq_true rfl⟩) [0, 1, 2, 3, 4, 5, 6] [] [0, 1, 2, 3, 4, 5, 6] [] ([(a0, cF a1 a2 a3 a4 a5 a6 X.2.2.2.2.2.2), (a1, cS X.1), (a2, cS X.2.1), (a3, cB X.2.2.1), (a4, cB X.2.2.2.1), (a5, cB X.2.2.2.2.1), (a6, cB X.2.2.2.2.2.1)]) rfl rfl rfl rfl (by decide) [a0, a1, a2, a3, a4, a5, a6] rfl rfl rfl rfl 0 2 rfl rfl rfl (Nat.le_of_ble_eq_true rfl) ⟨Nat.zero_le _, Nat.zero_le _⟩ rfl dX2_serve_27 ?_
      generalize er4 : fX2_isMatchOver X = r4
      refine k_if_eq C 43 (by decide) dX2_serve_30 (fun c5 => ?_) (fun c5 => ?_)
      ·
        refine k_aload_n C dX2_serve_43 0 rfl ?_
        refine k_getX2 C 0 2 rfl (by decide) rfl q124 rfl dX2_serve_44 ?_
        refine k_callN_v C (mX0_placeToServe l D cI cJ a3 X.2.2.1) ⟨va_cnB 0 C.2.2.2.2.1 (kGN q380) rfl rfl rfl (C.2.2.2.2.2.2.1 _ qn12) (C.2.2.2.2.1 _ q37) hdX0_placeToServe ⟨Nat.le_of_ble_eq_true rfl, Nat.le_of_ble_eq_true rfl⟩, C.2.2.2.2.1 _ q379, C.2.2.2.2.1 _ q19⟩ [3] [0, 1, 2, 4, 5, 6] [0, 1, 2, 6, 3, 4, 5] [(a0, cF a1 a2 a3 a4 a5 a6 X.2.2.2.2.2.2), (a1, cS X.1), (a2, cS X.2.1), (a4, cB X.2.2.2.1), (a5, cB X.2.2.2.2.1), (a6, cB X.2.2.2.2.2.1)] ([(a0, cF a1 a2 a3 a4 a5 a6 X.2.2.2.2.2.2), (a1, cS X.1), (a2, cS X.2.1), (a3, cB (fX0_placeToServe X.2.2.1)), (a4, cB X.2.2.2.1), (a5, cB X.2.2.2.2.1), (a6, cB X.2.2.2.2.2.1)]) rfl rfl rfl rfl (by decide) [a3] rfl rfl rfl rfl 3 0 rfl rfl rfl (Nat.le_of_ble_eq_true rfl) ⟨Nat.zero_le _, Nat.zero_le _⟩ rfl dX2_serve_47 ?_
        generalize ezz6 : fX0_placeToServe X.2.2.1 = zz6
        refine k_aload_n C dX2_serve_50 0 rfl ?_
        refine k_iconst C 1 (by decide) dX2_serve_51 ?_
        refine k_putX2 C [(a0, cF a1 a2 a3 a4 a5 a6 (X.2.2.2.2.2.2.1, 1, X.2.2.2.2.2.2.2.2)), (a1, cS X.1), (a2, cS X.2.1), (a3, cB zz6), (a4, cB X.2.2.2.1), (a5, cB X.2.2.2.2.1), (a6, cB X.2.2.2.2.2.1)] 0 7 rfl rfl (by decide) q129 rfl rfl fdZ rfl rfl (Nat.le_of_ble_eq_true rfl) dX2_serve_52 ?_
        refine k_aload_n C dX2_serve_55 0 rfl ?_
        refine k_aload_n C dX2_serve_56 0 rfl ?_
        refine k_getX2 C 0 6 rfl (by decide) rfl q128 rfl dX2_serve_57 ?_
        refine k_iload_n C dX2_serve_60 1 rfl ?_
        refine k_iload_n C dX2_serve_61 2 rfl ?_
        refine k_iload_n C dX2_serve_62 3 rfl ?_
        refine k_callV_v C (mX2_play l D cI cJ a0 a1 a2 a3 a4 a5 a6 X.2.2.2.2.2.2.1 p0 p1 p2 (X.1, X.2.1, zz6, X.2.2.2.1, X.2.2.2.2.1, X.2.2.2.2.2.1, X.2.2.2.2.2.2.1, 1, X.2.2.2.2.2.2.2.2)) (cwV 4 C.2.2.2.2.1 (kGV q612 q614 q27 q35 q615) rfl rfl rfl ⟨rfl, hdX2_play⟩ ⟨Nat.le_of_ble_eq_true rfl, Nat.le_of_ble_eq_true rfl⟩) [0, 1, 2, 3, 4, 5, 6] [] [0, 1, 2, 3, 4, 5, 6] [] (wC a0 a1 a2 a3 a4 a5 a6 (fX2_play X.2.2.2.2.2.2.1 p0 p1 p2 (X.1, X.2.1, zz6, X.2.2.2.1, X.2.2.2.2.1, X.2.2.2.2.2.1, X.2.2.2.2.2.2.1, 1, X.2.2.2.2.2.2.2.2))) rfl rfl rfl rfl (by decide) [a0, a1, a2, a3, a4, a5, a6] rfl rfl rfl rfl 0 2 rfl rfl rfl (Nat.le_of_ble_eq_true rfl) ⟨Nat.zero_le _, Nat.zero_le _⟩ rfl dX2_serve_63 ?_
        generalize ezz7 : fX2_play X.2.2.2.2.2.2.1 p0 p1 p2 (X.1, X.2.1, zz6, X.2.2.2.1, X.2.2.2.2.1, X.2.2.2.2.2.1, X.2.2.2.2.2.2.1, 1, X.2.2.2.2.2.2.2.2) = zz7
        refine k_aload_n C dX2_serve_66 0 rfl ?_
        refine k_getX2 C 0 6 rfl (by decide) rfl q128 rfl dX2_serve_67 ?_
        have hL : xX2_serve p0 p1 p2 X = (0, zz7.2.2.2.2.2.2.1, zz7) := by subst ezz7; subst ezz6; subst er4; subst er1; exact (if_neg c2).trans ((if_pos c3).trans ((if_pos c5).trans rfl))
        exact k_toX (k_iretX C rfl (by rw [hL]) (by rw [hL]) (by rw [hL]) dX2_serve_70)
      ·
        have hL : xX2_serve p0 p1 p2 X = (2, 0, X) := by subst er4; subst er1; exact (if_neg c2).trans ((if_pos c3).trans ((if_neg c5).trans rfl))
        exact k_throw (cls := kISE) (text := "nothing to serve") (mc := 1) (ms := 6) C T hl hx0 (by rw [hL]; exact Or.inr (Or.inl ⟨rfl, rfl⟩)) rfl (by decide) q591 q44 (by decide) atS_tbl atS_rest (by decide) atS_ot (Nat.le_of_ble_eq_true rfl) (Nat.le_of_ble_eq_true rfl) (Nat.le_of_ble_eq_true rfl) (Nat.le_of_ble_eq_true rfl) (Nat.le_refl _) (Nat.le_refl _) dX2_serve_33 dX2_serve_36 dX2_serve_37 dX2_serve_39 dX2_serve_42
  ·
    have hL : xX2_serve p0 p1 p2 X = (1, 0, X) := by subst er1; exact (if_pos c2).trans rfl
    exact k_throw (cls := kIAE) (text := "no such stroke") (mc := 1) (ms := 6) C T hl hx0 (by rw [hL]; exact Or.inl ⟨rfl, rfl⟩) rfl (by decide) q283 q43 (by decide) atA_tbl atA_rest (by decide) atA_ot (Nat.le_of_ble_eq_true rfl) (Nat.le_of_ble_eq_true rfl) (Nat.le_of_ble_eq_true rfl) (Nat.le_of_ble_eq_true rfl) (Nat.le_refl _) (Nat.le_refl _) dX2_serve_9 dX2_serve_12 dX2_serve_13 dX2_serve_15 dX2_serve_18

theorem hdX2_strike : yX2_strike.cls ≠ "java/lang/invoke/MethodHandle" ∧ yX2_strike.cls ≠ "java/lang/invoke/VarHandle" ∧ (parseMethodDescriptor yX2_strike.desc).map (fun d => d.parameters.length) = some 4 := by decide +kernel
noncomputable def xX2_strike (p0 : Int32) (p1 : Int32) (p2 : Int32) (p3 : Int32) (X : Co) : Int32 × Int32 × Co :=
  if p0 < 1 then (1, 0, X)
  else (if 60 < p0 then (1, 0, X)
    else (if (fX2_isStroke p1 p2 p3) = 0 then (1, 0, X)
      else (if X.2.2.2.2.2.2.2.1 = 0 then (2, 0, X)
        else (if (fX2_isEndedBy p0 X) = 0 then (if (fX2_lookAhead p0 X).2.2.2.2.1.2.2.2.2.2.2.1 = 0 then (0, 1, (fX2_replayRally (fX2_lookAhead p0 X)))
            else (0, 0, (fX2_play (fX2_sideToStrike ((fX2_lookAhead p0 X).1, (fX2_lookAhead p0 X).2.1, (fX0_become (fX2_lookAhead p0 X).2.2.1 (fX2_lookAhead p0 X).2.2.2.2.1), (fX2_lookAhead p0 X).2.2.2)) p1 p2 p3 ((fX2_lookAhead p0 X).1, (fX2_lookAhead p0 X).2.1, (fX0_become (fX2_lookAhead p0 X).2.2.1 (fX2_lookAhead p0 X).2.2.2.2.1), (fX2_lookAhead p0 X).2.2.2))))
          else (0, (fX2_winRally (fX2_winnerByFlight X) X).1, (fX2_winRally (fX2_winnerByFlight X) X).2)))))
set_option maxHeartbeats 4000000 in
set_option maxRecDepth 100000 in
theorem x_X2_strike (l : Launch) (hl : l.stackTraces = false) (D : va_G) (cI cJ : ClassId) (a0 a1 a2 a3 a4 a5 a6 : Nat) (p0 : Int32) (p1 : Int32) (p2 : Int32) (p3 : Int32) (X : Co)  : kCX l D cI cJ yX2_strike (.code yX2_strike cX2_strike 5 (some .int)) { frames := 6, cells := 1, slots := 6, locals := 130 } [.ref a0, .int p0, .int p1, .int p2, .int p3] (wC a0 a1 a2 a3 a4 a5 a6 X) (xX2_strike p0 p1 p2 p3 X).1 (xX2_strike p0 p1 p2 p3 X).2.1 (wC a0 a1 a2 a3 a4 a5 a6 (xX2_strike p0 p1 p2 p3 X).2.2) := by
  refine fun sz => k_ofX (lv := [(0, .ref a0), (1, .int p0), (2, .int p1), (3, .int p2), (4, .int p3)]) (by decide) sz (Nat.le_of_ble_eq_true rfl) rfl ?_
  intro p e s m args below meth c hsz hx0 T C
  refine k_iload_n C dX2_strike_0 1 rfl ?_
  refine k_iconst C 1 (by decide) dX2_strike_1 ?_
  refine k_icmp_lt C 21 (by decide) dX2_strike_2 (fun c1 => ?_) (fun c1 => ?_)
  ·
    have hL : xX2_strike p0 p1 p2 p3 X = (1, 0, X) := by exact (if_pos c1).trans rfl
    exact k_throw (cls := kIAE) (text := "no such stroke") (mc := 1) (ms := 6) C T hl hx0 (by rw [hL]; exact Or.inl ⟨rfl, rfl⟩) rfl (by decide) q283 q43 (by decide) atA_tbl atA_rest (by decide) atA_ot (Nat.le_of_ble_eq_true rfl) (Nat.le_of_ble_eq_true rfl) (Nat.le_of_ble_eq_true rfl) (Nat.le_of_ble_eq_true rfl) (Nat.le_refl _) (Nat.le_refl _) dX2_strike_21 dX2_strike_24 dX2_strike_25 dX2_strike_27 dX2_strike_30
  ·
    refine k_iload_n C dX2_strike_5 1 rfl ?_
    refine k_bipush C 60 (by decide) dX2_strike_6 ?_
    refine k_icmp_gt C 21 (by decide) dX2_strike_8 (fun c2 => ?_) (fun c2 => ?_)
    ·
      have hL : xX2_strike p0 p1 p2 p3 X = (1, 0, X) := by exact (if_neg c1).trans ((if_pos c2).trans rfl)
      exact k_throw (cls := kIAE) (text := "no such stroke") (mc := 1) (ms := 6) C T hl hx0 (by rw [hL]; exact Or.inl ⟨rfl, rfl⟩) rfl (by decide) q283 q43 (by decide) atA_tbl atA_rest (by decide) atA_ot (Nat.le_of_ble_eq_true rfl) (Nat.le_of_ble_eq_true rfl) (Nat.le_of_ble_eq_true rfl) (Nat.le_of_ble_eq_true rfl) (Nat.le_refl _) (Nat.le_refl _) dX2_strike_21 dX2_strike_24 dX2_strike_25 dX2_strike_27 dX2_strike_30
    ·
      refine k_iload_n C dX2_strike_11 2 rfl ?_
      refine k_iload_n C dX2_strike_12 3 rfl ?_
      refine k_iload C dX2_strike_13 4 rfl ?_
      refine k_callS_i C (mX2_isStroke l D cI cJ p1 p2 p3) (va_cwS 3 C.2.2.2.2.1 (kGS q366 q367 q35 q368) rfl rfl rfl hdX2_isStroke ⟨Nat.le_of_ble_eq_true rfl, Nat.le_of_ble_eq_true rfl⟩) [] [0, 1, 2, 3, 4, 5, 6] [0, 1, 2, 3, 4, 5, 6] [(a0, cF a1 a2 a3 a4 a5 a6 X.2.2.2.2.2.2), (a1, cS X.1), (a2, cS X.2.1), (a3, cB X.2.2.1), (a4, cB X.2.2.2.1), (a5, cB X.2.2.2.2.1), (a6, cB X.2.2.2.2.2.1)] ([(a0, cF a1 a2 a3 a4 a5 a6 X.2.2.2.2.2.2), (a1, cS X.1), (a2, cS X.2.1), (a3, cB X.2.2.1), (a4, cB X.2.2.2.1), (a5, cB X.2.2.2.2.1), (a6, cB X.2.2.2.2.2.1)]) rfl rfl rfl rfl (by decide) [] rfl rfl rfl rfl (Nat.le_of_ble_eq_true rfl) ⟨Nat.zero_le _, Nat.zero_le _⟩ rfl dX2_strike_15 ?_
      generalize er3 : fX2_isStroke p1 p2 p3 = r3
      refine k_if_ne C 31 (by decide) dX2_strike_18 (fun c4 => ?_) (fun c4 => ?_)
      ·
        refine k_aload_n C dX2_strike_31 0 rfl ?_
        refine k_getX2 C 0 7 rfl (by decide) rfl q129 rfl dX2_strike_32 ?_
        refine k_if_ne C 48 (by decide) dX2_strike_35 (fun c5 => ?_) (fun c5 => ?_)
        ·
          refine k_aload_n C dX2_strike_48 0 rfl ?_
          refine k_iload_n C dX2_strike_49 1 rfl ?_
          refine k_callV_i C (mX2_isEndedBy l D cI cJ a0 a1 a2 a3 a4 a5 a6 p0 X) (cwV 1 C.2.2.2.2.1 (kGV q300 q302 q6 q35 q303) rfl rfl rfl ⟨rfl, hdX2_isEndedBy⟩ ⟨Nat.le_of_ble_eq_true rfl, Nat.le_of_ble_eq_true rfl⟩) [0, 1, 2, 3, 4, 5, 6] [] [0, 1, 2, 3, 4, 5, 6] [] ([(a0, cF a1 a2 a3 a4 a5 a6 X.2.2.2.2.2.2), (a1, cS X.1), (a2, cS X.2.1), (a3, cB X.2.2.1), (a4, cB X.2.2.2.1), (a5, cB X.2.2.2.2.1), (a6, cB X.2.2.2.2.2.1)]) rfl rfl rfl rfl (by decide) [a0, a1, a2, a3, a4, a5, a6] rfl rfl rfl rfl 0 2 rfl rfl rfl (Nat.le_of_ble_eq_true rfl) ⟨Nat.zero_le _, Nat.zero_le _⟩ rfl dX2_strike_50 ?_
          generalize er6 : fX2_isEndedBy p0 X = r6
          refine k_if_eq C 65 (by decide) dX2_strike_53 (fun c7 => ?_) (fun c7 => ?_)
          ·
            refine k_aload_n C dX2_strike_65 0 rfl ?_
            refine k_iload_n C dX2_strike_66 1 rfl ?_
            refine k_callV_v C (mX2_lookAhead l D cI cJ a0 a1 a2 a3 a4 a5 a6 p0 X) (cwV 1 C.2.2.2.2.1 (kGV q304 q306 q7 q35 q307) rfl rfl rfl ⟨rfl, hdX2_lookAhead⟩ ⟨Nat.le_of_ble_eq_true rfl, Nat.le_of_ble_eq_true rfl⟩) [0, 1, 2, 3, 4, 5, 6] [] [0, 1, 2, 3, 4, 5, 6] [] (wC a0 a1 a2 a3 a4 a5 a6 (fX2_lookAhead p0 X)) rfl rfl rfl rfl (by decide) [a0, a1, a2, a3, a4, a5, a6] rfl rfl rfl rfl 0 2 rfl rfl rfl (Nat.le_of_ble_eq_true rfl) ⟨Nat.zero_le _, Nat.zero_le _⟩ rfl dX2_strike_67 ?_
            generalize ezz8 : fX2_lookAhead p0 X = zz8
            refine k_aload_n C dX2_strike_70 0 rfl ?_
            refine k_getX2 C 0 4 rfl (by decide) rfl q126 rfl dX2_strike_71 ?_
            refine k_getNX0 C 5 6 rfl (by decide) rfl qn4 rfl dX2_strike_74 ?_
            refine k_if_ne C 86 (by decide) dX2_strike_77 (fun c9 => ?_) (fun c9 => ?_)
            ·
              refine k_aload_n C dX2_strike_86 0 rfl ?_
              refine k_getX2 C 0 2 rfl (by decide) rfl q124 rfl dX2_strike_87 ?_
              refine k_aload_n C dX2_strike_90 0 rfl ?_
              refine k_getX2 C 0 4 rfl (by decide) rfl q126 rfl dX2_strike_91 ?_
              refine k_callN_v C (mX0_become l D cI cJ a3 a5 zz8.2.2.1 zz8.2.2.2.2.1) ⟨va_cnB 1 C.2.2.2.2.1 (kGN q311) rfl rfl rfl (C.2.2.2.2.2.2.1 _ qn14) (C.2.2.2.2.1 _ q37) hdX0_become ⟨Nat.le_of_ble_eq_true rfl, Nat.le_of_ble_eq_true rfl⟩, C.2.2.2.2.1 _ q310, C.2.2.2.2.1 _ q8⟩ [3, 5] [0, 1, 2, 4, 6] [0, 1, 2, 5, 3, 6, 4] [(a0, cF a1 a2 a3 a4 a5 a6 zz8.2.2.2.2.2.2), (a1, cS zz8.1), (a2, cS zz8.2.1), (a4, cB zz8.2.2.2.1), (a6, cB zz8.2.2.2.2.2.1)] ([(a0, cF a1 a2 a3 a4 a5 a6 zz8.2.2.2.2.2.2), (a1, cS zz8.1), (a2, cS zz8.2.1), (a3, cB (fX0_become zz8.2.2.1 zz8.2.2.2.2.1)), (a4, cB zz8.2.2.2.1), (a5, cB zz8.2.2.2.2.1), (a6, cB zz8.2.2.2.2.2.1)]) rfl rfl rfl rfl (by decide) [a3, a5] rfl rfl rfl rfl 3 0 rfl rfl rfl (Nat.le_of_ble_eq_true rfl) ⟨Nat.zero_le _, Nat.zero_le _⟩ rfl dX2_strike_94 ?_
              generalize ezz10 : fX0_become zz8.2.2.1 zz8.2.2.2.2.1 = zz10
              refine k_aload_n C dX2_strike_97 0 rfl ?_
              refine k_aload_n C dX2_strike_98 0 rfl ?_
              refine k_callV_i C (mX2_sideToStrike l D cI cJ a0 a1 a2 a3 a4 a5 a6 (zz8.1, zz8.2.1, zz10, zz8.2.2.2)) (cwV 0 C.2.2.2.2.1 (kGV q264 q266 q4 q35 q267) rfl rfl rfl ⟨rfl, hdX2_sideToStrike⟩ ⟨Nat.le_of_ble_eq_true rfl, Nat.le_of_ble_eq_true rfl⟩) [0, 1, 2, 3, 4, 5, 6] [] [0, 1, 2, 3, 4, 5, 6] [] ([(a0, cF a1 a2 a3 a4 a5 a6 zz8.2.2.2.2.2.2), (a1, cS zz8.1), (a2, cS zz8.2.1), (a3, cB zz10), (a4, cB zz8.2.2.2.1), (a5, cB zz8.2.2.2.2.1), (a6, cB zz8.2.2.2.2.2.1)]) rfl rfl rfl rfl (by decide) [a0, a1, a2, a3, a4, a5, a6] rfl rfl rfl rfl 0 2 rfl rfl rfl (Nat.le_of_ble_eq_true rfl) ⟨Nat.zero_le _, Nat.zero_le _⟩ rfl dX2_strike_99 ?_
              generalize er11 : fX2_sideToStrike (zz8.1, zz8.2.1, zz10, zz8.2.2.2) = r11
              refine k_iload_n C dX2_strike_102 2 rfl ?_
              refine k_iload_n C dX2_strike_103 3 rfl ?_
              refine k_iload C dX2_strike_104 4 rfl ?_
              refine k_callV_v C (mX2_play l D cI cJ a0 a1 a2 a3 a4 a5 a6 r11 p1 p2 p3 (zz8.1, zz8.2.1, zz10, zz8.2.2.2)) (cwV 4 C.2.2.2.2.1 (kGV q612 q614 q27 q35 q615) rfl rfl rfl ⟨rfl, hdX2_play⟩ ⟨Nat.le_of_ble_eq_true rfl, Nat.le_of_ble_eq_true rfl⟩) [0, 1, 2, 3, 4, 5, 6] [] [0, 1, 2, 3, 4, 5, 6] [] (wC a0 a1 a2 a3 a4 a5 a6 (fX2_play r11 p1 p2 p3 (zz8.1, zz8.2.1, zz10, zz8.2.2.2))) rfl rfl rfl rfl (by decide) [a0, a1, a2, a3, a4, a5, a6] rfl rfl rfl rfl 0 2 rfl rfl rfl (Nat.le_of_ble_eq_true rfl) ⟨Nat.zero_le _, Nat.zero_le _⟩ rfl dX2_strike_106 ?_
              generalize ezz12 : fX2_play r11 p1 p2 p3 (zz8.1, zz8.2.1, zz10, zz8.2.2.2) = zz12
              refine k_iconst C 0 (by decide) dX2_strike_109 ?_
              have hL : xX2_strike p0 p1 p2 p3 X = (0, 0, zz12) := by subst ezz12; subst er11; subst ezz10; subst ezz8; subst er6; subst er3; exact (if_neg c1).trans ((if_neg c2).trans ((if_neg c4).trans ((if_neg c5).trans ((if_pos c7).trans ((if_neg c9).trans rfl)))))
              exact k_toX (k_iretX C rfl (by rw [hL]) (by rw [hL]) (by rw [hL]) dX2_strike_110)
            ·
              refine k_aload_n C dX2_strike_80 0 rfl ?_
              refine k_callV_v C (mX2_replayRally l D cI cJ a0 a1 a2 a3 a4 a5 a6 zz8) (cwV 0 C.2.2.2.2.1 (kGV q660 q662 q33 q35 q663) rfl rfl rfl ⟨rfl, hdX2_replayRally⟩ ⟨Nat.le_of_ble_eq_true rfl, Nat.le_of_ble_eq_true rfl⟩) [0, 1, 2, 3, 4, 5, 6] [] [0, 1, 2, 3, 4, 5, 6] [] (wC a0 a1 a2 a3 a4 a5 a6 (fX2_replayRally zz8)) rfl rfl rfl rfl (by decide) [a0, a1, a2, a3, a4, a5, a6] rfl rfl rfl rfl 0 2 rfl rfl rfl (Nat.le_of_ble_eq_true rfl) ⟨Nat.zero_le _, Nat.zero_le _⟩ rfl dX2_strike_81 ?_
              generalize ezz13 : fX2_replayRally zz8 = zz13
              refine k_iconst C 1 (by decide) dX2_strike_84 ?_
              have hL : xX2_strike p0 p1 p2 p3 X = (0, 1, zz13) := by subst ezz13; subst ezz8; subst er6; subst er3; exact (if_neg c1).trans ((if_neg c2).trans ((if_neg c4).trans ((if_neg c5).trans ((if_pos c7).trans ((if_pos c9).trans rfl)))))
              exact k_toX (k_iretX C rfl (by rw [hL]) (by rw [hL]) (by rw [hL]) dX2_strike_85)
          ·
            refine k_aload_n C dX2_strike_56 0 rfl ?_
            refine k_aload_n C dX2_strike_57 0 rfl ?_
            refine k_callV_i C (mX2_winnerByFlight l D cI cJ a0 a1 a2 a3 a4 a5 a6 X) (cwV 0 C.2.2.2.2.1 (kGV q626 q628 q28 q35 q629) rfl rfl rfl ⟨rfl, hdX2_winnerByFlight⟩ ⟨Nat.le_of_ble_eq_true rfl, Nat.le_of_ble_eq_true rfl⟩) [0, 1, 2, 3, 4, 5, 6] [] [0, 1, 2, 3, 4, 5, 6] [] ([(a0, cF a1 a2 a3 a4 a5 a6 X.2.2.2.2.2.2), (a1, cS X.1), (a2, cS X.2.1), (a3, cB X.2.2.1), (a4, cB X.2.2.2.1), (a5, cB X.2.2.2.2.1), (a6, cB X.2.2.2.2.2.1)]) rfl rfl rfl rfl (by decide) [a0, a1, a2, a3, a4, a5, a6] rfl rfl rfl rfl 0 2 rfl rfl rfl (Nat.le_of_ble_eq_true rfl) ⟨Nat.zero_le _, Nat.zero_le _⟩ rfl dX2_strike_58 ?_
            generalize er14 : fX2_winnerByFlight X = r14
            refine k_callV_i C (mX2_winRally l D cI cJ a0 a1 a2 a3 a4 a5 a6 r14 X) (cwV 1 C.2.2.2.2.1 (kGV q630 q632 q29 q35 q633) rfl rfl rfl ⟨rfl, hdX2_winRally⟩ ⟨Nat.le_of_ble_eq_true rfl, Nat.le_of_ble_eq_true rfl⟩) [0, 1, 2, 3, 4, 5, 6] [] [0, 1, 2, 3, 4, 5, 6] [] (wC a0 a1 a2 a3 a4 a5 a6 (fX2_winRally r14 X).2) rfl rfl rfl rfl (by decide) [a0, a1, a2, a3, a4, a5, a6] rfl rfl rfl rfl 0 2 rfl rfl rfl (Nat.le_of_ble_eq_true rfl) ⟨Nat.zero_le _, Nat.zero_le _⟩ rfl dX2_strike_61 ?_
            generalize ezz15 : fX2_winRally r14 X = zz15
            have hL : xX2_strike p0 p1 p2 p3 X = (0, zz15.1, zz15.2) := by subst ezz15; subst er14; subst er6; subst er3; exact (if_neg c1).trans ((if_neg c2).trans ((if_neg c4).trans ((if_neg c5).trans ((if_neg c7).trans rfl))))
            exact k_toX (k_iretX C rfl (by rw [hL]) (by rw [hL]) (by rw [hL]) dX2_strike_64)
        ·
          have hL : xX2_strike p0 p1 p2 p3 X = (2, 0, X) := by subst er3; exact (if_neg c1).trans ((if_neg c2).trans ((if_neg c4).trans ((if_pos c5).trans rfl)))
          exact k_throw (cls := kISE) (text := "no rally goes on") (mc := 1) (ms := 6) C T hl hx0 (by rw [hL]; exact Or.inr (Or.inl ⟨rfl, rfl⟩)) rfl (by decide) q591 q44 (by decide) atS_tbl atS_rest (by decide) atS_ot (Nat.le_of_ble_eq_true rfl) (Nat.le_of_ble_eq_true rfl) (Nat.le_of_ble_eq_true rfl) (Nat.le_of_ble_eq_true rfl) (Nat.le_refl _) (Nat.le_refl _) dX2_strike_38 dX2_strike_41 dX2_strike_42 dX2_strike_44 dX2_strike_47
      ·
        have hL : xX2_strike p0 p1 p2 p3 X = (1, 0, X) := by subst er3; exact (if_neg c1).trans ((if_neg c2).trans ((if_pos c4).trans rfl))
        exact k_throw (cls := kIAE) (text := "no such stroke") (mc := 1) (ms := 6) C T hl hx0 (by rw [hL]; exact Or.inl ⟨rfl, rfl⟩) rfl (by decide) q283 q43 (by decide) atA_tbl atA_rest (by decide) atA_ot (Nat.le_of_ble_eq_true rfl) (Nat.le_of_ble_eq_true rfl) (Nat.le_of_ble_eq_true rfl) (Nat.le_of_ble_eq_true rfl) (Nat.le_refl _) (Nat.le_refl _) dX2_strike_21 dX2_strike_24 dX2_strike_25 dX2_strike_27 dX2_strike_30

theorem hdX2_leave : yX2_leave.cls ≠ "java/lang/invoke/MethodHandle" ∧ yX2_leave.cls ≠ "java/lang/invoke/VarHandle" ∧ (parseMethodDescriptor yX2_leave.desc).map (fun d => d.parameters.length) = some 0 := by decide +kernel
noncomputable def xX2_leave (X : Co) : Int32 × Int32 × Co :=
  if X.2.2.2.2.2.2.2.1 = 0 then (2, 0, X)
  else (0, (fX2_winRally (fX2_winnerByFlight X) X).1, (fX2_winRally (fX2_winnerByFlight X) X).2)
set_option maxHeartbeats 4000000 in
set_option maxRecDepth 100000 in
theorem x_X2_leave (l : Launch) (hl : l.stackTraces = false) (D : va_G) (cI cJ : ClassId) (a0 a1 a2 a3 a4 a5 a6 : Nat)  (X : Co)  : kCX l D cI cJ yX2_leave (.code yX2_leave cX2_leave 1 (some .int)) { frames := 6, cells := 1, slots := 6, locals := 90 } [.ref a0] (wC a0 a1 a2 a3 a4 a5 a6 X) (xX2_leave X).1 (xX2_leave X).2.1 (wC a0 a1 a2 a3 a4 a5 a6 (xX2_leave X).2.2) := by
  refine fun sz => k_ofX (lv := [(0, .ref a0)]) (by decide) sz (Nat.le_of_ble_eq_true rfl) rfl ?_
  intro p e s m args below meth c hsz hx0 T C
  refine k_aload_n C dX2_leave_0 0 rfl ?_
  refine k_getX2 C 0 7 rfl (by decide) rfl q129 rfl dX2_leave_1 ?_
  refine k_if_ne C 17 (by decide) dX2_leave_4 (fun c1 => ?_) (fun c1 => ?_)
  ·
    refine k_aload_n C dX2_leave_17 0 rfl ?_
    refine k_aload_n C dX2_leave_18 0 rfl ?_
    refine k_callV_i C (mX2_winnerByFlight l D cI cJ a0 a1 a2 a3 a4 a5 a6 X) (cwV 0 C.2.2.2.2.1 (kGV q626 q628 q28 q35 q629) rfl rfl rfl ⟨rfl, hdX2_winnerByFlight⟩ ⟨Nat.le_of_ble_eq_true rfl, Nat.le_of_ble_eq_true rfl⟩) [0, 1, 2, 3, 4, 5, 6] [] [0, 1, 2, 3, 4, 5, 6] [] ([(a0, cF a1 a2 a3 a4 a5 a6 X.2.2.2.2.2.2), (a1, cS X.1), (a2, cS X.2.1), (a3, cB X.2.2.1), (a4, cB X.2.2.2.1), (a5, cB X.2.2.2.2.1), (a6, cB X.2.2.2.2.2.1)]) rfl rfl rfl rfl (by decide) [a0, a1, a2, a3, a4, a5, a6] rfl rfl rfl rfl 0 2 rfl rfl rfl (Nat.le_of_ble_eq_true rfl) ⟨Nat.zero_le _, Nat.zero_le _⟩ rfl dX2_leave_19 ?_
    generalize er2 : fX2_winnerByFlight X = r2
    refine k_callV_i C (mX2_winRally l D cI cJ a0 a1 a2 a3 a4 a5 a6 r2 X) (cwV 1 C.2.2.2.2.1 (kGV q630 q632 q29 q35 q633) rfl rfl rfl ⟨rfl, hdX2_winRally⟩ ⟨Nat.le_of_ble_eq_true rfl, Nat.le_of_ble_eq_true rfl⟩) [0, 1, 2, 3, 4, 5, 6] [] [0, 1, 2, 3, 4, 5, 6] [] (wC a0 a1 a2 a3 a4 a5 a6 (fX2_winRally r2 X).2) rfl rfl rfl rfl (by decide) [a0, a1, a2, a3, a4, a5, a6] rfl rfl rfl rfl 0 2 rfl rfl rfl (Nat.le_of_ble_eq_true rfl) ⟨Nat.zero_le _, Nat.zero_le _⟩ rfl dX2_leave_22 ?_
    generalize ezz3 : fX2_winRally r2 X = zz3
    have hL : xX2_leave X = (0, zz3.1, zz3.2) := by subst ezz3; subst er2; exact (if_neg c1).trans rfl
    exact k_toX (k_iretX C rfl (by rw [hL]) (by rw [hL]) (by rw [hL]) dX2_leave_25)
  ·
    have hL : xX2_leave X = (2, 0, X) := by exact (if_pos c1).trans rfl
    exact k_throw (cls := kISE) (text := "no rally goes on") (mc := 1) (ms := 6) C T hl hx0 (by rw [hL]; exact Or.inr (Or.inl ⟨rfl, rfl⟩)) rfl (by decide) q591 q44 (by decide) atS_tbl atS_rest (by decide) atS_ot (Nat.le_of_ble_eq_true rfl) (Nat.le_of_ble_eq_true rfl) (Nat.le_of_ble_eq_true rfl) (Nat.le_of_ble_eq_true rfl) (Nat.le_refl _) (Nat.le_refl _) dX2_leave_7 dX2_leave_10 dX2_leave_11 dX2_leave_13 dX2_leave_16

theorem hdX2_let : yX2_let.cls ≠ "java/lang/invoke/MethodHandle" ∧ yX2_let.cls ≠ "java/lang/invoke/VarHandle" ∧ (parseMethodDescriptor yX2_let.desc).map (fun d => d.parameters.length) = some 0 := by decide +kernel
noncomputable def xX2_let (X : Co) : Int32 × Int32 × Co :=
  if X.2.2.2.2.2.2.2.1 = 0 then (2, 0, X)
  else (0, X.2.2.2.2.2.2.2.2.1, (fX2_replayRally X))
set_option maxHeartbeats 4000000 in
set_option maxRecDepth 100000 in
theorem x_X2_let (l : Launch) (hl : l.stackTraces = false) (D : va_G) (cI cJ : ClassId) (a0 a1 a2 a3 a4 a5 a6 : Nat)  (X : Co)  : kCX l D cI cJ yX2_let (.code yX2_let cX2_let 2 (some .int)) { frames := 6, cells := 1, slots := 6, locals := 90 } [.ref a0] (wC a0 a1 a2 a3 a4 a5 a6 X) (xX2_let X).1 (xX2_let X).2.1 (wC a0 a1 a2 a3 a4 a5 a6 (xX2_let X).2.2) := by
  refine fun sz => k_ofX (lv := [(0, .ref a0)]) (by decide) sz (Nat.le_of_ble_eq_true rfl) rfl ?_
  intro p e s m args below meth c hsz hx0 T C
  refine k_aload_n C dX2_let_0 0 rfl ?_
  refine k_getX2 C 0 7 rfl (by decide) rfl q129 rfl dX2_let_1 ?_
  refine k_if_ne C 17 (by decide) dX2_let_4 (fun c1 => ?_) (fun c1 => ?_)
  ·
    refine k_aload_n C dX2_let_17 0 rfl ?_
    refine k_getX2 C 0 8 rfl (by decide) rfl q130 rfl dX2_let_18 ?_
    refine k_istore_n C [(1, .int X.2.2.2.2.2.2.2.2.1), (0, .ref a0)] (by decide) rfl dX2_let_21 ?_
    refine k_aload_n C dX2_let_22 1 rfl ?_
    refine k_callV_v C (mX2_replayRally l D cI cJ a0 a1 a2 a3 a4 a5 a6 X) (cwV 0 C.2.2.2.2.1 (kGV q660 q662 q33 q35 q663) rfl rfl rfl ⟨rfl, hdX2_replayRally⟩ ⟨Nat.le_of_ble_eq_true rfl, Nat.le_of_ble_eq_true rfl⟩) [0, 1, 2, 3, 4, 5, 6] [] [0, 1, 2, 3, 4, 5, 6] [] (wC a0 a1 a2 a3 a4 a5 a6 (fX2_replayRally X)) rfl rfl rfl rfl (by decide) [a0, a1, a2, a3, a4, a5, a6] rfl rfl rfl rfl 0 2 rfl rfl rfl (Nat.le_of_ble_eq_true rfl) ⟨Nat.zero_le _, Nat.zero_le _⟩ rfl dX2_let_23 ?_
    generalize ezz2 : fX2_replayRally X = zz2
    refine k_iload_n C dX2_let_26 0 rfl ?_
    have hL : xX2_let X = (0, X.2.2.2.2.2.2.2.2.1, zz2) := by subst ezz2; exact (if_neg c1).trans rfl
    exact k_toX (k_iretX C rfl (by rw [hL]) (by rw [hL]) (by rw [hL]) dX2_let_27)
  ·
    have hL : xX2_let X = (2, 0, X) := by exact (if_pos c1).trans rfl
    exact k_throw (cls := kISE) (text := "no rally goes on") (mc := 1) (ms := 6) C T hl hx0 (by rw [hL]; exact Or.inr (Or.inl ⟨rfl, rfl⟩)) rfl (by decide) q591 q44 (by decide) atS_tbl atS_rest (by decide) atS_ot (Nat.le_of_ble_eq_true rfl) (Nat.le_of_ble_eq_true rfl) (Nat.le_of_ble_eq_true rfl) (Nat.le_of_ble_eq_true rfl) (Nat.le_refl _) (Nat.le_refl _) dX2_let_7 dX2_let_10 dX2_let_11 dX2_let_13 dX2_let_16

theorem hdX2_set : yX2_set.cls ≠ "java/lang/invoke/MethodHandle" ∧ yX2_set.cls ≠ "java/lang/invoke/VarHandle" ∧ (parseMethodDescriptor yX2_set.desc).map (fun d => d.parameters.length) = some 1 := by decide +kernel
noncomputable def xX2_set (p0 : Int32) (X : Co) : Int32 × Int32 × Co :=
  if p0 = 3 then (if (fX2_canBeSet X) = 0 then (2, 0, X)
    else (0, (X.1.1 + p0), (X.1, X.2.1, X.2.2.1, X.2.2.2.1, X.2.2.2.2.1, X.2.2.2.2.2.1, X.2.2.2.2.2.2.1, X.2.2.2.2.2.2.2.1, X.2.2.2.2.2.2.2.2.1, (X.1.1 + p0), X.2.2.2.2.2.2.2.2.2.2)))
  else (if p0 = 5 then (if (fX2_canBeSet X) = 0 then (2, 0, X)
      else (0, (X.1.1 + p0), (X.1, X.2.1, X.2.2.1, X.2.2.2.1, X.2.2.2.2.1, X.2.2.2.2.2.1, X.2.2.2.2.2.2.1, X.2.2.2.2.2.2.2.1, X.2.2.2.2.2.2.2.2.1, (X.1.1 + p0), X.2.2.2.2.2.2.2.2.2.2)))
    else (1, 0, X))
set_option maxHeartbeats 4000000 in
set_option maxRecDepth 100000 in
theorem x_X2_set (l : Launch) (hl : l.stackTraces = false) (D : va_G) (cI cJ : ClassId) (a0 a1 a2 a3 a4 a5 a6 : Nat) (p0 : Int32) (X : Co)  : kCX l D cI cJ yX2_set (.code yX2_set cX2_set 2 (some .int)) { frames := 6, cells := 1, slots := 6, locals := 90 } [.ref a0, .int p0] (wC a0 a1 a2 a3 a4 a5 a6 X) (xX2_set p0 X).1 (xX2_set p0 X).2.1 (wC a0 a1 a2 a3 a4 a5 a6 (xX2_set p0 X).2.2) := by
  refine fun sz => k_ofX (lv := [(0, .ref a0), (1, .int p0)]) (by decide) sz (Nat.le_of_ble_eq_true rfl) rfl ?_
  intro p e s m args below meth c hsz hx0 T C
  refine k_iload_n C dX2_set_0 1 rfl ?_
  refine k_iconst C 3 (by decide) dX2_set_1 ?_
  refine k_icmp_eq C 20 (by decide) dX2_set_2 (fun c1 => ?_) (fun c1 => ?_)
  ·
    refine k_aload_n C dX2_set_20 0 rfl ?_
    refine k_callV_i C (mX2_canBeSet l D cI cJ a0 a1 a2 a3 a4 a5 a6 X) (cwV 0 C.2.2.2.2.1 (kGV q271 q273 q5 q35 q274) rfl rfl rfl ⟨rfl, hdX2_canBeSet⟩ ⟨Nat.le_of_ble_eq_true rfl, Nat.le_of_ble_eq_true rfl⟩) [0, 1, 2, 3, 4, 5, 6] [] [0, 1, 2, 3, 4, 5, 6] [] ([(a0, cF a1 a2 a3 a4 a5 a6 X.2.2.2.2.2.2), (a1, cS X.1), (a2, cS X.2.1), (a3, cB X.2.2.1), (a4, cB X.2.2.2.1), (a5, cB X.2.2.2.2.1), (a6, cB X.2.2.2.2.2.1)]) rfl rfl rfl rfl (by decide) [a0, a1, a2, a3, a4, a5, a6] rfl rfl rfl rfl 0 2 rfl rfl rfl (Nat.le_of_ble_eq_true rfl) ⟨Nat.zero_le _, Nat.zero_le _⟩ rfl dX2_set_21 ?_
    generalize er2 : fX2_canBeSet X = r2
    refine k_if_ne C 37 (by decide) dX2_set_24 (fun c3 => ?_) (fun c3 => ?_)
    ·
      refine k_aload_n C dX2_set_37 0 rfl ?_
      refine k_aload_n C dX2_set_38 0 rfl ?_
      refine k_getX2 C 0 0 rfl (by decide) rfl q122 rfl dX2_set_39 ?_
      refine k_getNX1 C 1 0 rfl (by decide) rfl qn0 rfl dX2_set_42 ?_
      refine k_iload_n C dX2_set_45 1 rfl ?_
      refine k_iadd C dX2_set_46 ?_
      refine k_putX2 C [(a0, cF a1 a2 a3 a4 a5 a6 (X.2.2.2.2.2.2.1, X.2.2.2.2.2.2.2.1, X.2.2.2.2.2.2.2.2.1, (X.1.1 + p0), X.2.2.2.2.2.2.2.2.2.2)), (a1, cS X.1), (a2, cS X.2.1), (a3, cB X.2.2.1), (a4, cB X.2.2.2.1), (a5, cB X.2.2.2.2.1), (a6, cB X.2.2.2.2.2.1)] 0 9 rfl rfl (by decide) q131 rfl rfl fdI rfl rfl (Nat.le_of_ble_eq_true rfl) dX2_set_47 ?_
      refine k_aload_n C dX2_set_50 0 rfl ?_
      refine k_getX2 C 0 9 rfl (by decide) rfl q131 rfl dX2_set_51 ?_
      have hL : xX2_set p0 X = (0, (X.1.1 + p0), (X.1, X.2.1, X.2.2.1, X.2.2.2.1, X.2.2.2.2.1, X.2.2.2.2.2.1, X.2.2.2.2.2.2.1, X.2.2.2.2.2.2.2.1, X.2.2.2.2.2.2.2.2.1, (X.1.1 + p0), X.2.2.2.2.2.2.2.2.2.2)) := by subst er2; exact (if_pos c1).trans ((if_neg c3).trans rfl)
      exact k_toX (k_iretX C rfl (by rw [hL]) (by rw [hL]) (by rw [hL]) dX2_set_54)
    ·
      have hL : xX2_set p0 X = (2, 0, X) := by subst er2; exact (if_pos c1).trans ((if_pos c3).trans rfl)
      exact k_throw (cls := kISE) (text := "the game can not be set") (mc := 1) (ms := 6) C T hl hx0 (by rw [hL]; exact Or.inr (Or.inl ⟨rfl, rfl⟩)) rfl (by decide) q591 q44 (by decide) atS_tbl atS_rest (by decide) atS_ot (Nat.le_of_ble_eq_true rfl) (Nat.le_of_ble_eq_true rfl) (Nat.le_of_ble_eq_true rfl) (Nat.le_of_ble_eq_true rfl) (Nat.le_refl _) (Nat.le_refl _) dX2_set_27 dX2_set_30 dX2_set_31 dX2_set_33 dX2_set_36
  ·
    refine k_iload_n C dX2_set_5 1 rfl ?_
    refine k_iconst C 5 (by decide) dX2_set_6 ?_
    refine k_icmp_eq C 20 (by decide) dX2_set_7 (fun c4 => ?_) (fun c4 => ?_)
    ·
      refine k_aload_n C dX2_set_20 0 rfl ?_
      refine k_callV_i C (mX2_canBeSet l D cI cJ a0 a1 a2 a3 a4 a5 a6 X) (cwV 0 C.2.2.2.2.1 (kGV q271 q273 q5 q35 q274) rfl rfl rfl ⟨rfl, hdX2_canBeSet⟩ ⟨Nat.le_of_ble_eq_true rfl, Nat.le_of_ble_eq_true rfl⟩) [0, 1, 2, 3, 4, 5, 6] [] [0, 1, 2, 3, 4, 5, 6] [] ([(a0, cF a1 a2 a3 a4 a5 a6 X.2.2.2.2.2.2), (a1, cS X.1), (a2, cS X.2.1), (a3, cB X.2.2.1), (a4, cB X.2.2.2.1), (a5, cB X.2.2.2.2.1), (a6, cB X.2.2.2.2.2.1)]) rfl rfl rfl rfl (by decide) [a0, a1, a2, a3, a4, a5, a6] rfl rfl rfl rfl 0 2 rfl rfl rfl (Nat.le_of_ble_eq_true rfl) ⟨Nat.zero_le _, Nat.zero_le _⟩ rfl dX2_set_21 ?_
      generalize er5 : fX2_canBeSet X = r5
      refine k_if_ne C 37 (by decide) dX2_set_24 (fun c6 => ?_) (fun c6 => ?_)
      ·
        refine k_aload_n C dX2_set_37 0 rfl ?_
        refine k_aload_n C dX2_set_38 0 rfl ?_
        refine k_getX2 C 0 0 rfl (by decide) rfl q122 rfl dX2_set_39 ?_
        refine k_getNX1 C 1 0 rfl (by decide) rfl qn0 rfl dX2_set_42 ?_
        refine k_iload_n C dX2_set_45 1 rfl ?_
        refine k_iadd C dX2_set_46 ?_
        refine k_putX2 C [(a0, cF a1 a2 a3 a4 a5 a6 (X.2.2.2.2.2.2.1, X.2.2.2.2.2.2.2.1, X.2.2.2.2.2.2.2.2.1, (X.1.1 + p0), X.2.2.2.2.2.2.2.2.2.2)), (a1, cS X.1), (a2, cS X.2.1), (a3, cB X.2.2.1), (a4, cB X.2.2.2.1), (a5, cB X.2.2.2.2.1), (a6, cB X.2.2.2.2.2.1)] 0 9 rfl rfl (by decide) q131 rfl rfl fdI rfl rfl (Nat.le_of_ble_eq_true rfl) dX2_set_47 ?_
        refine k_aload_n C dX2_set_50 0 rfl ?_
        refine k_getX2 C 0 9 rfl (by decide) rfl q131 rfl dX2_set_51 ?_
        have hL : xX2_set p0 X = (0, (X.1.1 + p0), (X.1, X.2.1, X.2.2.1, X.2.2.2.1, X.2.2.2.2.1, X.2.2.2.2.2.1, X.2.2.2.2.2.2.1, X.2.2.2.2.2.2.2.1, X.2.2.2.2.2.2.2.2.1, (X.1.1 + p0), X.2.2.2.2.2.2.2.2.2.2)) := by subst er5; exact (if_neg c1).trans ((if_pos c4).trans ((if_neg c6).trans rfl))
        exact k_toX (k_iretX C rfl (by rw [hL]) (by rw [hL]) (by rw [hL]) dX2_set_54)
      ·
        have hL : xX2_set p0 X = (2, 0, X) := by subst er5; exact (if_neg c1).trans ((if_pos c4).trans ((if_pos c6).trans rfl))
        exact k_throw (cls := kISE) (text := "the game can not be set") (mc := 1) (ms := 6) C T hl hx0 (by rw [hL]; exact Or.inr (Or.inl ⟨rfl, rfl⟩)) rfl (by decide) q591 q44 (by decide) atS_tbl atS_rest (by decide) atS_ot (Nat.le_of_ble_eq_true rfl) (Nat.le_of_ble_eq_true rfl) (Nat.le_of_ble_eq_true rfl) (Nat.le_of_ble_eq_true rfl) (Nat.le_refl _) (Nat.le_refl _) dX2_set_27 dX2_set_30 dX2_set_31 dX2_set_33 dX2_set_36
    ·
      have hL : xX2_set p0 X = (1, 0, X) := by exact (if_neg c1).trans ((if_neg c4).trans rfl)
      exact k_throw (cls := kIAE) (text := "set to 3 or 5") (mc := 1) (ms := 6) C T hl hx0 (by rw [hL]; exact Or.inl ⟨rfl, rfl⟩) rfl (by decide) q283 q43 (by decide) atA_tbl atA_rest (by decide) atA_ot (Nat.le_of_ble_eq_true rfl) (Nat.le_of_ble_eq_true rfl) (Nat.le_of_ble_eq_true rfl) (Nat.le_of_ble_eq_true rfl) (Nat.le_refl _) (Nat.le_refl _) dX2_set_10 dX2_set_13 dX2_set_14 dX2_set_16 dX2_set_19

theorem hdX2_match : yX2_match.cls ≠ "java/lang/invoke/MethodHandle" ∧ yX2_match.cls ≠ "java/lang/invoke/VarHandle" ∧ (parseMethodDescriptor yX2_match.desc).map (fun d => d.parameters.length) = some 1 := by decide +kernel
noncomputable def xX2_match (p0 : Int32) (X : Co) : Int32 × Int32 × Co :=
  if (fX2_isSide p0) = 0 then (3, 0, X)
  else (0, (X.1.2.1 + X.2.1.2.1), ((fX1_beginMatch (fX2_beginGame (fX2_closeRally X)).1), (fX1_beginMatch (fX2_beginGame (fX2_closeRally X)).2.1), (fX2_beginGame (fX2_closeRally X)).2.2.1, (fX2_beginGame (fX2_closeRally X)).2.2.2.1, (fX2_beginGame (fX2_closeRally X)).2.2.2.2.1, (fX2_beginGame (fX2_closeRally X)).2.2.2.2.2.1, p0, (fX2_beginGame (fX2_closeRally X)).2.2.2.2.2.2.2.1, (fX2_beginGame (fX2_closeRally X)).2.2.2.2.2.2.2.2.1, (fX2_beginGame (fX2_closeRally X)).2.2.2.2.2.2.2.2.2.1, (-1), (fX2_beginGame (fX2_closeRally X)).2.2.2.2.2.2.2.2.2.2.2))
set_option maxHeartbeats 4000000 in
set_option maxRecDepth 100000 in
theorem x_X2_match (l : Launch) (hl : l.stackTraces = false) (D : va_G) (cI cJ : ClassId) (a0 a1 a2 a3 a4 a5 a6 : Nat) (p0 : Int32) (X : Co)  : kCX l D cI cJ yX2_match (.code yX2_match cX2_match 3 (some .int)) { frames := 6, cells := 1, slots := 6, locals := 90 } [.ref a0, .int p0] (wC a0 a1 a2 a3 a4 a5 a6 X) (xX2_match p0 X).1 (xX2_match p0 X).2.1 (wC a0 a1 a2 a3 a4 a5 a6 (xX2_match p0 X).2.2) := by
  refine fun sz => k_ofX (lv := [(0, .ref a0), (1, .int p0)]) (by decide) sz (Nat.le_of_ble_eq_true rfl) rfl ?_
  intro p e s m args below meth c hsz hx0 T C
  refine k_iload_n C dX2_match_0 1 rfl ?_
  refine k_callS_i C (mX2_isSide l D cI cJ p0) (va_cwS 1 C.2.2.2.2.1 (kGS q248 q249 q35 q250) rfl rfl rfl hdX2_isSide ⟨Nat.le_of_ble_eq_true rfl, Nat.le_of_ble_eq_true rfl⟩) [] [0, 1, 2, 3, 4, 5, 6] [0, 1, 2, 3, 4, 5, 6] [(a0, cF a1 a2 a3 a4 a5 a6 X.2.2.2.2.2.2), (a1, cS X.1), (a2, cS X.2.1), (a3, cB X.2.2.1), (a4, cB X.2.2.2.1), (a5, cB X.2.2.2.2.1), (a6, cB X.2.2.2.2.2.1)] ([(a0, cF a1 a2 a3 a4 a5 a6 X.2.2.2.2.2.2), (a1, cS X.1), (a2, cS X.2.1), (a3, cB X.2.2.1), (a4, cB X.2.2.2.1), (a5, cB X.2.2.2.2.1), (a6, cB X.2.2.2.2.2.1)]) rfl rfl rfl rfl (by decide) [] rfl rfl rfl rfl (Nat.le_of_ble_eq_true rfl) ⟨Nat.zero_le _, Nat.zero_le _⟩ rfl dX2_match_1 ?_
  generalize er1 : fX2_isSide p0 = r1
  refine k_if_ne C 17 (by decide) dX2_match_4 (fun c2 => ?_) (fun c2 => ?_)
  ·
    refine k_aload_n C dX2_match_17 0 rfl ?_
    refine k_getX2 C 0 0 rfl (by decide) rfl q122 rfl dX2_match_18 ?_
    refine k_getNX1 C 1 1 rfl (by decide) rfl qn1 rfl dX2_match_21 ?_
    refine k_aload_n C dX2_match_24 0 rfl ?_
    refine k_getX2 C 0 1 rfl (by decide) rfl q123 rfl dX2_match_25 ?_
    refine k_getNX1 C 2 1 rfl (by decide) rfl qn1 rfl dX2_match_28 ?_
    refine k_iadd C dX2_match_31 ?_
    refine k_istore_n C [(2, .int (X.1.2.1 + X.2.1.2.1)), (0, .ref a0), (1, .int p0)] (by decide) rfl dX2_match_32 ?_
    refine k_aload_n C dX2_match_33 1 rfl ?_
    refine k_callV_v C (mX2_closeRally l D cI cJ a0 a1 a2 a3 a4 a5 a6 X) (cwV 0 C.2.2.2.2.1 (kGV q569 q571 q24 q35 q572) rfl rfl rfl ⟨rfl, hdX2_closeRally⟩ ⟨Nat.le_of_ble_eq_true rfl, Nat.le_of_ble_eq_true rfl⟩) [0, 1, 2, 3, 4, 5, 6] [] [0, 1, 2, 3, 4, 5, 6] [] (wC a0 a1 a2 a3 a4 a5 a6 (fX2_closeRally X)) rfl rfl rfl rfl (by decide) [a0, a1, a2, a3, a4, a5, a6] rfl rfl rfl rfl 0 2 rfl rfl rfl (Nat.le_of_ble_eq_true rfl) ⟨Nat.zero_le _, Nat.zero_le _⟩ rfl dX2_match_34 ?_
    generalize ezz3 : fX2_closeRally X = zz3
    refine k_aload_n C dX2_match_37 1 rfl ?_
    refine k_callV_v C (mX2_beginGame l D cI cJ a0 a1 a2 a3 a4 a5 a6 zz3) (cwV 0 C.2.2.2.2.1 (kGV q573 q575 q25 q35 q576) rfl rfl rfl ⟨rfl, hdX2_beginGame⟩ ⟨Nat.le_of_ble_eq_true rfl, Nat.le_of_ble_eq_true rfl⟩) [0, 1, 2, 3, 4, 5, 6] [] [0, 1, 2, 3, 4, 5, 6] [] (wC a0 a1 a2 a3 a4 a5 a6 (fX2_beginGame zz3)) rfl rfl rfl rfl (by decide) [a0, a1, a2, a3, a4, a5, a6] rfl rfl rfl rfl 0 2 rfl rfl rfl (Nat.le_of_ble_eq_true rfl) ⟨Nat.zero_le _, Nat.zero_le _⟩ rfl dX2_match_38 ?_
    generalize ezz4 : fX2_beginGame zz3 = zz4
    refine k_aload_n C dX2_match_41 1 rfl ?_
    refine k_getX2 C 0 0 rfl (by decide) rfl q122 rfl dX2_match_42 ?_
    refine k_callN_v C (mX1_beginMatch l D cI cJ a1 zz4.1) ⟨va_cnB 0 C.2.2.2.2.1 (kGN q580) rfl rfl rfl (C.2.2.2.2.2.2.1 _ qn16) (C.2.2.2.2.1 _ q36) hdX1_beginMatch ⟨Nat.le_of_ble_eq_true rfl, Nat.le_of_ble_eq_true rfl⟩, C.2.2.2.2.1 _ q579, C.2.2.2.2.1 _ q26⟩ [1] [0, 2, 3, 4, 5, 6] [0, 6, 1, 2, 3, 4, 5] [(a0, cF a1 a2 a3 a4 a5 a6 zz4.2.2.2.2.2.2), (a2, cS zz4.2.1), (a3, cB zz4.2.2.1), (a4, cB zz4.2.2.2.1), (a5, cB zz4.2.2.2.2.1), (a6, cB zz4.2.2.2.2.2.1)] ([(a0, cF a1 a2 a3 a4 a5 a6 zz4.2.2.2.2.2.2), (a1, cS (fX1_beginMatch zz4.1)), (a2, cS zz4.2.1), (a3, cB zz4.2.2.1), (a4, cB zz4.2.2.2.1), (a5, cB zz4.2.2.2.2.1), (a6, cB zz4.2.2.2.2.2.1)]) rfl rfl rfl rfl (by decide) [a1] rfl rfl rfl rfl 1 1 rfl rfl rfl (Nat.le_of_ble_eq_true rfl) ⟨Nat.zero_le _, Nat.zero_le _⟩ rfl dX2_match_45 ?_
    generalize ezz5 : fX1_beginMatch zz4.1 = zz5
    refine k_aload_n C dX2_match_48 1 rfl ?_
    refine k_getX2 C 0 1 rfl (by decide) rfl q123 rfl dX2_match_49 ?_
    refine k_callN_v C (mX1_beginMatch l D cI cJ a2 zz4.2.1) ⟨va_cnB 0 C.2.2.2.2.1 (kGN q580) rfl rfl rfl (C.2.2.2.2.2.2.1 _ qn16) (C.2.2.2.2.1 _ q36) hdX1_beginMatch ⟨Nat.le_of_ble_eq_true rfl, Nat.le_of_ble_eq_true rfl⟩, C.2.2.2.2.1 _ q579, C.2.2.2.2.1 _ q26⟩ [2] [0, 1, 3, 4, 5, 6] [0, 1, 6, 2, 3, 4, 5] [(a0, cF a1 a2 a3 a4 a5 a6 zz4.2.2.2.2.2.2), (a1, cS zz5), (a3, cB zz4.2.2.1), (a4, cB zz4.2.2.2.1), (a5, cB zz4.2.2.2.2.1), (a6, cB zz4.2.2.2.2.2.1)] ([(a0, cF a1 a2 a3 a4 a5 a6 zz4.2.2.2.2.2.2), (a1, cS zz5), (a2, cS (fX1_beginMatch zz4.2.1)), (a3, cB zz4.2.2.1), (a4, cB zz4.2.2.2.1), (a5, cB zz4.2.2.2.2.1), (a6, cB zz4.2.2.2.2.2.1)]) rfl rfl rfl rfl (by decide) [a2] rfl rfl rfl rfl 2 1 rfl rfl rfl (Nat.le_of_ble_eq_true rfl) ⟨Nat.zero_le _, Nat.zero_le _⟩ rfl dX2_match_52 ?_
    generalize ezz6 : fX1_beginMatch zz4.2.1 = zz6
    refine k_aload_n C dX2_match_55 1 rfl ?_
    refine k_iconst C (-1) (by decide) dX2_match_56 ?_
    refine k_putX2 C [(a0, cF a1 a2 a3 a4 a5 a6 (zz4.2.2.2.2.2.2.1, zz4.2.2.2.2.2.2.2.1, zz4.2.2.2.2.2.2.2.2.1, zz4.2.2.2.2.2.2.2.2.2.1, (-1), zz4.2.2.2.2.2.2.2.2.2.2.2)), (a1, cS zz5), (a2, cS zz6), (a3, cB zz4.2.2.1), (a4, cB zz4.2.2.2.1), (a5, cB zz4.2.2.2.2.1), (a6, cB zz4.2.2.2.2.2.1)] 0 10 rfl rfl (by decide) q132 rfl rfl fdI rfl rfl (Nat.le_of_ble_eq_true rfl) dX2_match_57 ?_
    refine k_aload_n C dX2_match_60 1 rfl ?_
    refine k_iload_n C dX2_match_61 2 rfl ?_
    refine k_putX2 C [(a0, cF a1 a2 a3 a4 a5 a6 (p0, zz4.2.2.2.2.2.2.2.1, zz4.2.2.2.2.2.2.2.2.1, zz4.2.2.2.2.2.2.2.2.2.1, (-1), zz4.2.2.2.2.2.2.2.2.2.2.2)), (a1, cS zz5), (a2, cS zz6), (a3, cB zz4.2.2.1), (a4, cB zz4.2.2.2.1), (a5, cB zz4.2.2.2.2.1), (a6, cB zz4.2.2.2.2.2.1)] 0 6 rfl rfl (by decide) q128 rfl rfl fdI rfl rfl (Nat.le_of_ble_eq_true rfl) dX2_match_62 ?_
    refine k_iload_n C dX2_match_65 0 rfl ?_
    have hL : xX2_match p0 X = (0, (X.1.2.1 + X.2.1.2.1), (zz5, zz6, zz4.2.2.1, zz4.2.2.2.1, zz4.2.2.2.2.1, zz4.2.2.2.2.2.1, p0, zz4.2.2.2.2.2.2.2.1, zz4.2.2.2.2.2.2.2.2.1, zz4.2.2.2.2.2.2.2.2.2.1, (-1), zz4.2.2.2.2.2.2.2.2.2.2.2)) := by subst ezz6; subst ezz5; subst ezz4; subst ezz3; subst er1; exact (if_neg c2).trans rfl
    exact k_toX (k_iretX C rfl (by rw [hL]) (by rw [hL]) (by rw [hL]) dX2_match_66)
  ·
    have hL : xX2_match p0 X = (3, 0, X) := by subst er1; exact (if_pos c2).trans rfl
    exact k_throw (cls := kIOO) (text := "no such side") (mc := 1) (ms := 6) C T hl hx0 (by rw [hL]; exact Or.inr (Or.inr ⟨rfl, rfl⟩)) rfl (by decide) q172 q42 (by decide) atO_tbl atO_rest (by decide) atO_ot (Nat.le_of_ble_eq_true rfl) (Nat.le_of_ble_eq_true rfl) (Nat.le_of_ble_eq_true rfl) (Nat.le_of_ble_eq_true rfl) (Nat.le_refl _) (Nat.le_refl _) dX2_match_7 dX2_match_10 dX2_match_11 dX2_match_13 dX2_match_16

theorem hdX2_would : yX2_would.cls ≠ "java/lang/invoke/MethodHandle" ∧ yX2_would.cls ≠ "java/lang/invoke/VarHandle" ∧ (parseMethodDescriptor yX2_would.desc).map (fun d => d.parameters.length) = some 4 := by decide +kernel
noncomputable def xX2_would (p0 : Int32) (p1 : Int32) (p2 : Int32) (p3 : Int32) (X : Co) : Int32 × Int32 × Co :=
  if (fX2_isLookAhead p0) = 0 then (1, 0, X)
  else (if (fX2_isStroke p1 p2 p3) = 0 then (1, 0, X)
    else (if (fX2_placeAhead p0 X).1 = 0 then (0, (-1), (fX2_placeAhead p0 X).2)
      else (0, (fX2_tryStroke p1 p2 p3 1000000 (fX2_placeAhead p0 X).2).2.2.2.2.2.1.2.2.2.2.2.2.2.2.2.2, (fX2_tryStroke p1 p2 p3 1000000 (fX2_placeAhead p0 X).2))))
set_option maxHeartbeats 4000000 in
set_option maxRecDepth 100000 in
theorem x_X2_would (l : Launch) (hl : l.stackTraces = false) (D : va_G) (cI cJ : ClassId) (a0 a1 a2 a3 a4 a5 a6 : Nat) (p0 : Int32) (p1 : Int32) (p2 : Int32) (p3 : Int32) (X : Co)  : kCX l D cI cJ yX2_would (.code yX2_would cX2_would 5 (some .int)) { frames := 7, cells := 1, slots := 6, locals := 148 } [.ref a0, .int p0, .int p1, .int p2, .int p3] (wC a0 a1 a2 a3 a4 a5 a6 X) (xX2_would p0 p1 p2 p3 X).1 (xX2_would p0 p1 p2 p3 X).2.1 (wC a0 a1 a2 a3 a4 a5 a6 (xX2_would p0 p1 p2 p3 X).2.2) := by
  refine fun sz => k_ofX (lv := [(0, .ref a0), (1, .int p0), (2, .int p1), (3, .int p2), (4, .int p3)]) (by decide) sz (Nat.le_of_ble_eq_true rfl) rfl ?_
  intro p e s m args below meth c hsz hx0 T C
  refine k_iload_n C dX2_would_0 1 rfl ?_
  refine k_callS_i C (mX2_isLookAhead l D cI cJ p0) (va_cwS 1 C.2.2.2.2.1 (kGS q280 q281 q35 q282) rfl rfl rfl hdX2_isLookAhead ⟨Nat.le_of_ble_eq_true rfl, Nat.le_of_ble_eq_true rfl⟩) [] [0, 1, 2, 3, 4, 5, 6] [0, 1, 2, 3, 4, 5, 6] [(a0, cF a1 a2 a3 a4 a5 a6 X.2.2.2.2.2.2), (a1, cS X.1), (a2, cS X.2.1), (a3, cB X.2.2.1), (a4, cB X.2.2.2.1), (a5, cB X.2.2.2.2.1), (a6, cB X.2.2.2.2.2.1)] ([(a0, cF a1 a2 a3 a4 a5 a6 X.2.2.2.2.2.2), (a1, cS X.1), (a2, cS X.2.1), (a3, cB X.2.2.1), (a4, cB X.2.2.2.1), (a5, cB X.2.2.2.2.1), (a6, cB X.2.2.2.2.2.1)]) rfl rfl rfl rfl (by decide) [] rfl rfl rfl rfl (Nat.le_of_ble_eq_true rfl) ⟨Nat.zero_le _, Nat.zero_le _⟩ rfl dX2_would_1 ?_
  generalize er1 : fX2_isLookAhead p0 = r1
  refine k_if_eq C 17 (by decide) dX2_would_4 (fun c2 => ?_) (fun c2 => ?_)
  ·
    have hL : xX2_would p0 p1 p2 p3 X = (1, 0, X) := by subst er1; exact (if_pos c2).trans rfl
    exact k_throw (cls := kIAE) (text := "no such stroke") (mc := 1) (ms := 6) C T hl hx0 (by rw [hL]; exact Or.inl ⟨rfl, rfl⟩) rfl (by decide) q283 q43 (by decide) atA_tbl atA_rest (by decide) atA_ot (Nat.le_of_ble_eq_true rfl) (Nat.le_of_ble_eq_true rfl) (Nat.le_of_ble_eq_true rfl) (Nat.le_of_ble_eq_true rfl) (Nat.le_refl _) (Nat.le_refl _) dX2_would_17 dX2_would_20 dX2_would_21 dX2_would_23 dX2_would_26
  ·
    refine k_iload_n C dX2_would_7 2 rfl ?_
    refine k_iload_n C dX2_would_8 3 rfl ?_
    refine k_iload C dX2_would_9 4 rfl ?_
    refine k_callS_i C (mX2_isStroke l D cI cJ p1 p2 p3) (va_cwS 3 C.2.2.2.2.1 (kGS q366 q367 q35 q368) rfl rfl rfl hdX2_isStroke ⟨Nat.le_of_ble_eq_true rfl, Nat.le_of_ble_eq_true rfl⟩) [] [0, 1, 2, 3, 4, 5, 6] [0, 1, 2, 3, 4, 5, 6] [(a0, cF a1 a2 a3 a4 a5 a6 X.2.2.2.2.2.2), (a1, cS X.1), (a2, cS X.2.1), (a3, cB X.2.2.1), (a4, cB X.2.2.2.1), (a5, cB X.2.2.2.2.1), (a6, cB X.2.2.2.2.2.1)] ([(a0, cF a1 a2 a3 a4 a5 a6 X.2.2.2.2.2.2), (a1, cS X.1), (a2, cS X.2.1), (a3, cB X.2.2.1), (a4, cB X.2.2.2.1), (a5, cB X.2.2.2.2.1), (a6, cB X.2.2.2.2.2.1)]) rfl rfl rfl rfl (by decide) [] rfl rfl rfl rfl (Nat.le_of_ble_eq_true rfl) ⟨Nat.zero_le _, Nat.zero_le _⟩ rfl dX2_would_11 ?_
    generalize er3 : fX2_isStroke p1 p2 p3 = r3
    refine k_if_ne C 27 (by decide) dX2_would_14 (fun c4 => ?_) (fun c4 => ?_)
    ·
      refine k_aload_n C dX2_would_27 0 rfl ?_
      refine k_iload_n C dX2_would_28 1 rfl ?_
      refine k_callV_i C (mX2_placeAhead l D cI cJ a0 a1 a2 a3 a4 a5 a6 p0 X) (cwV 1 C.2.2.2.2.1 (kGV q373 q375 q18 q35 q376) rfl rfl rfl ⟨rfl, hdX2_placeAhead⟩ ⟨Nat.le_of_ble_eq_true rfl, Nat.le_of_ble_eq_true rfl⟩) [0, 1, 2, 3, 4, 5, 6] [] [0, 1, 2, 3, 4, 5, 6] [] (wC a0 a1 a2 a3 a4 a5 a6 (fX2_placeAhead p0 X).2) rfl rfl rfl rfl (by decide) [a0, a1, a2, a3, a4, a5, a6] rfl rfl rfl rfl 0 2 rfl rfl rfl (Nat.le_of_ble_eq_true rfl) ⟨Nat.zero_le _, Nat.zero_le _⟩ rfl dX2_would_29 ?_
      generalize ezz5 : fX2_placeAhead p0 X = zz5
      refine k_if_ne C 37 (by decide) dX2_would_32 (fun c6 => ?_) (fun c6 => ?_)
      ·
        refine k_aload_n C dX2_would_37 0 rfl ?_
        refine k_iload_n C dX2_would_38 2 rfl ?_
        refine k_iload_n C dX2_would_39 3 rfl ?_
        refine k_iload C dX2_would_40 4 rfl ?_
        refine k_ldc C q385 dX2_would_42 ?_
        refine k_callV_v C (mX2_tryStroke l D cI cJ a0 a1 a2 a3 a4 a5 a6 p1 p2 p3 1000000 zz5.2) (cwV 4 C.2.2.2.2.1 (kGV q386 q388 q21 q35 q389) rfl rfl rfl ⟨rfl, hdX2_tryStroke⟩ ⟨Nat.le_of_ble_eq_true rfl, Nat.le_of_ble_eq_true rfl⟩) [0, 1, 2, 3, 4, 5, 6] [] [0, 1, 2, 3, 4, 5, 6] [] (wC a0 a1 a2 a3 a4 a5 a6 (fX2_tryStroke p1 p2 p3 1000000 zz5.2)) rfl rfl rfl rfl (by decide) [a0, a1, a2, a3, a4, a5, a6] rfl rfl rfl rfl 0 2 rfl rfl rfl (Nat.le_of_ble_eq_true rfl) ⟨Nat.zero_le _, Nat.zero_le _⟩ rfl dX2_would_44 ?_
        generalize ezz7 : fX2_tryStroke p1 p2 p3 1000000 zz5.2 = zz7
        refine k_aload_n C dX2_would_47 0 rfl ?_
        refine k_getX2 C 0 5 rfl (by decide) rfl q127 rfl dX2_would_48 ?_
        refine k_getNX0 C 6 10 rfl (by decide) rfl qn6 rfl dX2_would_51 ?_
        have hL : xX2_would p0 p1 p2 p3 X = (0, zz7.2.2.2.2.2.1.2.2.2.2.2.2.2.2.2.2, zz7) := by subst ezz7; subst ezz5; subst er3; subst er1; exact (if_neg c2).trans ((if_neg c4).trans ((if_neg c6).trans rfl))
        exact k_toX (k_iretX C rfl (by rw [hL]) (by rw [hL]) (by rw [hL]) dX2_would_54)
      ·
        refine k_iconst C (-1) (by decide) dX2_would_35 ?_
        have hL : xX2_would p0 p1 p2 p3 X = (0, (-1), zz5.2) := by subst ezz5; subst er3; subst er1; exact (if_neg c2).trans ((if_neg c4).trans ((if_pos c6).trans rfl))
        exact k_toX (k_iretX C rfl (by rw [hL]) (by rw [hL]) (by rw [hL]) dX2_would_36)
    ·
      have hL : xX2_would p0 p1 p2 p3 X = (1, 0, X) := by subst er3; subst er1; exact (if_neg c2).trans ((if_pos c4).trans rfl)
      exact k_throw (cls := kIAE) (text := "no such stroke") (mc := 1) (ms := 6) C T hl hx0 (by rw [hL]; exact Or.inl ⟨rfl, rfl⟩) rfl (by decide) q283 q43 (by decide) atA_tbl atA_rest (by decide) atA_ot (Nat.le_of_ble_eq_true rfl) (Nat.le_of_ble_eq_true rfl) (Nat.le_of_ble_eq_true rfl) (Nat.le_of_ble_eq_true rfl) (Nat.le_refl _) (Nat.le_refl _) dX2_would_17 dX2_would_20 dX2_would_21 dX2_would_23 dX2_would_26

theorem hdX2_advise : yX2_advise.cls ≠ "java/lang/invoke/MethodHandle" ∧ yX2_advise.cls ≠ "java/lang/invoke/VarHandle" ∧ (parseMethodDescriptor yX2_advise.desc).map (fun d => d.parameters.length) = some 1 := by decide +kernel
noncomputable def xX2_advise (p0 : Int32) (X : Co) : Int32 × Int32 × Co :=
  if (fX2_isLookAhead p0) = 0 then (1, 0, X)
  else (if (fX2_placeAhead p0 X).1 = 0 then (0, (-1), (fX2_placeAhead p0 X).2)
    else (0, (fX2_shortestDeadStroke (fX2_placeAhead p0 X).2).1, (fX2_shortestDeadStroke (fX2_placeAhead p0 X).2).2))
set_option maxHeartbeats 4000000 in
set_option maxRecDepth 100000 in
theorem x_X2_advise (l : Launch) (hl : l.stackTraces = false) (D : va_G) (cI cJ : ClassId) (a0 a1 a2 a3 a4 a5 a6 : Nat) (p0 : Int32) (X : Co)  : kCX l D cI cJ yX2_advise (.code yX2_advise cX2_advise 2 (some .int)) { frames := 7, cells := 1, slots := 6, locals := 155 } [.ref a0, .int p0] (wC a0 a1 a2 a3 a4 a5 a6 X) (xX2_advise p0 X).1 (xX2_advise p0 X).2.1 (wC a0 a1 a2 a3 a4 a5 a6 (xX2_advise p0 X).2.2) := by
  refine fun sz => k_ofX (lv := [(0, .ref a0), (1, .int p0)]) (by decide) sz (Nat.le_of_ble_eq_true rfl) rfl ?_
  intro p e s m args below meth c hsz hx0 T C
  refine k_iload_n C dX2_advise_0 1 rfl ?_
  refine k_callS_i C (mX2_isLookAhead l D cI cJ p0) (va_cwS 1 C.2.2.2.2.1 (kGS q280 q281 q35 q282) rfl rfl rfl hdX2_isLookAhead ⟨Nat.le_of_ble_eq_true rfl, Nat.le_of_ble_eq_true rfl⟩) [] [0, 1, 2, 3, 4, 5, 6] [0, 1, 2, 3, 4, 5, 6] [(a0, cF a1 a2 a3 a4 a5 a6 X.2.2.2.2.2.2), (a1, cS X.1), (a2, cS X.2.1), (a3, cB X.2.2.1), (a4, cB X.2.2.2.1), (a5, cB X.2.2.2.2.1), (a6, cB X.2.2.2.2.2.1)] ([(a0, cF a1 a2 a3 a4 a5 a6 X.2.2.2.2.2.2), (a1, cS X.1), (a2, cS X.2.1), (a3, cB X.2.2.1), (a4, cB X.2.2.2.1), (a5, cB X.2.2.2.2.1), (a6, cB X.2.2.2.2.2.1)]) rfl rfl rfl rfl (by decide) [] rfl rfl rfl rfl (Nat.le_of_ble_eq_true rfl) ⟨Nat.zero_le _, Nat.zero_le _⟩ rfl dX2_advise_1 ?_
  generalize er1 : fX2_isLookAhead p0 = r1
  refine k_if_ne C 17 (by decide) dX2_advise_4 (fun c2 => ?_) (fun c2 => ?_)
  ·
    refine k_aload_n C dX2_advise_17 0 rfl ?_
    refine k_iload_n C dX2_advise_18 1 rfl ?_
    refine k_callV_i C (mX2_placeAhead l D cI cJ a0 a1 a2 a3 a4 a5 a6 p0 X) (cwV 1 C.2.2.2.2.1 (kGV q373 q375 q18 q35 q376) rfl rfl rfl ⟨rfl, hdX2_placeAhead⟩ ⟨Nat.le_of_ble_eq_true rfl, Nat.le_of_ble_eq_true rfl⟩) [0, 1, 2, 3, 4, 5, 6] [] [0, 1, 2, 3, 4, 5, 6] [] (wC a0 a1 a2 a3 a4 a5 a6 (fX2_placeAhead p0 X).2) rfl rfl rfl rfl (by decide) [a0, a1, a2, a3, a4, a5, a6] rfl rfl rfl rfl 0 2 rfl rfl rfl (Nat.le_of_ble_eq_true rfl) ⟨Nat.zero_le _, Nat.zero_le _⟩ rfl dX2_advise_19 ?_
    generalize ezz3 : fX2_placeAhead p0 X = zz3
    refine k_if_ne C 27 (by decide) dX2_advise_22 (fun c4 => ?_) (fun c4 => ?_)
    ·
      refine k_aload_n C dX2_advise_27 0 rfl ?_
      refine k_callV_i C (mX2_shortestDeadStroke l D cI cJ a0 a1 a2 a3 a4 a5 a6 zz3.2) (cwV 0 C.2.2.2.2.1 (kGV q401 q403 q23 q35 q404) rfl rfl rfl ⟨rfl, hdX2_shortestDeadStroke⟩ ⟨Nat.le_of_ble_eq_true rfl, Nat.le_of_ble_eq_true rfl⟩) [0, 1, 2, 3, 4, 5, 6] [] [0, 1, 2, 3, 4, 5, 6] [] (wC a0 a1 a2 a3 a4 a5 a6 (fX2_shortestDeadStroke zz3.2).2) rfl rfl rfl rfl (by decide) [a0, a1, a2, a3, a4, a5, a6] rfl rfl rfl rfl 0 2 rfl rfl rfl (Nat.le_of_ble_eq_true rfl) ⟨Nat.zero_le _, Nat.zero_le _⟩ rfl dX2_advise_28 ?_
      generalize ezz5 : fX2_shortestDeadStroke zz3.2 = zz5
      have hL : xX2_advise p0 X = (0, zz5.1, zz5.2) := by subst ezz5; subst ezz3; subst er1; exact (if_neg c2).trans ((if_neg c4).trans rfl)
      exact k_toX (k_iretX C rfl (by rw [hL]) (by rw [hL]) (by rw [hL]) dX2_advise_31)
    ·
      refine k_iconst C (-1) (by decide) dX2_advise_25 ?_
      have hL : xX2_advise p0 X = (0, (-1), zz3.2) := by subst ezz3; subst er1; exact (if_neg c2).trans ((if_pos c4).trans rfl)
      exact k_toX (k_iretX C rfl (by rw [hL]) (by rw [hL]) (by rw [hL]) dX2_advise_26)
  ·
    have hL : xX2_advise p0 X = (1, 0, X) := by subst er1; exact (if_pos c2).trans rfl
    exact k_throw (cls := kIAE) (text := "0 to 60 moments") (mc := 1) (ms := 6) C T hl hx0 (by rw [hL]; exact Or.inl ⟨rfl, rfl⟩) rfl (by decide) q283 q43 (by decide) atA_tbl atA_rest (by decide) atA_ot (Nat.le_of_ble_eq_true rfl) (Nat.le_of_ble_eq_true rfl) (Nat.le_of_ble_eq_true rfl) (Nat.le_of_ble_eq_true rfl) (Nat.le_refl _) (Nat.le_refl _) dX2_advise_7 dX2_advise_10 dX2_advise_11 dX2_advise_13 dX2_advise_16
