/-! the court: what it tells, with its exceptions -/
noncomputable def xX2_count_0 (X : Co) : Int32 × Int32 × Co :=
  (0, X.2.2.2.2.2.2.1, X)
set_option maxHeartbeats 4000000 in
set_option maxRecDepth 100000 in
theorem x_X2_count_0 (l : Launch) (hl : l.stackTraces = false) (D : va_G) (cI cJ : ClassId) (a0 a1 a2 a3 a4 a5 a6 : Nat)  (X : Co)  : kCX l D cI cJ yX2_count (.code yX2_count cX2_count 2 (some .int)) { frames := 6, cells := 1, slots := 6, locals := 90 } [.ref a0, .int 0] (wC a0 a1 a2 a3 a4 a5 a6 X) (xX2_count_0 X).1 (xX2_count_0 X).2.1 (wC a0 a1 a2 a3 a4 a5 a6 (xX2_count_0 X).2.2) := by
  refine fun sz => k_ofX (lv := [(0, .ref a0), (1, .int 0)]) (by decide) sz (Nat.le_of_ble_eq_true rfl) rfl ?_
  intro p e s m args below meth c hsz hx0 T C
  refine k_iload_n C dX2_count_0 1 rfl ?_
  refine k_tabIn (off := 51) C 52 (by decide) (by decide) (by decide +kernel) (by decide) dX2_count_1 ?_
  refine k_aload_n C dX2_count_52 0 rfl ?_
  refine k_getX2 C 0 6 rfl (by decide) rfl q128 rfl dX2_count_53 ?_
  have hL : xX2_count_0 X = (0, X.2.2.2.2.2.2.1, X) := by exact rfl
  exact k_toX (k_iretX C rfl (by rw [hL]) (by rw [hL]) (by rw [hL]) dX2_count_56)

noncomputable def xX2_count_1 (X : Co) : Int32 × Int32 × Co :=
  if X.2.2.2.2.2.2.2.1 = 0 then (0, (-1), X)
  else (0, (fX2_sideToStrike X), X)
set_option maxHeartbeats 4000000 in
set_option maxRecDepth 100000 in
theorem x_X2_count_1 (l : Launch) (hl : l.stackTraces = false) (D : va_G) (cI cJ : ClassId) (a0 a1 a2 a3 a4 a5 a6 : Nat)  (X : Co)  : kCX l D cI cJ yX2_count (.code yX2_count cX2_count 2 (some .int)) { frames := 6, cells := 1, slots := 6, locals := 90 } [.ref a0, .int 1] (wC a0 a1 a2 a3 a4 a5 a6 X) (xX2_count_1 X).1 (xX2_count_1 X).2.1 (wC a0 a1 a2 a3 a4 a5 a6 (xX2_count_1 X).2.2) := by
  refine fun sz => k_ofX (lv := [(0, .ref a0), (1, .int 1)]) (by decide) sz (Nat.le_of_ble_eq_true rfl) rfl ?_
  intro p e s m args below meth c hsz hx0 T C
  refine k_iload_n C dX2_count_0 1 rfl ?_
  refine k_tabIn (off := 56) C 57 (by decide) (by decide) (by decide +kernel) (by decide) dX2_count_1 ?_
  refine k_aload_n C dX2_count_57 0 rfl ?_
  refine k_getX2 C 0 7 rfl (by decide) rfl q129 rfl dX2_count_58 ?_
  refine k_if_eq C 71 (by decide) dX2_count_61 (fun c1 => ?_) (fun c1 => ?_)
  ·
    refine k_iconst C (-1) (by decide) dX2_count_71 ?_
    have hL : xX2_count_1 X = (0, (-1), X) := by exact (if_pos c1).trans rfl
    exact k_toX (k_iretX C rfl (by rw [hL]) (by rw [hL]) (by rw [hL]) dX2_count_72)
  ·
    refine k_aload_n C dX2_count_64 0 rfl ?_
    refine k_callV_i C (mX2_sideToStrike l D cI cJ a0 a1 a2 a3 a4 a5 a6 X) (cwV 0 C.2.2.2.2.1 (kGV q264 q266 q4 q35 q267) rfl rfl rfl ⟨rfl, hdX2_sideToStrike⟩ ⟨Nat.le_of_ble_eq_true rfl, Nat.le_of_ble_eq_true rfl⟩) [0, 1, 2, 3, 4, 5, 6] [] [0, 1, 2, 3, 4, 5, 6] [] ([(a0, cF a1 a2 a3 a4 a5 a6 X.2.2.2.2.2.2), (a1, cS X.1), (a2, cS X.2.1), (a3, cB X.2.2.1), (a4, cB X.2.2.2.1), (a5, cB X.2.2.2.2.1), (a6, cB X.2.2.2.2.2.1)]) rfl rfl rfl rfl (by decide) [a0, a1, a2, a3, a4, a5, a6] rfl rfl rfl rfl 0 2 rfl rfl rfl (Nat.le_of_ble_eq_true rfl) ⟨Nat.zero_le _, Nat.zero_le _⟩ rfl dX2_count_65 ?_
    generalize er2 : fX2_sideToStrike X = r2
    refine k_goto C 72 (by decide) dX2_count_68 ?_
    have hL : xX2_count_1 X = (0, r2, X) := by subst er2; exact (if_neg c1).trans rfl
    exact k_toX (k_iretX C rfl (by rw [hL]) (by rw [hL]) (by rw [hL]) dX2_count_72)

noncomputable def xX2_count_2 (X : Co) : Int32 × Int32 × Co :=
  (0, X.2.2.2.2.2.2.2.2.1, X)
set_option maxHeartbeats 4000000 in
set_option maxRecDepth 100000 in
theorem x_X2_count_2 (l : Launch) (hl : l.stackTraces = false) (D : va_G) (cI cJ : ClassId) (a0 a1 a2 a3 a4 a5 a6 : Nat)  (X : Co)  : kCX l D cI cJ yX2_count (.code yX2_count cX2_count 2 (some .int)) { frames := 6, cells := 1, slots := 6, locals := 90 } [.ref a0, .int 2] (wC a0 a1 a2 a3 a4 a5 a6 X) (xX2_count_2 X).1 (xX2_count_2 X).2.1 (wC a0 a1 a2 a3 a4 a5 a6 (xX2_count_2 X).2.2) := by
  refine fun sz => k_ofX (lv := [(0, .ref a0), (1, .int 2)]) (by decide) sz (Nat.le_of_ble_eq_true rfl) rfl ?_
  intro p e s m args below meth c hsz hx0 T C
  refine k_iload_n C dX2_count_0 1 rfl ?_
  refine k_tabIn (off := 72) C 73 (by decide) (by decide) (by decide +kernel) (by decide) dX2_count_1 ?_
  refine k_aload_n C dX2_count_73 0 rfl ?_
  refine k_getX2 C 0 8 rfl (by decide) rfl q130 rfl dX2_count_74 ?_
  have hL : xX2_count_2 X = (0, X.2.2.2.2.2.2.2.2.1, X) := by exact rfl
  exact k_toX (k_iretX C rfl (by rw [hL]) (by rw [hL]) (by rw [hL]) dX2_count_77)

noncomputable def xX2_count_3 (X : Co) : Int32 × Int32 × Co :=
  (0, X.2.2.2.2.2.2.2.2.2.2.2.1, X)
set_option maxHeartbeats 4000000 in
set_option maxRecDepth 100000 in
theorem x_X2_count_3 (l : Launch) (hl : l.stackTraces = false) (D : va_G) (cI cJ : ClassId) (a0 a1 a2 a3 a4 a5 a6 : Nat)  (X : Co)  : kCX l D cI cJ yX2_count (.code yX2_count cX2_count 2 (some .int)) { frames := 6, cells := 1, slots := 6, locals := 90 } [.ref a0, .int 3] (wC a0 a1 a2 a3 a4 a5 a6 X) (xX2_count_3 X).1 (xX2_count_3 X).2.1 (wC a0 a1 a2 a3 a4 a5 a6 (xX2_count_3 X).2.2) := by
  refine fun sz => k_ofX (lv := [(0, .ref a0), (1, .int 3)]) (by decide) sz (Nat.le_of_ble_eq_true rfl) rfl ?_
  intro p e s m args below meth c hsz hx0 T C
  refine k_iload_n C dX2_count_0 1 rfl ?_
  refine k_tabIn (off := 77) C 78 (by decide) (by decide) (by decide +kernel) (by decide) dX2_count_1 ?_
  refine k_aload_n C dX2_count_78 0 rfl ?_
  refine k_getX2 C 0 11 rfl (by decide) rfl q133 rfl dX2_count_79 ?_
  have hL : xX2_count_3 X = (0, X.2.2.2.2.2.2.2.2.2.2.2.1, X) := by exact rfl
  exact k_toX (k_iretX C rfl (by rw [hL]) (by rw [hL]) (by rw [hL]) dX2_count_82)

noncomputable def xX2_count_4 (X : Co) : Int32 × Int32 × Co :=
  (0, X.2.2.2.2.2.2.2.2.2.2.2.2.2.1, X)
set_option maxHeartbeats 4000000 in
set_option maxRecDepth 100000 in
theorem x_X2_count_4 (l : Launch) (hl : l.stackTraces = false) (D : va_G) (cI cJ : ClassId) (a0 a1 a2 a3 a4 a5 a6 : Nat)  (X : Co)  : kCX l D cI cJ yX2_count (.code yX2_count cX2_count 2 (some .int)) { frames := 6, cells := 1, slots := 6, locals := 90 } [.ref a0, .int 4] (wC a0 a1 a2 a3 a4 a5 a6 X) (xX2_count_4 X).1 (xX2_count_4 X).2.1 (wC a0 a1 a2 a3 a4 a5 a6 (xX2_count_4 X).2.2) := by
  refine fun sz => k_ofX (lv := [(0, .ref a0), (1, .int 4)]) (by decide) sz (Nat.le_of_ble_eq_true rfl) rfl ?_
  intro p e s m args below meth c hsz hx0 T C
  refine k_iload_n C dX2_count_0 1 rfl ?_
  refine k_tabIn (off := 82) C 83 (by decide) (by decide) (by decide +kernel) (by decide) dX2_count_1 ?_
  refine k_aload_n C dX2_count_83 0 rfl ?_
  refine k_getX2 C 0 13 rfl (by decide) rfl q135 rfl dX2_count_84 ?_
  have hL : xX2_count_4 X = (0, X.2.2.2.2.2.2.2.2.2.2.2.2.2.1, X) := by exact rfl
  exact k_toX (k_iretX C rfl (by rw [hL]) (by rw [hL]) (by rw [hL]) dX2_count_87)

noncomputable def xX2_count_5 (X : Co) : Int32 × Int32 × Co :=
  (0, X.2.2.2.2.2.2.2.2.2.1, X)
set_option maxHeartbeats 4000000 in
set_option maxRecDepth 100000 in
theorem x_X2_count_5 (l : Launch) (hl : l.stackTraces = false) (D : va_G) (cI cJ : ClassId) (a0 a1 a2 a3 a4 a5 a6 : Nat)  (X : Co)  : kCX l D cI cJ yX2_count (.code yX2_count cX2_count 2 (some .int)) { frames := 6, cells := 1, slots := 6, locals := 90 } [.ref a0, .int 5] (wC a0 a1 a2 a3 a4 a5 a6 X) (xX2_count_5 X).1 (xX2_count_5 X).2.1 (wC a0 a1 a2 a3 a4 a5 a6 (xX2_count_5 X).2.2) := by
  refine fun sz => k_ofX (lv := [(0, .ref a0), (1, .int 5)]) (by decide) sz (Nat.le_of_ble_eq_true rfl) rfl ?_
  intro p e s m args below meth c hsz hx0 T C
  refine k_iload_n C dX2_count_0 1 rfl ?_
  refine k_tabIn (off := 87) C 88 (by decide) (by decide) (by decide +kernel) (by decide) dX2_count_1 ?_
  refine k_aload_n C dX2_count_88 0 rfl ?_
  refine k_getX2 C 0 9 rfl (by decide) rfl q131 rfl dX2_count_89 ?_
  have hL : xX2_count_5 X = (0, X.2.2.2.2.2.2.2.2.2.1, X) := by exact rfl
  exact k_toX (k_iretX C rfl (by rw [hL]) (by rw [hL]) (by rw [hL]) dX2_count_92)

noncomputable def xX2_count_6 (X : Co) : Int32 × Int32 × Co :=
  if (fX2_canBeSet X) = 0 then (0, 0, X)
  else (0, 1, X)
set_option maxHeartbeats 4000000 in
set_option maxRecDepth 100000 in
theorem x_X2_count_6 (l : Launch) (hl : l.stackTraces = false) (D : va_G) (cI cJ : ClassId) (a0 a1 a2 a3 a4 a5 a6 : Nat)  (X : Co)  : kCX l D cI cJ yX2_count (.code yX2_count cX2_count 2 (some .int)) { frames := 6, cells := 1, slots := 6, locals := 90 } [.ref a0, .int 6] (wC a0 a1 a2 a3 a4 a5 a6 X) (xX2_count_6 X).1 (xX2_count_6 X).2.1 (wC a0 a1 a2 a3 a4 a5 a6 (xX2_count_6 X).2.2) := by
  refine fun sz => k_ofX (lv := [(0, .ref a0), (1, .int 6)]) (by decide) sz (Nat.le_of_ble_eq_true rfl) rfl ?_
  intro p e s m args below meth c hsz hx0 T C
  refine k_iload_n C dX2_count_0 1 rfl ?_
  refine k_tabIn (off := 92) C 93 (by decide) (by decide) (by decide +kernel) (by decide) dX2_count_1 ?_
  refine k_aload_n C dX2_count_93 0 rfl ?_
  refine k_callV_i C (mX2_canBeSet l D cI cJ a0 a1 a2 a3 a4 a5 a6 X) (cwV 0 C.2.2.2.2.1 (kGV q271 q273 q5 q35 q274) rfl rfl rfl ⟨rfl, hdX2_canBeSet⟩ ⟨Nat.le_of_ble_eq_true rfl, Nat.le_of_ble_eq_true rfl⟩) [0, 1, 2, 3, 4, 5, 6] [] [0, 1, 2, 3, 4, 5, 6] [] ([(a0, cF a1 a2 a3 a4 a5 a6 X.2.2.2.2.2.2), (a1, cS X.1), (a2, cS X.2.1), (a3, cB X.2.2.1), (a4, cB X.2.2.2.1), (a5, cB X.2.2.2.2.1), (a6, cB X.2.2.2.2.2.1)]) rfl rfl rfl rfl (by decide) [a0, a1, a2, a3, a4, a5, a6] rfl rfl rfl rfl 0 2 rfl rfl rfl (Nat.le_of_ble_eq_true rfl) ⟨Nat.zero_le _, Nat.zero_le _⟩ rfl dX2_count_94 ?_
  generalize er1 : fX2_canBeSet X = r1
  refine k_if_eq C 104 (by decide) dX2_count_97 (fun c2 => ?_) (fun c2 => ?_)
  ·
    refine k_iconst C 0 (by decide) dX2_count_104 ?_
    have hL : xX2_count_6 X = (0, 0, X) := by subst er1; exact (if_pos c2).trans rfl
    exact k_toX (k_iretX C rfl (by rw [hL]) (by rw [hL]) (by rw [hL]) dX2_count_105)
  ·
    refine k_iconst C 1 (by decide) dX2_count_100 ?_
    refine k_goto C 105 (by decide) dX2_count_101 ?_
    have hL : xX2_count_6 X = (0, 1, X) := by subst er1; exact (if_neg c2).trans rfl
    exact k_toX (k_iretX C rfl (by rw [hL]) (by rw [hL]) (by rw [hL]) dX2_count_105)

noncomputable def xX2_count_7 (X : Co) : Int32 × Int32 × Co :=
  (0, X.2.2.2.2.2.2.2.2.2.2.1, X)
set_option maxHeartbeats 4000000 in
set_option maxRecDepth 100000 in
theorem x_X2_count_7 (l : Launch) (hl : l.stackTraces = false) (D : va_G) (cI cJ : ClassId) (a0 a1 a2 a3 a4 a5 a6 : Nat)  (X : Co)  : kCX l D cI cJ yX2_count (.code yX2_count cX2_count 2 (some .int)) { frames := 6, cells := 1, slots := 6, locals := 90 } [.ref a0, .int 7] (wC a0 a1 a2 a3 a4 a5 a6 X) (xX2_count_7 X).1 (xX2_count_7 X).2.1 (wC a0 a1 a2 a3 a4 a5 a6 (xX2_count_7 X).2.2) := by
  refine fun sz => k_ofX (lv := [(0, .ref a0), (1, .int 7)]) (by decide) sz (Nat.le_of_ble_eq_true rfl) rfl ?_
  intro p e s m args below meth c hsz hx0 T C
  refine k_iload_n C dX2_count_0 1 rfl ?_
  refine k_tabIn (off := 105) C 106 (by decide) (by decide) (by decide +kernel) (by decide) dX2_count_1 ?_
  refine k_aload_n C dX2_count_106 0 rfl ?_
  refine k_getX2 C 0 10 rfl (by decide) rfl q132 rfl dX2_count_107 ?_
  have hL : xX2_count_7 X = (0, X.2.2.2.2.2.2.2.2.2.2.1, X) := by exact rfl
  exact k_toX (k_iretX C rfl (by rw [hL]) (by rw [hL]) (by rw [hL]) dX2_count_110)

noncomputable def xX2_count_8 (X : Co) : Int32 × Int32 × Co :=
  (0, X.2.2.2.2.2.2.2.2.2.2.2.2.2.2, X)
set_option maxHeartbeats 4000000 in
set_option maxRecDepth 100000 in
theorem x_X2_count_8 (l : Launch) (hl : l.stackTraces = false) (D : va_G) (cI cJ : ClassId) (a0 a1 a2 a3 a4 a5 a6 : Nat)  (X : Co)  : kCX l D cI cJ yX2_count (.code yX2_count cX2_count 2 (some .int)) { frames := 6, cells := 1, slots := 6, locals := 90 } [.ref a0, .int 8] (wC a0 a1 a2 a3 a4 a5 a6 X) (xX2_count_8 X).1 (xX2_count_8 X).2.1 (wC a0 a1 a2 a3 a4 a5 a6 (xX2_count_8 X).2.2) := by
  refine fun sz => k_ofX (lv := [(0, .ref a0), (1, .int 8)]) (by decide) sz (Nat.le_of_ble_eq_true rfl) rfl ?_
  intro p e s m args below meth c hsz hx0 T C
  refine k_iload_n C dX2_count_0 1 rfl ?_
  refine k_tabIn (off := 110) C 111 (by decide) (by decide) (by decide +kernel) (by decide) dX2_count_1 ?_
  refine k_aload_n C dX2_count_111 0 rfl ?_
  refine k_getX2 C 0 14 rfl (by decide) rfl q136 rfl dX2_count_112 ?_
  have hL : xX2_count_8 X = (0, X.2.2.2.2.2.2.2.2.2.2.2.2.2.2, X) := by exact rfl
  exact k_toX (k_iretX C rfl (by rw [hL]) (by rw [hL]) (by rw [hL]) dX2_count_115)

noncomputable def xX2_count_bad (p0 : Int32) (X : Co) : Int32 × Int32 × Co :=
  (3, 0, X)
set_option maxHeartbeats 4000000 in
set_option maxRecDepth 100000 in
theorem x_X2_count_bad (l : Launch) (hl : l.stackTraces = false) (D : va_G) (cI cJ : ClassId) (a0 a1 a2 a3 a4 a5 a6 : Nat) (p0 : Int32) (X : Co) (hb : p0.toInt < 0 ∨ 8 < p0.toInt) : kCX l D cI cJ yX2_count (.code yX2_count cX2_count 2 (some .int)) { frames := 6, cells := 1, slots := 6, locals := 90 } [.ref a0, .int p0] (wC a0 a1 a2 a3 a4 a5 a6 X) (xX2_count_bad p0 X).1 (xX2_count_bad p0 X).2.1 (wC a0 a1 a2 a3 a4 a5 a6 (xX2_count_bad p0 X).2.2) := by
  refine fun sz => k_ofX (lv := [(0, .ref a0), (1, .int p0)]) (by decide) sz (Nat.le_of_ble_eq_true rfl) rfl ?_
  intro p e s m args below meth c hsz hx0 T C
  refine k_iload_n C dX2_count_0 1 rfl ?_
  refine k_tabOut C 116 hb (by decide) dX2_count_1 ?_
  have hL : xX2_count_bad p0 X = (3, 0, X) := by exact rfl
  exact k_throw (cls := kIOO) (text := "no such count") (mc := 1) (ms := 6) C T hl hx0 (by rw [hL]; exact Or.inr (Or.inr ⟨rfl, rfl⟩)) rfl (by decide) q172 q42 (by decide) atO_tbl atO_rest (by decide) atO_ot (Nat.le_of_ble_eq_true rfl) (Nat.le_of_ble_eq_true rfl) (Nat.le_of_ble_eq_true rfl) (Nat.le_of_ble_eq_true rfl) (Nat.le_refl _) (Nat.le_refl _) dX2_count_116 dX2_count_119 dX2_count_120 dX2_count_122 dX2_count_125

noncomputable def xX2_told_00 (X : Co) : Int32 × Int32 × Co :=
  (0, X.1.1, X)
set_option maxHeartbeats 4000000 in
set_option maxRecDepth 100000 in
theorem x_X2_told_00 (l : Launch) (hl : l.stackTraces = false) (D : va_G) (cI cJ : ClassId) (a0 a1 a2 a3 a4 a5 a6 : Nat)  (X : Co)  : kCX l D cI cJ yX2_told (.code yX2_told cX2_told 3 (some .int)) { frames := 6, cells := 1, slots := 6, locals := 90 } [.ref a0, .int 0, .int 0] (wC a0 a1 a2 a3 a4 a5 a6 X) (xX2_told_00 X).1 (xX2_told_00 X).2.1 (wC a0 a1 a2 a3 a4 a5 a6 (xX2_told_00 X).2.2) := by
  refine fun sz => k_ofX (lv := [(0, .ref a0), (1, .int 0), (2, .int 0)]) (by decide) sz (Nat.le_of_ble_eq_true rfl) rfl ?_
  intro p e s m args below meth c hsz hx0 T C
  refine k_iload_n C dX2_told_0 1 rfl ?_
  refine k_callS_i C (mX2_isSide_k0 l D cI cJ) (va_cwS 1 C.2.2.2.2.1 (kGS q248 q249 q35 q250) rfl rfl rfl hdX2_isSide ⟨Nat.le_of_ble_eq_true rfl, Nat.le_of_ble_eq_true rfl⟩) [] [0, 1, 2, 3, 4, 5, 6] [0, 1, 2, 3, 4, 5, 6] [(a0, cF a1 a2 a3 a4 a5 a6 X.2.2.2.2.2.2), (a1, cS X.1), (a2, cS X.2.1), (a3, cB X.2.2.1), (a4, cB X.2.2.2.1), (a5, cB X.2.2.2.2.1), (a6, cB X.2.2.2.2.2.1)] ([(a0, cF a1 a2 a3 a4 a5 a6 X.2.2.2.2.2.2), (a1, cS X.1), (a2, cS X.2.1), (a3, cB X.2.2.1), (a4, cB X.2.2.2.1), (a5, cB X.2.2.2.2.1), (a6, cB X.2.2.2.2.2.1)]) rfl rfl rfl rfl (by decide) [] rfl rfl rfl rfl (Nat.le_of_ble_eq_true rfl) ⟨Nat.zero_le _, Nat.zero_le _⟩ rfl dX2_told_1 ?_
  refine k_if_eq C 16 (by decide) dX2_told_4 (fun h => absurd h (by decide)) (fun _ => ?_)
  refine k_iload_n C dX2_told_7 2 rfl ?_
  refine k_if_lt C 16 (by decide) dX2_told_8 (fun h => absurd h (by decide)) (fun _ => ?_)
  refine k_iload_n C dX2_told_11 2 rfl ?_
  refine k_iconst C 4 (by decide) dX2_told_12 ?_
  refine k_icmp_lt C 26 (by decide) dX2_told_13 (fun _ => ?_) (fun h => absurd (by decide) h)
  refine k_aload_n C dX2_told_26 0 rfl ?_
  refine k_iload_n C dX2_told_27 1 rfl ?_
  refine k_callV_r C (mX2_sideOf_1 l D cI cJ a0 a1 a2 a3 a4 a5 a6 0 X (by decide)) (cwV 1 C.2.2.2.2.1 (kGV q252 q254 q2 q35 q255) rfl rfl rfl ⟨rfl, hdX2_sideOf⟩ ⟨Nat.le_of_ble_eq_true rfl, Nat.le_of_ble_eq_true rfl⟩) [0, 1, 2, 3, 4, 5, 6] [] [0, 1, 2, 3, 4, 5, 6] [] ([(a0, cF a1 a2 a3 a4 a5 a6 X.2.2.2.2.2.2), (a1, cS X.1), (a2, cS X.2.1), (a3, cB X.2.2.1), (a4, cB X.2.2.2.1), (a5, cB X.2.2.2.2.1), (a6, cB X.2.2.2.2.2.1)]) rfl rfl rfl rfl (by decide) [a0, a1, a2, a3, a4, a5, a6] rfl rfl rfl rfl 0 2 rfl rfl rfl (Nat.le_of_ble_eq_true rfl) ⟨Nat.zero_le _, Nat.zero_le _⟩ rfl dX2_told_28 ?_
  refine k_iload_n C dX2_told_31 2 rfl ?_
  refine k_callN_i C (mX1_part_0 l D cI cJ a1 X.1) ⟨va_cnB 1 C.2.2.2.2.1 (kGN q259) rfl rfl rfl (C.2.2.2.2.2.2.1 _ qn9) (C.2.2.2.2.1 _ q36) hdX1_part ⟨Nat.le_of_ble_eq_true rfl, Nat.le_of_ble_eq_true rfl⟩, C.2.2.2.2.1 _ q258, C.2.2.2.2.1 _ q3⟩ [1] [0, 2, 3, 4, 5, 6] [0, 6, 1, 2, 3, 4, 5] [(a0, cF a1 a2 a3 a4 a5 a6 X.2.2.2.2.2.2), (a2, cS X.2.1), (a3, cB X.2.2.1), (a4, cB X.2.2.2.1), (a5, cB X.2.2.2.2.1), (a6, cB X.2.2.2.2.2.1)] ([(a0, cF a1 a2 a3 a4 a5 a6 X.2.2.2.2.2.2), (a1, cS X.1), (a2, cS X.2.1), (a3, cB X.2.2.1), (a4, cB X.2.2.2.1), (a5, cB X.2.2.2.2.1), (a6, cB X.2.2.2.2.2.1)]) rfl rfl rfl rfl (by decide) [a1] rfl rfl rfl rfl 1 1 rfl rfl rfl (Nat.le_of_ble_eq_true rfl) ⟨Nat.zero_le _, Nat.zero_le _⟩ rfl dX2_told_32 ?_
  have hL : xX2_told_00 X = (0, X.1.1, X) := by exact rfl
  exact k_toX (k_iretX C rfl (by rw [hL]) (by rw [hL]) (by rw [hL]) dX2_told_35)

noncomputable def xX2_told_01 (X : Co) : Int32 × Int32 × Co :=
  (0, X.1.2.1, X)
set_option maxHeartbeats 4000000 in
set_option maxRecDepth 100000 in
theorem x_X2_told_01 (l : Launch) (hl : l.stackTraces = false) (D : va_G) (cI cJ : ClassId) (a0 a1 a2 a3 a4 a5 a6 : Nat)  (X : Co)  : kCX l D cI cJ yX2_told (.code yX2_told cX2_told 3 (some .int)) { frames := 6, cells := 1, slots := 6, locals := 90 } [.ref a0, .int 0, .int 1] (wC a0 a1 a2 a3 a4 a5 a6 X) (xX2_told_01 X).1 (xX2_told_01 X).2.1 (wC a0 a1 a2 a3 a4 a5 a6 (xX2_told_01 X).2.2) := by
  refine fun sz => k_ofX (lv := [(0, .ref a0), (1, .int 0), (2, .int 1)]) (by decide) sz (Nat.le_of_ble_eq_true rfl) rfl ?_
  intro p e s m args below meth c hsz hx0 T C
  refine k_iload_n C dX2_told_0 1 rfl ?_
  refine k_callS_i C (mX2_isSide_k0 l D cI cJ) (va_cwS 1 C.2.2.2.2.1 (kGS q248 q249 q35 q250) rfl rfl rfl hdX2_isSide ⟨Nat.le_of_ble_eq_true rfl, Nat.le_of_ble_eq_true rfl⟩) [] [0, 1, 2, 3, 4, 5, 6] [0, 1, 2, 3, 4, 5, 6] [(a0, cF a1 a2 a3 a4 a5 a6 X.2.2.2.2.2.2), (a1, cS X.1), (a2, cS X.2.1), (a3, cB X.2.2.1), (a4, cB X.2.2.2.1), (a5, cB X.2.2.2.2.1), (a6, cB X.2.2.2.2.2.1)] ([(a0, cF a1 a2 a3 a4 a5 a6 X.2.2.2.2.2.2), (a1, cS X.1), (a2, cS X.2.1), (a3, cB X.2.2.1), (a4, cB X.2.2.2.1), (a5, cB X.2.2.2.2.1), (a6, cB X.2.2.2.2.2.1)]) rfl rfl rfl rfl (by decide) [] rfl rfl rfl rfl (Nat.le_of_ble_eq_true rfl) ⟨Nat.zero_le _, Nat.zero_le _⟩ rfl dX2_told_1 ?_
  refine k_if_eq C 16 (by decide) dX2_told_4 (fun h => absurd h (by decide)) (fun _ => ?_)
  refine k_iload_n C dX2_told_7 2 rfl ?_
  refine k_if_lt C 16 (by decide) dX2_told_8 (fun h => absurd h (by decide)) (fun _ => ?_)
  refine k_iload_n C dX2_told_11 2 rfl ?_
  refine k_iconst C 4 (by decide) dX2_told_12 ?_
  refine k_icmp_lt C 26 (by decide) dX2_told_13 (fun _ => ?_) (fun h => absurd (by decide) h)
  refine k_aload_n C dX2_told_26 0 rfl ?_
  refine k_iload_n C dX2_told_27 1 rfl ?_
  refine k_callV_r C (mX2_sideOf_1 l D cI cJ a0 a1 a2 a3 a4 a5 a6 0 X (by decide)) (cwV 1 C.2.2.2.2.1 (kGV q252 q254 q2 q35 q255) rfl rfl rfl ⟨rfl, hdX2_sideOf⟩ ⟨Nat.le_of_ble_eq_true rfl, Nat.le_of_ble_eq_true rfl⟩) [0, 1, 2, 3, 4, 5, 6] [] [0, 1, 2, 3, 4, 5, 6] [] ([(a0, cF a1 a2 a3 a4 a5 a6 X.2.2.2.2.2.2), (a1, cS X.1), (a2, cS X.2.1), (a3, cB X.2.2.1), (a4, cB X.2.2.2.1), (a5, cB X.2.2.2.2.1), (a6, cB X.2.2.2.2.2.1)]) rfl rfl rfl rfl (by decide) [a0, a1, a2, a3, a4, a5, a6] rfl rfl rfl rfl 0 2 rfl rfl rfl (Nat.le_of_ble_eq_true rfl) ⟨Nat.zero_le _, Nat.zero_le _⟩ rfl dX2_told_28 ?_
  refine k_iload_n C dX2_told_31 2 rfl ?_
  refine k_callN_i C (mX1_part_1 l D cI cJ a1 X.1) ⟨va_cnB 1 C.2.2.2.2.1 (kGN q259) rfl rfl rfl (C.2.2.2.2.2.2.1 _ qn9) (C.2.2.2.2.1 _ q36) hdX1_part ⟨Nat.le_of_ble_eq_true rfl, Nat.le_of_ble_eq_true rfl⟩, C.2.2.2.2.1 _ q258, C.2.2.2.2.1 _ q3⟩ [1] [0, 2, 3, 4, 5, 6] [0, 6, 1, 2, 3, 4, 5] [(a0, cF a1 a2 a3 a4 a5 a6 X.2.2.2.2.2.2), (a2, cS X.2.1), (a3, cB X.2.2.1), (a4, cB X.2.2.2.1), (a5, cB X.2.2.2.2.1), (a6, cB X.2.2.2.2.2.1)] ([(a0, cF a1 a2 a3 a4 a5 a6 X.2.2.2.2.2.2), (a1, cS X.1), (a2, cS X.2.1), (a3, cB X.2.2.1), (a4, cB X.2.2.2.1), (a5, cB X.2.2.2.2.1), (a6, cB X.2.2.2.2.2.1)]) rfl rfl rfl rfl (by decide) [a1] rfl rfl rfl rfl 1 1 rfl rfl rfl (Nat.le_of_ble_eq_true rfl) ⟨Nat.zero_le _, Nat.zero_le _⟩ rfl dX2_told_32 ?_
  have hL : xX2_told_01 X = (0, X.1.2.1, X) := by exact rfl
  exact k_toX (k_iretX C rfl (by rw [hL]) (by rw [hL]) (by rw [hL]) dX2_told_35)

noncomputable def xX2_told_02 (X : Co) : Int32 × Int32 × Co :=
  (0, X.1.2.2.1, X)
set_option maxHeartbeats 4000000 in
set_option maxRecDepth 100000 in
theorem x_X2_told_02 (l : Launch) (hl : l.stackTraces = false) (D : va_G) (cI cJ : ClassId) (a0 a1 a2 a3 a4 a5 a6 : Nat)  (X : Co)  : kCX l D cI cJ yX2_told (.code yX2_told cX2_told 3 (some .int)) { frames := 6, cells := 1, slots := 6, locals := 90 } [.ref a0, .int 0, .int 2] (wC a0 a1 a2 a3 a4 a5 a6 X) (xX2_told_02 X).1 (xX2_told_02 X).2.1 (wC a0 a1 a2 a3 a4 a5 a6 (xX2_told_02 X).2.2) := by
  refine fun sz => k_ofX (lv := [(0, .ref a0), (1, .int 0), (2, .int 2)]) (by decide) sz (Nat.le_of_ble_eq_true rfl) rfl ?_
  intro p e s m args below meth c hsz hx0 T C
  refine k_iload_n C dX2_told_0 1 rfl ?_
  refine k_callS_i C (mX2_isSide_k0 l D cI cJ) (va_cwS 1 C.2.2.2.2.1 (kGS q248 q249 q35 q250) rfl rfl rfl hdX2_isSide ⟨Nat.le_of_ble_eq_true rfl, Nat.le_of_ble_eq_true rfl⟩) [] [0, 1, 2, 3, 4, 5, 6] [0, 1, 2, 3, 4, 5, 6] [(a0, cF a1 a2 a3 a4 a5 a6 X.2.2.2.2.2.2), (a1, cS X.1), (a2, cS X.2.1), (a3, cB X.2.2.1), (a4, cB X.2.2.2.1), (a5, cB X.2.2.2.2.1), (a6, cB X.2.2.2.2.2.1)] ([(a0, cF a1 a2 a3 a4 a5 a6 X.2.2.2.2.2.2), (a1, cS X.1), (a2, cS X.2.1), (a3, cB X.2.2.1), (a4, cB X.2.2.2.1), (a5, cB X.2.2.2.2.1), (a6, cB X.2.2.2.2.2.1)]) rfl rfl rfl rfl (by decide) [] rfl rfl rfl rfl (Nat.le_of_ble_eq_true rfl) ⟨Nat.zero_le _, Nat.zero_le _⟩ rfl dX2_told_1 ?_
  refine k_if_eq C 16 (by decide) dX2_told_4 (fun h => absurd h (by decide)) (fun _ => ?_)
  refine k_iload_n C dX2_told_7 2 rfl ?_
  refine k_if_lt C 16 (by decide) dX2_told_8 (fun h => absurd h (by decide)) (fun _ => ?_)
  refine k_iload_n C dX2_told_11 2 rfl ?_
  refine k_iconst C 4 (by decide) dX2_told_12 ?_
  refine k_icmp_lt C 26 (by decide) dX2_told_13 (fun _ => ?_) (fun h => absurd (by decide) h)
  refine k_aload_n C dX2_told_26 0 rfl ?_
  refine k_iload_n C dX2_told_27 1 rfl ?_
  refine k_callV_r C (mX2_sideOf_1 l D cI cJ a0 a1 a2 a3 a4 a5 a6 0 X (by decide)) (cwV 1 C.2.2.2.2.1 (kGV q252 q254 q2 q35 q255) rfl rfl rfl ⟨rfl, hdX2_sideOf⟩ ⟨Nat.le_of_ble_eq_true rfl, Nat.le_of_ble_eq_true rfl⟩) [0, 1, 2, 3, 4, 5, 6] [] [0, 1, 2, 3, 4, 5, 6] [] ([(a0, cF a1 a2 a3 a4 a5 a6 X.2.2.2.2.2.2), (a1, cS X.1), (a2, cS X.2.1), (a3, cB X.2.2.1), (a4, cB X.2.2.2.1), (a5, cB X.2.2.2.2.1), (a6, cB X.2.2.2.2.2.1)]) rfl rfl rfl rfl (by decide) [a0, a1, a2, a3, a4, a5, a6] rfl rfl rfl rfl 0 2 rfl rfl rfl (Nat.le_of_ble_eq_true rfl) ⟨Nat.zero_le _, Nat.zero_le _⟩ rfl dX2_told_28 ?_
  refine k_iload_n C dX2_told_31 2 rfl ?_
  refine k_callN_i C (mX1_part_2 l D cI cJ a1 X.1) ⟨va_cnB 1 C.2.2.2.2.1 (kGN q259) rfl rfl rfl (C.2.2.2.2.2.2.1 _ qn9) (C.2.2.2.2.1 _ q36) hdX1_part ⟨Nat.le_of_ble_eq_true rfl, Nat.le_of_ble_eq_true rfl⟩, C.2.2.2.2.1 _ q258, C.2.2.2.2.1 _ q3⟩ [1] [0, 2, 3, 4, 5, 6] [0, 6, 1, 2, 3, 4, 5] [(a0, cF a1 a2 a3 a4 a5 a6 X.2.2.2.2.2.2), (a2, cS X.2.1), (a3, cB X.2.2.1), (a4, cB X.2.2.2.1), (a5, cB X.2.2.2.2.1), (a6, cB X.2.2.2.2.2.1)] ([(a0, cF a1 a2 a3 a4 a5 a6 X.2.2.2.2.2.2), (a1, cS X.1), (a2, cS X.2.1), (a3, cB X.2.2.1), (a4, cB X.2.2.2.1), (a5, cB X.2.2.2.2.1), (a6, cB X.2.2.2.2.2.1)]) rfl rfl rfl rfl (by decide) [a1] rfl rfl rfl rfl 1 1 rfl rfl rfl (Nat.le_of_ble_eq_true rfl) ⟨Nat.zero_le _, Nat.zero_le _⟩ rfl dX2_told_32 ?_
  have hL : xX2_told_02 X = (0, X.1.2.2.1, X) := by exact rfl
  exact k_toX (k_iretX C rfl (by rw [hL]) (by rw [hL]) (by rw [hL]) dX2_told_35)

noncomputable def xX2_told_03 (X : Co) : Int32 × Int32 × Co :=
  (0, X.1.2.2.2, X)
set_option maxHeartbeats 4000000 in
set_option maxRecDepth 100000 in
theorem x_X2_told_03 (l : Launch) (hl : l.stackTraces = false) (D : va_G) (cI cJ : ClassId) (a0 a1 a2 a3 a4 a5 a6 : Nat)  (X : Co)  : kCX l D cI cJ yX2_told (.code yX2_told cX2_told 3 (some .int)) { frames := 6, cells := 1, slots := 6, locals := 90 } [.ref a0, .int 0, .int 3] (wC a0 a1 a2 a3 a4 a5 a6 X) (xX2_told_03 X).1 (xX2_told_03 X).2.1 (wC a0 a1 a2 a3 a4 a5 a6 (xX2_told_03 X).2.2) := by
  refine fun sz => k_ofX (lv := [(0, .ref a0), (1, .int 0), (2, .int 3)]) (by decide) sz (Nat.le_of_ble_eq_true rfl) rfl ?_
  intro p e s m args below meth c hsz hx0 T C
  refine k_iload_n C dX2_told_0 1 rfl ?_
  refine k_callS_i C (mX2_isSide_k0 l D cI cJ) (va_cwS 1 C.2.2.2.2.1 (kGS q248 q249 q35 q250) rfl rfl rfl hdX2_isSide ⟨Nat.le_of_ble_eq_true rfl, Nat.le_of_ble_eq_true rfl⟩) [] [0, 1, 2, 3, 4, 5, 6] [0, 1, 2, 3, 4, 5, 6] [(a0, cF a1 a2 a3 a4 a5 a6 X.2.2.2.2.2.2), (a1, cS X.1), (a2, cS X.2.1), (a3, cB X.2.2.1), (a4, cB X.2.2.2.1), (a5, cB X.2.2.2.2.1), (a6, cB X.2.2.2.2.2.1)] ([(a0, cF a1 a2 a3 a4 a5 a6 X.2.2.2.2.2.2), (a1, cS X.1), (a2, cS X.2.1), (a3, cB X.2.2.1), (a4, cB X.2.2.2.1), (a5, cB X.2.2.2.2.1), (a6, cB X.2.2.2.2.2.1)]) rfl rfl rfl rfl (by decide) [] rfl rfl rfl rfl (Nat.le_of_ble_eq_true rfl) ⟨Nat.zero_le _, Nat.zero_le _⟩ rfl dX2_told_1 ?_
  refine k_if_eq C 16 (by decide) dX2_told_4 (fun h => absurd h (by decide)) (fun _ => ?_)
  refine k_iload_n C dX2_told_7 2 rfl ?_
  refine k_if_lt C 16 (by decide) dX2_told_8 (fun h => absurd h (by decide)) (fun _ => ?_)
  refine k_iload_n C dX2_told_11 2 rfl ?_
  refine k_iconst C 4 (by decide) dX2_told_12 ?_
  refine k_icmp_lt C 26 (by decide) dX2_told_13 (fun _ => ?_) (fun h => absurd (by decide) h)
  refine k_aload_n C dX2_told_26 0 rfl ?_
  refine k_iload_n C dX2_told_27 1 rfl ?_
  refine k_callV_r C (mX2_sideOf_1 l D cI cJ a0 a1 a2 a3 a4 a5 a6 0 X (by decide)) (cwV 1 C.2.2.2.2.1 (kGV q252 q254 q2 q35 q255) rfl rfl rfl ⟨rfl, hdX2_sideOf⟩ ⟨Nat.le_of_ble_eq_true rfl, Nat.le_of_ble_eq_true rfl⟩) [0, 1, 2, 3, 4, 5, 6] [] [0, 1, 2, 3, 4, 5, 6] [] ([(a0, cF a1 a2 a3 a4 a5 a6 X.2.2.2.2.2.2), (a1, cS X.1), (a2, cS X.2.1), (a3, cB X.2.2.1), (a4, cB X.2.2.2.1), (a5, cB X.2.2.2.2.1), (a6, cB X.2.2.2.2.2.1)]) rfl rfl rfl rfl (by decide) [a0, a1, a2, a3, a4, a5, a6] rfl rfl rfl rfl 0 2 rfl rfl rfl (Nat.le_of_ble_eq_true rfl) ⟨Nat.zero_le _, Nat.zero_le _⟩ rfl dX2_told_28 ?_
  refine k_iload_n C dX2_told_31 2 rfl ?_
  refine k_callN_i C (mX1_part_3 l D cI cJ a1 X.1) ⟨va_cnB 1 C.2.2.2.2.1 (kGN q259) rfl rfl rfl (C.2.2.2.2.2.2.1 _ qn9) (C.2.2.2.2.1 _ q36) hdX1_part ⟨Nat.le_of_ble_eq_true rfl, Nat.le_of_ble_eq_true rfl⟩, C.2.2.2.2.1 _ q258, C.2.2.2.2.1 _ q3⟩ [1] [0, 2, 3, 4, 5, 6] [0, 6, 1, 2, 3, 4, 5] [(a0, cF a1 a2 a3 a4 a5 a6 X.2.2.2.2.2.2), (a2, cS X.2.1), (a3, cB X.2.2.1), (a4, cB X.2.2.2.1), (a5, cB X.2.2.2.2.1), (a6, cB X.2.2.2.2.2.1)] ([(a0, cF a1 a2 a3 a4 a5 a6 X.2.2.2.2.2.2), (a1, cS X.1), (a2, cS X.2.1), (a3, cB X.2.2.1), (a4, cB X.2.2.2.1), (a5, cB X.2.2.2.2.1), (a6, cB X.2.2.2.2.2.1)]) rfl rfl rfl rfl (by decide) [a1] rfl rfl rfl rfl 1 1 rfl rfl rfl (Nat.le_of_ble_eq_true rfl) ⟨Nat.zero_le _, Nat.zero_le _⟩ rfl dX2_told_32 ?_
  have hL : xX2_told_03 X = (0, X.1.2.2.2, X) := by exact rfl
  exact k_toX (k_iretX C rfl (by rw [hL]) (by rw [hL]) (by rw [hL]) dX2_told_35)

noncomputable def xX2_told_10 (X : Co) : Int32 × Int32 × Co :=
  (0, X.2.1.1, X)
set_option maxHeartbeats 4000000 in
set_option maxRecDepth 100000 in
theorem x_X2_told_10 (l : Launch) (hl : l.stackTraces = false) (D : va_G) (cI cJ : ClassId) (a0 a1 a2 a3 a4 a5 a6 : Nat)  (X : Co)  : kCX l D cI cJ yX2_told (.code yX2_told cX2_told 3 (some .int)) { frames := 6, cells := 1, slots := 6, locals := 90 } [.ref a0, .int 1, .int 0] (wC a0 a1 a2 a3 a4 a5 a6 X) (xX2_told_10 X).1 (xX2_told_10 X).2.1 (wC a0 a1 a2 a3 a4 a5 a6 (xX2_told_10 X).2.2) := by
  refine fun sz => k_ofX (lv := [(0, .ref a0), (1, .int 1), (2, .int 0)]) (by decide) sz (Nat.le_of_ble_eq_true rfl) rfl ?_
  intro p e s m args below meth c hsz hx0 T C
  refine k_iload_n C dX2_told_0 1 rfl ?_
  refine k_callS_i C (mX2_isSide_k1 l D cI cJ) (va_cwS 1 C.2.2.2.2.1 (kGS q248 q249 q35 q250) rfl rfl rfl hdX2_isSide ⟨Nat.le_of_ble_eq_true rfl, Nat.le_of_ble_eq_true rfl⟩) [] [0, 1, 2, 3, 4, 5, 6] [0, 1, 2, 3, 4, 5, 6] [(a0, cF a1 a2 a3 a4 a5 a6 X.2.2.2.2.2.2), (a1, cS X.1), (a2, cS X.2.1), (a3, cB X.2.2.1), (a4, cB X.2.2.2.1), (a5, cB X.2.2.2.2.1), (a6, cB X.2.2.2.2.2.1)] ([(a0, cF a1 a2 a3 a4 a5 a6 X.2.2.2.2.2.2), (a1, cS X.1), (a2, cS X.2.1), (a3, cB X.2.2.1), (a4, cB X.2.2.2.1), (a5, cB X.2.2.2.2.1), (a6, cB X.2.2.2.2.2.1)]) rfl rfl rfl rfl (by decide) [] rfl rfl rfl rfl (Nat.le_of_ble_eq_true rfl) ⟨Nat.zero_le _, Nat.zero_le _⟩ rfl dX2_told_1 ?_
  refine k_if_eq C 16 (by decide) dX2_told_4 (fun h => absurd h (by decide)) (fun _ => ?_)
  refine k_iload_n C dX2_told_7 2 rfl ?_
  refine k_if_lt C 16 (by decide) dX2_told_8 (fun h => absurd h (by decide)) (fun _ => ?_)
  refine k_iload_n C dX2_told_11 2 rfl ?_
  refine k_iconst C 4 (by decide) dX2_told_12 ?_
  refine k_icmp_lt C 26 (by decide) dX2_told_13 (fun _ => ?_) (fun h => absurd (by decide) h)
  refine k_aload_n C dX2_told_26 0 rfl ?_
  refine k_iload_n C dX2_told_27 1 rfl ?_
  refine k_callV_r C (mX2_sideOf_2 l D cI cJ a0 a1 a2 a3 a4 a5 a6 1 X (by decide)) (cwV 1 C.2.2.2.2.1 (kGV q252 q254 q2 q35 q255) rfl rfl rfl ⟨rfl, hdX2_sideOf⟩ ⟨Nat.le_of_ble_eq_true rfl, Nat.le_of_ble_eq_true rfl⟩) [0, 1, 2, 3, 4, 5, 6] [] [0, 1, 2, 3, 4, 5, 6] [] ([(a0, cF a1 a2 a3 a4 a5 a6 X.2.2.2.2.2.2), (a1, cS X.1), (a2, cS X.2.1), (a3, cB X.2.2.1), (a4, cB X.2.2.2.1), (a5, cB X.2.2.2.2.1), (a6, cB X.2.2.2.2.2.1)]) rfl rfl rfl rfl (by decide) [a0, a1, a2, a3, a4, a5, a6] rfl rfl rfl rfl 0 2 rfl rfl rfl (Nat.le_of_ble_eq_true rfl) ⟨Nat.zero_le _, Nat.zero_le _⟩ rfl dX2_told_28 ?_
  refine k_iload_n C dX2_told_31 2 rfl ?_
  refine k_callN_i C (mX1_part_0 l D cI cJ a2 X.2.1) ⟨va_cnB 1 C.2.2.2.2.1 (kGN q259) rfl rfl rfl (C.2.2.2.2.2.2.1 _ qn9) (C.2.2.2.2.1 _ q36) hdX1_part ⟨Nat.le_of_ble_eq_true rfl, Nat.le_of_ble_eq_true rfl⟩, C.2.2.2.2.1 _ q258, C.2.2.2.2.1 _ q3⟩ [2] [0, 1, 3, 4, 5, 6] [0, 1, 6, 2, 3, 4, 5] [(a0, cF a1 a2 a3 a4 a5 a6 X.2.2.2.2.2.2), (a1, cS X.1), (a3, cB X.2.2.1), (a4, cB X.2.2.2.1), (a5, cB X.2.2.2.2.1), (a6, cB X.2.2.2.2.2.1)] ([(a0, cF a1 a2 a3 a4 a5 a6 X.2.2.2.2.2.2), (a1, cS X.1), (a2, cS X.2.1), (a3, cB X.2.2.1), (a4, cB X.2.2.2.1), (a5, cB X.2.2.2.2.1), (a6, cB X.2.2.2.2.2.1)]) rfl rfl rfl rfl (by decide) [a2] rfl rfl rfl rfl 2 1 rfl rfl rfl (Nat.le_of_ble_eq_true rfl) ⟨Nat.zero_le _, Nat.zero_le _⟩ rfl dX2_told_32 ?_
  have hL : xX2_told_10 X = (0, X.2.1.1, X) := by exact rfl
  exact k_toX (k_iretX C rfl (by rw [hL]) (by rw [hL]) (by rw [hL]) dX2_told_35)

noncomputable def xX2_told_11 (X : Co) : Int32 × Int32 × Co :=
  (0, X.2.1.2.1, X)
set_option maxHeartbeats 4000000 in
set_option maxRecDepth 100000 in
theorem x_X2_told_11 (l : Launch) (hl : l.stackTraces = false) (D : va_G) (cI cJ : ClassId) (a0 a1 a2 a3 a4 a5 a6 : Nat)  (X : Co)  : kCX l D cI cJ yX2_told (.code yX2_told cX2_told 3 (some .int)) { frames := 6, cells := 1, slots := 6, locals := 90 } [.ref a0, .int 1, .int 1] (wC a0 a1 a2 a3 a4 a5 a6 X) (xX2_told_11 X).1 (xX2_told_11 X).2.1 (wC a0 a1 a2 a3 a4 a5 a6 (xX2_told_11 X).2.2) := by
  refine fun sz => k_ofX (lv := [(0, .ref a0), (1, .int 1), (2, .int 1)]) (by decide) sz (Nat.le_of_ble_eq_true rfl) rfl ?_
  intro p e s m args below meth c hsz hx0 T C
  refine k_iload_n C dX2_told_0 1 rfl ?_
  refine k_callS_i C (mX2_isSide_k1 l D cI cJ) (va_cwS 1 C.2.2.2.2.1 (kGS q248 q249 q35 q250) rfl rfl rfl hdX2_isSide ⟨Nat.le_of_ble_eq_true rfl, Nat.le_of_ble_eq_true rfl⟩) [] [0, 1, 2, 3, 4, 5, 6] [0, 1, 2, 3, 4, 5, 6] [(a0, cF a1 a2 a3 a4 a5 a6 X.2.2.2.2.2.2), (a1, cS X.1), (a2, cS X.2.1), (a3, cB X.2.2.1), (a4, cB X.2.2.2.1), (a5, cB X.2.2.2.2.1), (a6, cB X.2.2.2.2.2.1)] ([(a0, cF a1 a2 a3 a4 a5 a6 X.2.2.2.2.2.2), (a1, cS X.1), (a2, cS X.2.1), (a3, cB X.2.2.1), (a4, cB X.2.2.2.1), (a5, cB X.2.2.2.2.1), (a6, cB X.2.2.2.2.2.1)]) rfl rfl rfl rfl (by decide) [] rfl rfl rfl rfl (Nat.le_of_ble_eq_true rfl) ⟨Nat.zero_le _, Nat.zero_le _⟩ rfl dX2_told_1 ?_
  refine k_if_eq C 16 (by decide) dX2_told_4 (fun h => absurd h (by decide)) (fun _ => ?_)
  refine k_iload_n C dX2_told_7 2 rfl ?_
  refine k_if_lt C 16 (by decide) dX2_told_8 (fun h => absurd h (by decide)) (fun _ => ?_)
  refine k_iload_n C dX2_told_11 2 rfl ?_
  refine k_iconst C 4 (by decide) dX2_told_12 ?_
  refine k_icmp_lt C 26 (by decide) dX2_told_13 (fun _ => ?_) (fun h => absurd (by decide) h)
  refine k_aload_n C dX2_told_26 0 rfl ?_
  refine k_iload_n C dX2_told_27 1 rfl ?_
  refine k_callV_r C (mX2_sideOf_2 l D cI cJ a0 a1 a2 a3 a4 a5 a6 1 X (by decide)) (cwV 1 C.2.2.2.2.1 (kGV q252 q254 q2 q35 q255) rfl rfl rfl ⟨rfl, hdX2_sideOf⟩ ⟨Nat.le_of_ble_eq_true rfl, Nat.le_of_ble_eq_true rfl⟩) [0, 1, 2, 3, 4, 5, 6] [] [0, 1, 2, 3, 4, 5, 6] [] ([(a0, cF a1 a2 a3 a4 a5 a6 X.2.2.2.2.2.2), (a1, cS X.1), (a2, cS X.2.1), (a3, cB X.2.2.1), (a4, cB X.2.2.2.1), (a5, cB X.2.2.2.2.1), (a6, cB X.2.2.2.2.2.1)]) rfl rfl rfl rfl (by decide) [a0, a1, a2, a3, a4, a5, a6] rfl rfl rfl rfl 0 2 rfl rfl rfl (Nat.le_of_ble_eq_true rfl) ⟨Nat.zero_le _, Nat.zero_le _⟩ rfl dX2_told_28 ?_
  refine k_iload_n C dX2_told_31 2 rfl ?_
  refine k_callN_i C (mX1_part_1 l D cI cJ a2 X.2.1) ⟨va_cnB 1 C.2.2.2.2.1 (kGN q259) rfl rfl rfl (C.2.2.2.2.2.2.1 _ qn9) (C.2.2.2.2.1 _ q36) hdX1_part ⟨Nat.le_of_ble_eq_true rfl, Nat.le_of_ble_eq_true rfl⟩, C.2.2.2.2.1 _ q258, C.2.2.2.2.1 _ q3⟩ [2] [0, 1, 3, 4, 5, 6] [0, 1, 6, 2, 3, 4, 5] [(a0, cF a1 a2 a3 a4 a5 a6 X.2.2.2.2.2.2), (a1, cS X.1), (a3, cB X.2.2.1), (a4, cB X.2.2.2.1), (a5, cB X.2.2.2.2.1), (a6, cB X.2.2.2.2.2.1)] ([(a0, cF a1 a2 a3 a4 a5 a6 X.2.2.2.2.2.2), (a1, cS X.1), (a2, cS X.2.1), (a3, cB X.2.2.1), (a4, cB X.2.2.2.1), (a5, cB X.2.2.2.2.1), (a6, cB X.2.2.2.2.2.1)]) rfl rfl rfl rfl (by decide) [a2] rfl rfl rfl rfl 2 1 rfl rfl rfl (Nat.le_of_ble_eq_true rfl) ⟨Nat.zero_le _, Nat.zero_le _⟩ rfl dX2_told_32 ?_
  have hL : xX2_told_11 X = (0, X.2.1.2.1, X) := by exact rfl
  exact k_toX (k_iretX C rfl (by rw [hL]) (by rw [hL]) (by rw [hL]) dX2_told_35)

noncomputable def xX2_told_12 (X : Co) : Int32 × Int32 × Co :=
  (0, X.2.1.2.2.1, X)
set_option maxHeartbeats 4000000 in
set_option maxRecDepth 100000 in
theorem x_X2_told_12 (l : Launch) (hl : l.stackTraces = false) (D : va_G) (cI cJ : ClassId) (a0 a1 a2 a3 a4 a5 a6 : Nat)  (X : Co)  : kCX l D cI cJ yX2_told (.code yX2_told cX2_told 3 (some .int)) { frames := 6, cells := 1, slots := 6, locals := 90 } [.ref a0, .int 1, .int 2] (wC a0 a1 a2 a3 a4 a5 a6 X) (xX2_told_12 X).1 (xX2_told_12 X).2.1 (wC a0 a1 a2 a3 a4 a5 a6 (xX2_told_12 X).2.2) := by
  refine fun sz => k_ofX (lv := [(0, .ref a0), (1, .int 1), (2, .int 2)]) (by decide) sz (Nat.le_of_ble_eq_true rfl) rfl ?_
  intro p e s m args below meth c hsz hx0 T C
  refine k_iload_n C dX2_told_0 1 rfl ?_
  refine k_callS_i C (mX2_isSide_k1 l D cI cJ) (va_cwS 1 C.2.2.2.2.1 (kGS q248 q249 q35 q250) rfl rfl rfl hdX2_isSide ⟨Nat.le_of_ble_eq_true rfl, Nat.le_of_ble_eq_true rfl⟩) [] [0, 1, 2, 3, 4, 5, 6] [0, 1, 2, 3, 4, 5, 6] [(a0, cF a1 a2 a3 a4 a5 a6 X.2.2.2.2.2.2), (a1, cS X.1), (a2, cS X.2.1), (a3, cB X.2.2.1), (a4, cB X.2.2.2.1), (a5, cB X.2.2.2.2.1), (a6, cB X.2.2.2.2.2.1)] ([(a0, cF a1 a2 a3 a4 a5 a6 X.2.2.2.2.2.2), (a1, cS X.1), (a2, cS X.2.1), (a3, cB X.2.2.1), (a4, cB X.2.2.2.1), (a5, cB X.2.2.2.2.1), (a6, cB X.2.2.2.2.2.1)]) rfl rfl rfl rfl (by decide) [] rfl rfl rfl rfl (Nat.le_of_ble_eq_true rfl) ⟨Nat.zero_le _, Nat.zero_le _⟩ rfl dX2_told_1 ?_
  refine k_if_eq C 16 (by decide) dX2_told_4 (fun h => absurd h (by decide)) (fun _ => ?_)
  refine k_iload_n C dX2_told_7 2 rfl ?_
  refine k_if_lt C 16 (by decide) dX2_told_8 (fun h => absurd h (by decide)) (fun _ => ?_)
  refine k_iload_n C dX2_told_11 2 rfl ?_
  refine k_iconst C 4 (by decide) dX2_told_12 ?_
  refine k_icmp_lt C 26 (by decide) dX2_told_13 (fun _ => ?_) (fun h => absurd (by decide) h)
  refine k_aload_n C dX2_told_26 0 rfl ?_
  refine k_iload_n C dX2_told_27 1 rfl ?_
  refine k_callV_r C (mX2_sideOf_2 l D cI cJ a0 a1 a2 a3 a4 a5 a6 1 X (by decide)) (cwV 1 C.2.2.2.2.1 (kGV q252 q254 q2 q35 q255) rfl rfl rfl ⟨rfl, hdX2_sideOf⟩ ⟨Nat.le_of_ble_eq_true rfl, Nat.le_of_ble_eq_true rfl⟩) [0, 1, 2, 3, 4, 5, 6] [] [0, 1, 2, 3, 4, 5, 6] [] ([(a0, cF a1 a2 a3 a4 a5 a6 X.2.2.2.2.2.2), (a1, cS X.1), (a2, cS X.2.1), (a3, cB X.2.2.1), (a4, cB X.2.2.2.1), (a5, cB X.2.2.2.2.1), (a6, cB X.2.2.2.2.2.1)]) rfl rfl rfl rfl (by decide) [a0, a1, a2, a3, a4, a5, a6] rfl rfl rfl rfl 0 2 rfl rfl rfl (Nat.le_of_ble_eq_true rfl) ⟨Nat.zero_le _, Nat.zero_le _⟩ rfl dX2_told_28 ?_
  refine k_iload_n C dX2_told_31 2 rfl ?_
  refine k_callN_i C (mX1_part_2 l D cI cJ a2 X.2.1) ⟨va_cnB 1 C.2.2.2.2.1 (kGN q259) rfl rfl rfl (C.2.2.2.2.2.2.1 _ qn9) (C.2.2.2.2.1 _ q36) hdX1_part ⟨Nat.le_of_ble_eq_true rfl, Nat.le_of_ble_eq_true rfl⟩, C.2.2.2.2.1 _ q258, C.2.2.2.2.1 _ q3⟩ [2] [0, 1, 3, 4, 5, 6] [0, 1, 6, 2, 3, 4, 5] [(a0, cF a1 a2 a3 a4 a5 a6 X.2.2.2.2.2.2), (a1, cS X.1), (a3, cB X.2.2.1), (a4, cB X.2.2.2.1), (a5, cB X.2.2.2.2.1), (a6, cB X.2.2.2.2.2.1)] ([(a0, cF a1 a2 a3 a4 a5 a6 X.2.2.2.2.2.2), (a1, cS X.1), (a2, cS X.2.1), (a3, cB X.2.2.1), (a4, cB X.2.2.2.1), (a5, cB X.2.2.2.2.1), (a6, cB X.2.2.2.2.2.1)]) rfl rfl rfl rfl (by decide) [a2] rfl rfl rfl rfl 2 1 rfl rfl rfl (Nat.le_of_ble_eq_true rfl) ⟨Nat.zero_le _, Nat.zero_le _⟩ rfl dX2_told_32 ?_
  have hL : xX2_told_12 X = (0, X.2.1.2.2.1, X) := by exact rfl
  exact k_toX (k_iretX C rfl (by rw [hL]) (by rw [hL]) (by rw [hL]) dX2_told_35)

noncomputable def xX2_told_13 (X : Co) : Int32 × Int32 × Co :=
  (0, X.2.1.2.2.2, X)
set_option maxHeartbeats 4000000 in
set_option maxRecDepth 100000 in
theorem x_X2_told_13 (l : Launch) (hl : l.stackTraces = false) (D : va_G) (cI cJ : ClassId) (a0 a1 a2 a3 a4 a5 a6 : Nat)  (X : Co)  : kCX l D cI cJ yX2_told (.code yX2_told cX2_told 3 (some .int)) { frames := 6, cells := 1, slots := 6, locals := 90 } [.ref a0, .int 1, .int 3] (wC a0 a1 a2 a3 a4 a5 a6 X) (xX2_told_13 X).1 (xX2_told_13 X).2.1 (wC a0 a1 a2 a3 a4 a5 a6 (xX2_told_13 X).2.2) := by
  refine fun sz => k_ofX (lv := [(0, .ref a0), (1, .int 1), (2, .int 3)]) (by decide) sz (Nat.le_of_ble_eq_true rfl) rfl ?_
  intro p e s m args below meth c hsz hx0 T C
  refine k_iload_n C dX2_told_0 1 rfl ?_
  refine k_callS_i C (mX2_isSide_k1 l D cI cJ) (va_cwS 1 C.2.2.2.2.1 (kGS q248 q249 q35 q250) rfl rfl rfl hdX2_isSide ⟨Nat.le_of_ble_eq_true rfl, Nat.le_of_ble_eq_true rfl⟩) [] [0, 1, 2, 3, 4, 5, 6] [0, 1, 2, 3, 4, 5, 6] [(a0, cF a1 a2 a3 a4 a5 a6 X.2.2.2.2.2.2), (a1, cS X.1), (a2, cS X.2.1), (a3, cB X.2.2.1), (a4, cB X.2.2.2.1), (a5, cB X.2.2.2.2.1), (a6, cB X.2.2.2.2.2.1)] ([(a0, cF a1 a2 a3 a4 a5 a6 X.2.2.2.2.2.2), (a1, cS X.1), (a2, cS X.2.1), (a3, cB X.2.2.1), (a4, cB X.2.2.2.1), (a5, cB X.2.2.2.2.1), (a6, cB X.2.2.2.2.2.1)]) rfl rfl rfl rfl (by decide) [] rfl rfl rfl rfl (Nat.le_of_ble_eq_true rfl) ⟨Nat.zero_le _, Nat.zero_le _⟩ rfl dX2_told_1 ?_
  refine k_if_eq C 16 (by decide) dX2_told_4 (fun h => absurd h (by decide)) (fun _ => ?_)
  refine k_iload_n C dX2_told_7 2 rfl ?_
  refine k_if_lt C 16 (by decide) dX2_told_8 (fun h => absurd h (by decide)) (fun _ => ?_)
  refine k_iload_n C dX2_told_11 2 rfl ?_
  refine k_iconst C 4 (by decide) dX2_told_12 ?_
  refine k_icmp_lt C 26 (by decide) dX2_told_13 (fun _ => ?_) (fun h => absurd (by decide) h)
  refine k_aload_n C dX2_told_26 0 rfl ?_
  refine k_iload_n C dX2_told_27 1 rfl ?_
  refine k_callV_r C (mX2_sideOf_2 l D cI cJ a0 a1 a2 a3 a4 a5 a6 1 X (by decide)) (cwV 1 C.2.2.2.2.1 (kGV q252 q254 q2 q35 q255) rfl rfl rfl ⟨rfl, hdX2_sideOf⟩ ⟨Nat.le_of_ble_eq_true rfl, Nat.le_of_ble_eq_true rfl⟩) [0, 1, 2, 3, 4, 5, 6] [] [0, 1, 2, 3, 4, 5, 6] [] ([(a0, cF a1 a2 a3 a4 a5 a6 X.2.2.2.2.2.2), (a1, cS X.1), (a2, cS X.2.1), (a3, cB X.2.2.1), (a4, cB X.2.2.2.1), (a5, cB X.2.2.2.2.1), (a6, cB X.2.2.2.2.2.1)]) rfl rfl rfl rfl (by decide) [a0, a1, a2, a3, a4, a5, a6] rfl rfl rfl rfl 0 2 rfl rfl rfl (Nat.le_of_ble_eq_true rfl) ⟨Nat.zero_le _, Nat.zero_le _⟩ rfl dX2_told_28 ?_
  refine k_iload_n C dX2_told_31 2 rfl ?_
  refine k_callN_i C (mX1_part_3 l D cI cJ a2 X.2.1) ⟨va_cnB 1 C.2.2.2.2.1 (kGN q259) rfl rfl rfl (C.2.2.2.2.2.2.1 _ qn9) (C.2.2.2.2.1 _ q36) hdX1_part ⟨Nat.le_of_ble_eq_true rfl, Nat.le_of_ble_eq_true rfl⟩, C.2.2.2.2.1 _ q258, C.2.2.2.2.1 _ q3⟩ [2] [0, 1, 3, 4, 5, 6] [0, 1, 6, 2, 3, 4, 5] [(a0, cF a1 a2 a3 a4 a5 a6 X.2.2.2.2.2.2), (a1, cS X.1), (a3, cB X.2.2.1), (a4, cB X.2.2.2.1), (a5, cB X.2.2.2.2.1), (a6, cB X.2.2.2.2.2.1)] ([(a0, cF a1 a2 a3 a4 a5 a6 X.2.2.2.2.2.2), (a1, cS X.1), (a2, cS X.2.1), (a3, cB X.2.2.1), (a4, cB X.2.2.2.1), (a5, cB X.2.2.2.2.1), (a6, cB X.2.2.2.2.2.1)]) rfl rfl rfl rfl (by decide) [a2] rfl rfl rfl rfl 2 1 rfl rfl rfl (Nat.le_of_ble_eq_true rfl) ⟨Nat.zero_le _, Nat.zero_le _⟩ rfl dX2_told_32 ?_
  have hL : xX2_told_13 X = (0, X.2.1.2.2.2, X) := by exact rfl
  exact k_toX (k_iretX C rfl (by rw [hL]) (by rw [hL]) (by rw [hL]) dX2_told_35)

noncomputable def xX2_told_bad (p0 : Int32) (p1 : Int32) (X : Co) : Int32 × Int32 × Co :=
  if (fX2_isSide p0) = 0 then (3, 0, X)
  else (if p1 < 0 then (3, 0, X)
    else (if p1 < 4 then (0, 0, X)
      else (3, 0, X)))
set_option maxHeartbeats 4000000 in
set_option maxRecDepth 100000 in
theorem x_X2_told_bad (l : Launch) (hl : l.stackTraces = false) (D : va_G) (cI cJ : ClassId) (a0 a1 a2 a3 a4 a5 a6 : Nat) (p0 : Int32) (p1 : Int32) (X : Co) (hb : ¬ (fX2_isSide p0) = 0 → ¬ p1 < 0 → p1 < 4 → False) : kCX l D cI cJ yX2_told (.code yX2_told cX2_told 3 (some .int)) { frames := 6, cells := 1, slots := 6, locals := 90 } [.ref a0, .int p0, .int p1] (wC a0 a1 a2 a3 a4 a5 a6 X) (xX2_told_bad p0 p1 X).1 (xX2_told_bad p0 p1 X).2.1 (wC a0 a1 a2 a3 a4 a5 a6 (xX2_told_bad p0 p1 X).2.2) := by
  refine fun sz => k_ofX (lv := [(0, .ref a0), (1, .int p0), (2, .int p1)]) (by decide) sz (Nat.le_of_ble_eq_true rfl) rfl ?_
  intro p e s m args below meth c hsz hx0 T C
  refine k_iload_n C dX2_told_0 1 rfl ?_
  refine k_callS_i C (mX2_isSide l D cI cJ p0) (va_cwS 1 C.2.2.2.2.1 (kGS q248 q249 q35 q250) rfl rfl rfl hdX2_isSide ⟨Nat.le_of_ble_eq_true rfl, Nat.le_of_ble_eq_true rfl⟩) [] [0, 1, 2, 3, 4, 5, 6] [0, 1, 2, 3, 4, 5, 6] [(a0, cF a1 a2 a3 a4 a5 a6 X.2.2.2.2.2.2), (a1, cS X.1), (a2, cS X.2.1), (a3, cB X.2.2.1), (a4, cB X.2.2.2.1), (a5, cB X.2.2.2.2.1), (a6, cB X.2.2.2.2.2.1)] ([(a0, cF a1 a2 a3 a4 a5 a6 X.2.2.2.2.2.2), (a1, cS X.1), (a2, cS X.2.1), (a3, cB X.2.2.1), (a4, cB X.2.2.2.1), (a5, cB X.2.2.2.2.1), (a6, cB X.2.2.2.2.2.1)]) rfl rfl rfl rfl (by decide) [] rfl rfl rfl rfl (Nat.le_of_ble_eq_true rfl) ⟨Nat.zero_le _, Nat.zero_le _⟩ rfl dX2_told_1 ?_
  generalize er1 : fX2_isSide p0 = r1
  refine k_if_eq C 16 (by decide) dX2_told_4 (fun c2 => ?_) (fun c2 => ?_)
  ·
    have hL : xX2_told_bad p0 p1 X = (3, 0, X) := by subst er1; exact (if_pos c2).trans rfl
    exact k_throw (cls := kIOO) (text := "nothing told of that") (mc := 1) (ms := 6) C T hl hx0 (by rw [hL]; exact Or.inr (Or.inr ⟨rfl, rfl⟩)) rfl (by decide) q172 q42 (by decide) atO_tbl atO_rest (by decide) atO_ot (Nat.le_of_ble_eq_true rfl) (Nat.le_of_ble_eq_true rfl) (Nat.le_of_ble_eq_true rfl) (Nat.le_of_ble_eq_true rfl) (Nat.le_refl _) (Nat.le_refl _) dX2_told_16 dX2_told_19 dX2_told_20 dX2_told_22 dX2_told_25
  ·
    refine k_iload_n C dX2_told_7 2 rfl ?_
    refine k_if_lt C 16 (by decide) dX2_told_8 (fun c3 => ?_) (fun c3 => ?_)
    ·
      have hL : xX2_told_bad p0 p1 X = (3, 0, X) := by subst er1; exact (if_neg c2).trans ((if_pos c3).trans rfl)
      exact k_throw (cls := kIOO) (text := "nothing told of that") (mc := 1) (ms := 6) C T hl hx0 (by rw [hL]; exact Or.inr (Or.inr ⟨rfl, rfl⟩)) rfl (by decide) q172 q42 (by decide) atO_tbl atO_rest (by decide) atO_ot (Nat.le_of_ble_eq_true rfl) (Nat.le_of_ble_eq_true rfl) (Nat.le_of_ble_eq_true rfl) (Nat.le_of_ble_eq_true rfl) (Nat.le_refl _) (Nat.le_refl _) dX2_told_16 dX2_told_19 dX2_told_20 dX2_told_22 dX2_told_25
    ·
      refine k_iload_n C dX2_told_11 2 rfl ?_
      refine k_iconst C 4 (by decide) dX2_told_12 ?_
      refine k_icmp_lt C 26 (by decide) dX2_told_13 (fun c4 => ?_) (fun c4 => ?_)
      ·
        exact (show False by subst er1; exact hb c2 c3 c4).elim
      ·
        have hL : xX2_told_bad p0 p1 X = (3, 0, X) := by subst er1; exact (if_neg c2).trans ((if_neg c3).trans ((if_neg c4).trans rfl))
        exact k_throw (cls := kIOO) (text := "nothing told of that") (mc := 1) (ms := 6) C T hl hx0 (by rw [hL]; exact Or.inr (Or.inr ⟨rfl, rfl⟩)) rfl (by decide) q172 q42 (by decide) atO_tbl atO_rest (by decide) atO_ot (Nat.le_of_ble_eq_true rfl) (Nat.le_of_ble_eq_true rfl) (Nat.le_of_ble_eq_true rfl) (Nat.le_of_ble_eq_true rfl) (Nat.le_refl _) (Nat.le_refl _) dX2_told_16 dX2_told_19 dX2_told_20 dX2_told_22 dX2_told_25

noncomputable def xX2_ball_0 (X : Co) : Int32 × Int32 × Co :=
  if X.2.2.2.2.2.2.2.1 = 0 then (0, 0, X)
  else (0, X.2.2.1.1, X)
set_option maxHeartbeats 4000000 in
set_option maxRecDepth 100000 in
theorem x_X2_ball_0 (l : Launch) (hl : l.stackTraces = false) (D : va_G) (cI cJ : ClassId) (a0 a1 a2 a3 a4 a5 a6 : Nat)  (X : Co)  : kCX l D cI cJ yX2_ball (.code yX2_ball cX2_ball 2 (some .int)) { frames := 6, cells := 1, slots := 6, locals := 90 } [.ref a0, .int 0] (wC a0 a1 a2 a3 a4 a5 a6 X) (xX2_ball_0 X).1 (xX2_ball_0 X).2.1 (wC a0 a1 a2 a3 a4 a5 a6 (xX2_ball_0 X).2.2) := by
  refine fun sz => k_ofX (lv := [(0, .ref a0), (1, .int 0)]) (by decide) sz (Nat.le_of_ble_eq_true rfl) rfl ?_
  intro p e s m args below meth c hsz hx0 T C
  refine k_iload_n C dX2_ball_0 1 rfl ?_
  refine k_if_lt C 10 (by decide) dX2_ball_1 (fun h => absurd h (by decide)) (fun _ => ?_)
  refine k_iload_n C dX2_ball_4 1 rfl ?_
  refine k_bipush C 6 (by decide) dX2_ball_5 ?_
  refine k_icmp_lt C 20 (by decide) dX2_ball_7 (fun _ => ?_) (fun h => absurd (by decide) h)
  refine k_aload_n C dX2_ball_20 0 rfl ?_
  refine k_getX2 C 0 7 rfl (by decide) rfl q129 rfl dX2_ball_21 ?_
  refine k_if_eq C 38 (by decide) dX2_ball_24 (fun c1 => ?_) (fun c1 => ?_)
  ·
    refine k_iconst C 0 (by decide) dX2_ball_38 ?_
    have hL : xX2_ball_0 X = (0, 0, X) := by exact (if_pos c1).trans rfl
    exact k_toX (k_iretX C rfl (by rw [hL]) (by rw [hL]) (by rw [hL]) dX2_ball_39)
  ·
    refine k_aload_n C dX2_ball_27 0 rfl ?_
    refine k_getX2 C 0 2 rfl (by decide) rfl q124 rfl dX2_ball_28 ?_
    refine k_iload_n C dX2_ball_31 1 rfl ?_
    refine k_callN_i C (mX0_part_0 l D cI cJ a3 X.2.2.1) ⟨va_cnB 1 C.2.2.2.2.1 (kGN q243) rfl rfl rfl (C.2.2.2.2.2.2.1 _ qn10) (C.2.2.2.2.1 _ q37) hdX0_part ⟨Nat.le_of_ble_eq_true rfl, Nat.le_of_ble_eq_true rfl⟩, C.2.2.2.2.1 _ q242, C.2.2.2.2.1 _ q1⟩ [3] [0, 1, 2, 4, 5, 6] [0, 1, 2, 6, 3, 4, 5] [(a0, cF a1 a2 a3 a4 a5 a6 X.2.2.2.2.2.2), (a1, cS X.1), (a2, cS X.2.1), (a4, cB X.2.2.2.1), (a5, cB X.2.2.2.2.1), (a6, cB X.2.2.2.2.2.1)] ([(a0, cF a1 a2 a3 a4 a5 a6 X.2.2.2.2.2.2), (a1, cS X.1), (a2, cS X.2.1), (a3, cB X.2.2.1), (a4, cB X.2.2.2.1), (a5, cB X.2.2.2.2.1), (a6, cB X.2.2.2.2.2.1)]) rfl rfl rfl rfl (by decide) [a3] rfl rfl rfl rfl 3 0 rfl rfl rfl (Nat.le_of_ble_eq_true rfl) ⟨Nat.zero_le _, Nat.zero_le _⟩ rfl dX2_ball_32 ?_
    refine k_goto C 39 (by decide) dX2_ball_35 ?_
    have hL : xX2_ball_0 X = (0, X.2.2.1.1, X) := by exact (if_neg c1).trans rfl
    exact k_toX (k_iretX C rfl (by rw [hL]) (by rw [hL]) (by rw [hL]) dX2_ball_39)

noncomputable def xX2_ball_1 (X : Co) : Int32 × Int32 × Co :=
  if X.2.2.2.2.2.2.2.1 = 0 then (0, 0, X)
  else (0, X.2.2.1.2.1, X)
set_option maxHeartbeats 4000000 in
set_option maxRecDepth 100000 in
theorem x_X2_ball_1 (l : Launch) (hl : l.stackTraces = false) (D : va_G) (cI cJ : ClassId) (a0 a1 a2 a3 a4 a5 a6 : Nat)  (X : Co)  : kCX l D cI cJ yX2_ball (.code yX2_ball cX2_ball 2 (some .int)) { frames := 6, cells := 1, slots := 6, locals := 90 } [.ref a0, .int 1] (wC a0 a1 a2 a3 a4 a5 a6 X) (xX2_ball_1 X).1 (xX2_ball_1 X).2.1 (wC a0 a1 a2 a3 a4 a5 a6 (xX2_ball_1 X).2.2) := by
  refine fun sz => k_ofX (lv := [(0, .ref a0), (1, .int 1)]) (by decide) sz (Nat.le_of_ble_eq_true rfl) rfl ?_
  intro p e s m args below meth c hsz hx0 T C
  refine k_iload_n C dX2_ball_0 1 rfl ?_
  refine k_if_lt C 10 (by decide) dX2_ball_1 (fun h => absurd h (by decide)) (fun _ => ?_)
  refine k_iload_n C dX2_ball_4 1 rfl ?_
  refine k_bipush C 6 (by decide) dX2_ball_5 ?_
  refine k_icmp_lt C 20 (by decide) dX2_ball_7 (fun _ => ?_) (fun h => absurd (by decide) h)
  refine k_aload_n C dX2_ball_20 0 rfl ?_
  refine k_getX2 C 0 7 rfl (by decide) rfl q129 rfl dX2_ball_21 ?_
  refine k_if_eq C 38 (by decide) dX2_ball_24 (fun c1 => ?_) (fun c1 => ?_)
  ·
    refine k_iconst C 0 (by decide) dX2_ball_38 ?_
    have hL : xX2_ball_1 X = (0, 0, X) := by exact (if_pos c1).trans rfl
    exact k_toX (k_iretX C rfl (by rw [hL]) (by rw [hL]) (by rw [hL]) dX2_ball_39)
  ·
    refine k_aload_n C dX2_ball_27 0 rfl ?_
    refine k_getX2 C 0 2 rfl (by decide) rfl q124 rfl dX2_ball_28 ?_
    refine k_iload_n C dX2_ball_31 1 rfl ?_
    refine k_callN_i C (mX0_part_1 l D cI cJ a3 X.2.2.1) ⟨va_cnB 1 C.2.2.2.2.1 (kGN q243) rfl rfl rfl (C.2.2.2.2.2.2.1 _ qn10) (C.2.2.2.2.1 _ q37) hdX0_part ⟨Nat.le_of_ble_eq_true rfl, Nat.le_of_ble_eq_true rfl⟩, C.2.2.2.2.1 _ q242, C.2.2.2.2.1 _ q1⟩ [3] [0, 1, 2, 4, 5, 6] [0, 1, 2, 6, 3, 4, 5] [(a0, cF a1 a2 a3 a4 a5 a6 X.2.2.2.2.2.2), (a1, cS X.1), (a2, cS X.2.1), (a4, cB X.2.2.2.1), (a5, cB X.2.2.2.2.1), (a6, cB X.2.2.2.2.2.1)] ([(a0, cF a1 a2 a3 a4 a5 a6 X.2.2.2.2.2.2), (a1, cS X.1), (a2, cS X.2.1), (a3, cB X.2.2.1), (a4, cB X.2.2.2.1), (a5, cB X.2.2.2.2.1), (a6, cB X.2.2.2.2.2.1)]) rfl rfl rfl rfl (by decide) [a3] rfl rfl rfl rfl 3 0 rfl rfl rfl (Nat.le_of_ble_eq_true rfl) ⟨Nat.zero_le _, Nat.zero_le _⟩ rfl dX2_ball_32 ?_
    refine k_goto C 39 (by decide) dX2_ball_35 ?_
    have hL : xX2_ball_1 X = (0, X.2.2.1.2.1, X) := by exact (if_neg c1).trans rfl
    exact k_toX (k_iretX C rfl (by rw [hL]) (by rw [hL]) (by rw [hL]) dX2_ball_39)

noncomputable def xX2_ball_2 (X : Co) : Int32 × Int32 × Co :=
  if X.2.2.2.2.2.2.2.1 = 0 then (0, 0, X)
  else (0, X.2.2.1.2.2.1, X)
set_option maxHeartbeats 4000000 in
set_option maxRecDepth 100000 in
theorem x_X2_ball_2 (l : Launch) (hl : l.stackTraces = false) (D : va_G) (cI cJ : ClassId) (a0 a1 a2 a3 a4 a5 a6 : Nat)  (X : Co)  : kCX l D cI cJ yX2_ball (.code yX2_ball cX2_ball 2 (some .int)) { frames := 6, cells := 1, slots := 6, locals := 90 } [.ref a0, .int 2] (wC a0 a1 a2 a3 a4 a5 a6 X) (xX2_ball_2 X).1 (xX2_ball_2 X).2.1 (wC a0 a1 a2 a3 a4 a5 a6 (xX2_ball_2 X).2.2) := by
  refine fun sz => k_ofX (lv := [(0, .ref a0), (1, .int 2)]) (by decide) sz (Nat.le_of_ble_eq_true rfl) rfl ?_
  intro p e s m args below meth c hsz hx0 T C
  refine k_iload_n C dX2_ball_0 1 rfl ?_
  refine k_if_lt C 10 (by decide) dX2_ball_1 (fun h => absurd h (by decide)) (fun _ => ?_)
  refine k_iload_n C dX2_ball_4 1 rfl ?_
  refine k_bipush C 6 (by decide) dX2_ball_5 ?_
  refine k_icmp_lt C 20 (by decide) dX2_ball_7 (fun _ => ?_) (fun h => absurd (by decide) h)
  refine k_aload_n C dX2_ball_20 0 rfl ?_
  refine k_getX2 C 0 7 rfl (by decide) rfl q129 rfl dX2_ball_21 ?_
  refine k_if_eq C 38 (by decide) dX2_ball_24 (fun c1 => ?_) (fun c1 => ?_)
  ·
    refine k_iconst C 0 (by decide) dX2_ball_38 ?_
    have hL : xX2_ball_2 X = (0, 0, X) := by exact (if_pos c1).trans rfl
    exact k_toX (k_iretX C rfl (by rw [hL]) (by rw [hL]) (by rw [hL]) dX2_ball_39)
  ·
    refine k_aload_n C dX2_ball_27 0 rfl ?_
    refine k_getX2 C 0 2 rfl (by decide) rfl q124 rfl dX2_ball_28 ?_
    refine k_iload_n C dX2_ball_31 1 rfl ?_
    refine k_callN_i C (mX0_part_2 l D cI cJ a3 X.2.2.1) ⟨va_cnB 1 C.2.2.2.2.1 (kGN q243) rfl rfl rfl (C.2.2.2.2.2.2.1 _ qn10) (C.2.2.2.2.1 _ q37) hdX0_part ⟨Nat.le_of_ble_eq_true rfl, Nat.le_of_ble_eq_true rfl⟩, C.2.2.2.2.1 _ q242, C.2.2.2.2.1 _ q1⟩ [3] [0, 1, 2, 4, 5, 6] [0, 1, 2, 6, 3, 4, 5] [(a0, cF a1 a2 a3 a4 a5 a6 X.2.2.2.2.2.2), (a1, cS X.1), (a2, cS X.2.1), (a4, cB X.2.2.2.1), (a5, cB X.2.2.2.2.1), (a6, cB X.2.2.2.2.2.1)] ([(a0, cF a1 a2 a3 a4 a5 a6 X.2.2.2.2.2.2), (a1, cS X.1), (a2, cS X.2.1), (a3, cB X.2.2.1), (a4, cB X.2.2.2.1), (a5, cB X.2.2.2.2.1), (a6, cB X.2.2.2.2.2.1)]) rfl rfl rfl rfl (by decide) [a3] rfl rfl rfl rfl 3 0 rfl rfl rfl (Nat.le_of_ble_eq_true rfl) ⟨Nat.zero_le _, Nat.zero_le _⟩ rfl dX2_ball_32 ?_
    refine k_goto C 39 (by decide) dX2_ball_35 ?_
    have hL : xX2_ball_2 X = (0, X.2.2.1.2.2.1, X) := by exact (if_neg c1).trans rfl
    exact k_toX (k_iretX C rfl (by rw [hL]) (by rw [hL]) (by rw [hL]) dX2_ball_39)

noncomputable def xX2_ball_3 (X : Co) : Int32 × Int32 × Co :=
  if X.2.2.2.2.2.2.2.1 = 0 then (0, 0, X)
  else (0, X.2.2.1.2.2.2.1, X)
set_option maxHeartbeats 4000000 in
set_option maxRecDepth 100000 in
theorem x_X2_ball_3 (l : Launch) (hl : l.stackTraces = false) (D : va_G) (cI cJ : ClassId) (a0 a1 a2 a3 a4 a5 a6 : Nat)  (X : Co)  : kCX l D cI cJ yX2_ball (.code yX2_ball cX2_ball 2 (some .int)) { frames := 6, cells := 1, slots := 6, locals := 90 } [.ref a0, .int 3] (wC a0 a1 a2 a3 a4 a5 a6 X) (xX2_ball_3 X).1 (xX2_ball_3 X).2.1 (wC a0 a1 a2 a3 a4 a5 a6 (xX2_ball_3 X).2.2) := by
  refine fun sz => k_ofX (lv := [(0, .ref a0), (1, .int 3)]) (by decide) sz (Nat.le_of_ble_eq_true rfl) rfl ?_
  intro p e s m args below meth c hsz hx0 T C
  refine k_iload_n C dX2_ball_0 1 rfl ?_
  refine k_if_lt C 10 (by decide) dX2_ball_1 (fun h => absurd h (by decide)) (fun _ => ?_)
  refine k_iload_n C dX2_ball_4 1 rfl ?_
  refine k_bipush C 6 (by decide) dX2_ball_5 ?_
  refine k_icmp_lt C 20 (by decide) dX2_ball_7 (fun _ => ?_) (fun h => absurd (by decide) h)
  refine k_aload_n C dX2_ball_20 0 rfl ?_
  refine k_getX2 C 0 7 rfl (by decide) rfl q129 rfl dX2_ball_21 ?_
  refine k_if_eq C 38 (by decide) dX2_ball_24 (fun c1 => ?_) (fun c1 => ?_)
  ·
    refine k_iconst C 0 (by decide) dX2_ball_38 ?_
    have hL : xX2_ball_3 X = (0, 0, X) := by exact (if_pos c1).trans rfl
    exact k_toX (k_iretX C rfl (by rw [hL]) (by rw [hL]) (by rw [hL]) dX2_ball_39)
  ·
    refine k_aload_n C dX2_ball_27 0 rfl ?_
    refine k_getX2 C 0 2 rfl (by decide) rfl q124 rfl dX2_ball_28 ?_
    refine k_iload_n C dX2_ball_31 1 rfl ?_
    refine k_callN_i C (mX0_part_3 l D cI cJ a3 X.2.2.1) ⟨va_cnB 1 C.2.2.2.2.1 (kGN q243) rfl rfl rfl (C.2.2.2.2.2.2.1 _ qn10) (C.2.2.2.2.1 _ q37) hdX0_part ⟨Nat.le_of_ble_eq_true rfl, Nat.le_of_ble_eq_true rfl⟩, C.2.2.2.2.1 _ q242, C.2.2.2.2.1 _ q1⟩ [3] [0, 1, 2, 4, 5, 6] [0, 1, 2, 6, 3, 4, 5] [(a0, cF a1 a2 a3 a4 a5 a6 X.2.2.2.2.2.2), (a1, cS X.1), (a2, cS X.2.1), (a4, cB X.2.2.2.1), (a5, cB X.2.2.2.2.1), (a6, cB X.2.2.2.2.2.1)] ([(a0, cF a1 a2 a3 a4 a5 a6 X.2.2.2.2.2.2), (a1, cS X.1), (a2, cS X.2.1), (a3, cB X.2.2.1), (a4, cB X.2.2.2.1), (a5, cB X.2.2.2.2.1), (a6, cB X.2.2.2.2.2.1)]) rfl rfl rfl rfl (by decide) [a3] rfl rfl rfl rfl 3 0 rfl rfl rfl (Nat.le_of_ble_eq_true rfl) ⟨Nat.zero_le _, Nat.zero_le _⟩ rfl dX2_ball_32 ?_
    refine k_goto C 39 (by decide) dX2_ball_35 ?_
    have hL : xX2_ball_3 X = (0, X.2.2.1.2.2.2.1, X) := by exact (if_neg c1).trans rfl
    exact k_toX (k_iretX C rfl (by rw [hL]) (by rw [hL]) (by rw [hL]) dX2_ball_39)

noncomputable def xX2_ball_4 (X : Co) : Int32 × Int32 × Co :=
  if X.2.2.2.2.2.2.2.1 = 0 then (0, 0, X)
  else (0, X.2.2.1.2.2.2.2.1, X)
set_option maxHeartbeats 4000000 in
set_option maxRecDepth 100000 in
theorem x_X2_ball_4 (l : Launch) (hl : l.stackTraces = false) (D : va_G) (cI cJ : ClassId) (a0 a1 a2 a3 a4 a5 a6 : Nat)  (X : Co)  : kCX l D cI cJ yX2_ball (.code yX2_ball cX2_ball 2 (some .int)) { frames := 6, cells := 1, slots := 6, locals := 90 } [.ref a0, .int 4] (wC a0 a1 a2 a3 a4 a5 a6 X) (xX2_ball_4 X).1 (xX2_ball_4 X).2.1 (wC a0 a1 a2 a3 a4 a5 a6 (xX2_ball_4 X).2.2) := by
  refine fun sz => k_ofX (lv := [(0, .ref a0), (1, .int 4)]) (by decide) sz (Nat.le_of_ble_eq_true rfl) rfl ?_
  intro p e s m args below meth c hsz hx0 T C
  refine k_iload_n C dX2_ball_0 1 rfl ?_
  refine k_if_lt C 10 (by decide) dX2_ball_1 (fun h => absurd h (by decide)) (fun _ => ?_)
  refine k_iload_n C dX2_ball_4 1 rfl ?_
  refine k_bipush C 6 (by decide) dX2_ball_5 ?_
  refine k_icmp_lt C 20 (by decide) dX2_ball_7 (fun _ => ?_) (fun h => absurd (by decide) h)
  refine k_aload_n C dX2_ball_20 0 rfl ?_
  refine k_getX2 C 0 7 rfl (by decide) rfl q129 rfl dX2_ball_21 ?_
  refine k_if_eq C 38 (by decide) dX2_ball_24 (fun c1 => ?_) (fun c1 => ?_)
  ·
    refine k_iconst C 0 (by decide) dX2_ball_38 ?_
    have hL : xX2_ball_4 X = (0, 0, X) := by exact (if_pos c1).trans rfl
    exact k_toX (k_iretX C rfl (by rw [hL]) (by rw [hL]) (by rw [hL]) dX2_ball_39)
  ·
    refine k_aload_n C dX2_ball_27 0 rfl ?_
    refine k_getX2 C 0 2 rfl (by decide) rfl q124 rfl dX2_ball_28 ?_
    refine k_iload_n C dX2_ball_31 1 rfl ?_
    refine k_callN_i C (mX0_part_4 l D cI cJ a3 X.2.2.1) ⟨va_cnB 1 C.2.2.2.2.1 (kGN q243) rfl rfl rfl (C.2.2.2.2.2.2.1 _ qn10) (C.2.2.2.2.1 _ q37) hdX0_part ⟨Nat.le_of_ble_eq_true rfl, Nat.le_of_ble_eq_true rfl⟩, C.2.2.2.2.1 _ q242, C.2.2.2.2.1 _ q1⟩ [3] [0, 1, 2, 4, 5, 6] [0, 1, 2, 6, 3, 4, 5] [(a0, cF a1 a2 a3 a4 a5 a6 X.2.2.2.2.2.2), (a1, cS X.1), (a2, cS X.2.1), (a4, cB X.2.2.2.1), (a5, cB X.2.2.2.2.1), (a6, cB X.2.2.2.2.2.1)] ([(a0, cF a1 a2 a3 a4 a5 a6 X.2.2.2.2.2.2), (a1, cS X.1), (a2, cS X.2.1), (a3, cB X.2.2.1), (a4, cB X.2.2.2.1), (a5, cB X.2.2.2.2.1), (a6, cB X.2.2.2.2.2.1)]) rfl rfl rfl rfl (by decide) [a3] rfl rfl rfl rfl 3 0 rfl rfl rfl (Nat.le_of_ble_eq_true rfl) ⟨Nat.zero_le _, Nat.zero_le _⟩ rfl dX2_ball_32 ?_
    refine k_goto C 39 (by decide) dX2_ball_35 ?_
    have hL : xX2_ball_4 X = (0, X.2.2.1.2.2.2.2.1, X) := by exact (if_neg c1).trans rfl
    exact k_toX (k_iretX C rfl (by rw [hL]) (by rw [hL]) (by rw [hL]) dX2_ball_39)

noncomputable def xX2_ball_5 (X : Co) : Int32 × Int32 × Co :=
  if X.2.2.2.2.2.2.2.1 = 0 then (0, 0, X)
  else (0, X.2.2.1.2.2.2.2.2.1, X)
set_option maxHeartbeats 4000000 in
set_option maxRecDepth 100000 in
theorem x_X2_ball_5 (l : Launch) (hl : l.stackTraces = false) (D : va_G) (cI cJ : ClassId) (a0 a1 a2 a3 a4 a5 a6 : Nat)  (X : Co)  : kCX l D cI cJ yX2_ball (.code yX2_ball cX2_ball 2 (some .int)) { frames := 6, cells := 1, slots := 6, locals := 90 } [.ref a0, .int 5] (wC a0 a1 a2 a3 a4 a5 a6 X) (xX2_ball_5 X).1 (xX2_ball_5 X).2.1 (wC a0 a1 a2 a3 a4 a5 a6 (xX2_ball_5 X).2.2) := by
  refine fun sz => k_ofX (lv := [(0, .ref a0), (1, .int 5)]) (by decide) sz (Nat.le_of_ble_eq_true rfl) rfl ?_
  intro p e s m args below meth c hsz hx0 T C
  refine k_iload_n C dX2_ball_0 1 rfl ?_
  refine k_if_lt C 10 (by decide) dX2_ball_1 (fun h => absurd h (by decide)) (fun _ => ?_)
  refine k_iload_n C dX2_ball_4 1 rfl ?_
  refine k_bipush C 6 (by decide) dX2_ball_5 ?_
  refine k_icmp_lt C 20 (by decide) dX2_ball_7 (fun _ => ?_) (fun h => absurd (by decide) h)
  refine k_aload_n C dX2_ball_20 0 rfl ?_
  refine k_getX2 C 0 7 rfl (by decide) rfl q129 rfl dX2_ball_21 ?_
  refine k_if_eq C 38 (by decide) dX2_ball_24 (fun c1 => ?_) (fun c1 => ?_)
  ·
    refine k_iconst C 0 (by decide) dX2_ball_38 ?_
    have hL : xX2_ball_5 X = (0, 0, X) := by exact (if_pos c1).trans rfl
    exact k_toX (k_iretX C rfl (by rw [hL]) (by rw [hL]) (by rw [hL]) dX2_ball_39)
  ·
    refine k_aload_n C dX2_ball_27 0 rfl ?_
    refine k_getX2 C 0 2 rfl (by decide) rfl q124 rfl dX2_ball_28 ?_
    refine k_iload_n C dX2_ball_31 1 rfl ?_
    refine k_callN_i C (mX0_part_5 l D cI cJ a3 X.2.2.1) ⟨va_cnB 1 C.2.2.2.2.1 (kGN q243) rfl rfl rfl (C.2.2.2.2.2.2.1 _ qn10) (C.2.2.2.2.1 _ q37) hdX0_part ⟨Nat.le_of_ble_eq_true rfl, Nat.le_of_ble_eq_true rfl⟩, C.2.2.2.2.1 _ q242, C.2.2.2.2.1 _ q1⟩ [3] [0, 1, 2, 4, 5, 6] [0, 1, 2, 6, 3, 4, 5] [(a0, cF a1 a2 a3 a4 a5 a6 X.2.2.2.2.2.2), (a1, cS X.1), (a2, cS X.2.1), (a4, cB X.2.2.2.1), (a5, cB X.2.2.2.2.1), (a6, cB X.2.2.2.2.2.1)] ([(a0, cF a1 a2 a3 a4 a5 a6 X.2.2.2.2.2.2), (a1, cS X.1), (a2, cS X.2.1), (a3, cB X.2.2.1), (a4, cB X.2.2.2.1), (a5, cB X.2.2.2.2.1), (a6, cB X.2.2.2.2.2.1)]) rfl rfl rfl rfl (by decide) [a3] rfl rfl rfl rfl 3 0 rfl rfl rfl (Nat.le_of_ble_eq_true rfl) ⟨Nat.zero_le _, Nat.zero_le _⟩ rfl dX2_ball_32 ?_
    refine k_goto C 39 (by decide) dX2_ball_35 ?_
    have hL : xX2_ball_5 X = (0, X.2.2.1.2.2.2.2.2.1, X) := by exact (if_neg c1).trans rfl
    exact k_toX (k_iretX C rfl (by rw [hL]) (by rw [hL]) (by rw [hL]) dX2_ball_39)

noncomputable def xX2_ball_bad (p0 : Int32) (X : Co) : Int32 × Int32 × Co :=
  if p0 < 0 then (3, 0, X)
  else (if p0 < 6 then (0, 0, X)
    else (3, 0, X))
set_option maxHeartbeats 4000000 in
set_option maxRecDepth 100000 in
theorem x_X2_ball_bad (l : Launch) (hl : l.stackTraces = false) (D : va_G) (cI cJ : ClassId) (a0 a1 a2 a3 a4 a5 a6 : Nat) (p0 : Int32) (X : Co) (hb : ¬ p0 < 0 → p0 < 6 → False) : kCX l D cI cJ yX2_ball (.code yX2_ball cX2_ball 2 (some .int)) { frames := 6, cells := 1, slots := 6, locals := 90 } [.ref a0, .int p0] (wC a0 a1 a2 a3 a4 a5 a6 X) (xX2_ball_bad p0 X).1 (xX2_ball_bad p0 X).2.1 (wC a0 a1 a2 a3 a4 a5 a6 (xX2_ball_bad p0 X).2.2) := by
  refine fun sz => k_ofX (lv := [(0, .ref a0), (1, .int p0)]) (by decide) sz (Nat.le_of_ble_eq_true rfl) rfl ?_
  intro p e s m args below meth c hsz hx0 T C
  refine k_iload_n C dX2_ball_0 1 rfl ?_
  refine k_if_lt C 10 (by decide) dX2_ball_1 (fun c1 => ?_) (fun c1 => ?_)
  ·
    have hL : xX2_ball_bad p0 X = (3, 0, X) := by exact (if_pos c1).trans rfl
    exact k_throw (cls := kIOO) (text := "no such part of the ball") (mc := 1) (ms := 6) C T hl hx0 (by rw [hL]; exact Or.inr (Or.inr ⟨rfl, rfl⟩)) rfl (by decide) q172 q42 (by decide) atO_tbl atO_rest (by decide) atO_ot (Nat.le_of_ble_eq_true rfl) (Nat.le_of_ble_eq_true rfl) (Nat.le_of_ble_eq_true rfl) (Nat.le_of_ble_eq_true rfl) (Nat.le_refl _) (Nat.le_refl _) dX2_ball_10 dX2_ball_13 dX2_ball_14 dX2_ball_16 dX2_ball_19
  ·
    refine k_iload_n C dX2_ball_4 1 rfl ?_
    refine k_bipush C 6 (by decide) dX2_ball_5 ?_
    refine k_icmp_lt C 20 (by decide) dX2_ball_7 (fun c2 => ?_) (fun c2 => ?_)
    ·
      exact (show False by exact hb c1 c2).elim
    ·
      have hL : xX2_ball_bad p0 X = (3, 0, X) := by exact (if_neg c1).trans ((if_neg c2).trans rfl)
      exact k_throw (cls := kIOO) (text := "no such part of the ball") (mc := 1) (ms := 6) C T hl hx0 (by rw [hL]; exact Or.inr (Or.inr ⟨rfl, rfl⟩)) rfl (by decide) q172 q42 (by decide) atO_tbl atO_rest (by decide) atO_ot (Nat.le_of_ble_eq_true rfl) (Nat.le_of_ble_eq_true rfl) (Nat.le_of_ble_eq_true rfl) (Nat.le_of_ble_eq_true rfl) (Nat.le_refl _) (Nat.le_refl _) dX2_ball_10 dX2_ball_13 dX2_ball_14 dX2_ball_16 dX2_ball_19

noncomputable def xX2_end_0 (X : Co) : Int32 × Int32 × Co :=
  if X.2.2.2.2.2.2.2.1 = 0 then (0, 0, X)
  else (0, X.2.2.2.1.2.2.2.2.2.2.2.2.2.2, X)
set_option maxHeartbeats 4000000 in
set_option maxRecDepth 100000 in
theorem x_X2_end_0 (l : Launch) (hl : l.stackTraces = false) (D : va_G) (cI cJ : ClassId) (a0 a1 a2 a3 a4 a5 a6 : Nat)  (X : Co)  : kCX l D cI cJ yX2_end (.code yX2_end cX2_end 2 (some .int)) { frames := 6, cells := 1, slots := 6, locals := 90 } [.ref a0, .int 0] (wC a0 a1 a2 a3 a4 a5 a6 X) (xX2_end_0 X).1 (xX2_end_0 X).2.1 (wC a0 a1 a2 a3 a4 a5 a6 (xX2_end_0 X).2.2) := by
  refine fun sz => k_ofX (lv := [(0, .ref a0), (1, .int 0)]) (by decide) sz (Nat.le_of_ble_eq_true rfl) rfl ?_
  intro p e s m args below meth c hsz hx0 T C
  refine k_iload_n C dX2_end_0 1 rfl ?_
  refine k_if_lt C 9 (by decide) dX2_end_1 (fun h => absurd h (by decide)) (fun _ => ?_)
  refine k_iload_n C dX2_end_4 1 rfl ?_
  refine k_iconst C 5 (by decide) dX2_end_5 ?_
  refine k_icmp_lt C 19 (by decide) dX2_end_6 (fun _ => ?_) (fun h => absurd (by decide) h)
  refine k_aload_n C dX2_end_19 0 rfl ?_
  refine k_getX2 C 0 7 rfl (by decide) rfl q129 rfl dX2_end_20 ?_
  refine k_if_eq C 37 (by decide) dX2_end_23 (fun c1 => ?_) (fun c1 => ?_)
  ·
    refine k_iconst C 0 (by decide) dX2_end_37 ?_
    have hL : xX2_end_0 X = (0, 0, X) := by exact (if_pos c1).trans rfl
    exact k_toX (k_iretX C rfl (by rw [hL]) (by rw [hL]) (by rw [hL]) dX2_end_38)
  ·
    refine k_aload_n C dX2_end_26 0 rfl ?_
    refine k_getX2 C 0 3 rfl (by decide) rfl q125 rfl dX2_end_27 ?_
    refine k_iload_n C dX2_end_30 1 rfl ?_
    refine k_callN_i C (mX0_endPart_0 l D cI cJ a4 X.2.2.2.1) ⟨va_cnB 1 C.2.2.2.2.1 (kGN q361) rfl rfl rfl (C.2.2.2.2.2.2.1 _ qn11) (C.2.2.2.2.1 _ q37) hdX0_endPart ⟨Nat.le_of_ble_eq_true rfl, Nat.le_of_ble_eq_true rfl⟩, C.2.2.2.2.1 _ q360, C.2.2.2.2.1 _ q17⟩ [4] [0, 1, 2, 3, 5, 6] [0, 1, 2, 3, 6, 4, 5] [(a0, cF a1 a2 a3 a4 a5 a6 X.2.2.2.2.2.2), (a1, cS X.1), (a2, cS X.2.1), (a3, cB X.2.2.1), (a5, cB X.2.2.2.2.1), (a6, cB X.2.2.2.2.2.1)] ([(a0, cF a1 a2 a3 a4 a5 a6 X.2.2.2.2.2.2), (a1, cS X.1), (a2, cS X.2.1), (a3, cB X.2.2.1), (a4, cB X.2.2.2.1), (a5, cB X.2.2.2.2.1), (a6, cB X.2.2.2.2.2.1)]) rfl rfl rfl rfl (by decide) [a4] rfl rfl rfl rfl 4 0 rfl rfl rfl (Nat.le_of_ble_eq_true rfl) ⟨Nat.zero_le _, Nat.zero_le _⟩ rfl dX2_end_31 ?_
    refine k_goto C 38 (by decide) dX2_end_34 ?_
    have hL : xX2_end_0 X = (0, X.2.2.2.1.2.2.2.2.2.2.2.2.2.2, X) := by exact (if_neg c1).trans rfl
    exact k_toX (k_iretX C rfl (by rw [hL]) (by rw [hL]) (by rw [hL]) dX2_end_38)

noncomputable def xX2_end_1 (X : Co) : Int32 × Int32 × Co :=
  if X.2.2.2.2.2.2.2.1 = 0 then (0, 0, X)
  else (0, X.2.2.2.1.2.2.2.2.2.2.2.2.2.1, X)
set_option maxHeartbeats 4000000 in
set_option maxRecDepth 100000 in
theorem x_X2_end_1 (l : Launch) (hl : l.stackTraces = false) (D : va_G) (cI cJ : ClassId) (a0 a1 a2 a3 a4 a5 a6 : Nat)  (X : Co)  : kCX l D cI cJ yX2_end (.code yX2_end cX2_end 2 (some .int)) { frames := 6, cells := 1, slots := 6, locals := 90 } [.ref a0, .int 1] (wC a0 a1 a2 a3 a4 a5 a6 X) (xX2_end_1 X).1 (xX2_end_1 X).2.1 (wC a0 a1 a2 a3 a4 a5 a6 (xX2_end_1 X).2.2) := by
  refine fun sz => k_ofX (lv := [(0, .ref a0), (1, .int 1)]) (by decide) sz (Nat.le_of_ble_eq_true rfl) rfl ?_
  intro p e s m args below meth c hsz hx0 T C
  refine k_iload_n C dX2_end_0 1 rfl ?_
  refine k_if_lt C 9 (by decide) dX2_end_1 (fun h => absurd h (by decide)) (fun _ => ?_)
  refine k_iload_n C dX2_end_4 1 rfl ?_
  refine k_iconst C 5 (by decide) dX2_end_5 ?_
  refine k_icmp_lt C 19 (by decide) dX2_end_6 (fun _ => ?_) (fun h => absurd (by decide) h)
  refine k_aload_n C dX2_end_19 0 rfl ?_
  refine k_getX2 C 0 7 rfl (by decide) rfl q129 rfl dX2_end_20 ?_
  refine k_if_eq C 37 (by decide) dX2_end_23 (fun c1 => ?_) (fun c1 => ?_)
  ·
    refine k_iconst C 0 (by decide) dX2_end_37 ?_
    have hL : xX2_end_1 X = (0, 0, X) := by exact (if_pos c1).trans rfl
    exact k_toX (k_iretX C rfl (by rw [hL]) (by rw [hL]) (by rw [hL]) dX2_end_38)
  ·
    refine k_aload_n C dX2_end_26 0 rfl ?_
    refine k_getX2 C 0 3 rfl (by decide) rfl q125 rfl dX2_end_27 ?_
    refine k_iload_n C dX2_end_30 1 rfl ?_
    refine k_callN_i C (mX0_endPart_1 l D cI cJ a4 X.2.2.2.1) ⟨va_cnB 1 C.2.2.2.2.1 (kGN q361) rfl rfl rfl (C.2.2.2.2.2.2.1 _ qn11) (C.2.2.2.2.1 _ q37) hdX0_endPart ⟨Nat.le_of_ble_eq_true rfl, Nat.le_of_ble_eq_true rfl⟩, C.2.2.2.2.1 _ q360, C.2.2.2.2.1 _ q17⟩ [4] [0, 1, 2, 3, 5, 6] [0, 1, 2, 3, 6, 4, 5] [(a0, cF a1 a2 a3 a4 a5 a6 X.2.2.2.2.2.2), (a1, cS X.1), (a2, cS X.2.1), (a3, cB X.2.2.1), (a5, cB X.2.2.2.2.1), (a6, cB X.2.2.2.2.2.1)] ([(a0, cF a1 a2 a3 a4 a5 a6 X.2.2.2.2.2.2), (a1, cS X.1), (a2, cS X.2.1), (a3, cB X.2.2.1), (a4, cB X.2.2.2.1), (a5, cB X.2.2.2.2.1), (a6, cB X.2.2.2.2.2.1)]) rfl rfl rfl rfl (by decide) [a4] rfl rfl rfl rfl 4 0 rfl rfl rfl (Nat.le_of_ble_eq_true rfl) ⟨Nat.zero_le _, Nat.zero_le _⟩ rfl dX2_end_31 ?_
    refine k_goto C 38 (by decide) dX2_end_34 ?_
    have hL : xX2_end_1 X = (0, X.2.2.2.1.2.2.2.2.2.2.2.2.2.1, X) := by exact (if_neg c1).trans rfl
    exact k_toX (k_iretX C rfl (by rw [hL]) (by rw [hL]) (by rw [hL]) dX2_end_38)

noncomputable def xX2_end_2 (X : Co) : Int32 × Int32 × Co :=
  if X.2.2.2.2.2.2.2.1 = 0 then (0, 0, X)
  else (0, X.2.2.2.1.2.2.2.2.2.2.1, X)
set_option maxHeartbeats 4000000 in
set_option maxRecDepth 100000 in
theorem x_X2_end_2 (l : Launch) (hl : l.stackTraces = false) (D : va_G) (cI cJ : ClassId) (a0 a1 a2 a3 a4 a5 a6 : Nat)  (X : Co)  : kCX l D cI cJ yX2_end (.code yX2_end cX2_end 2 (some .int)) { frames := 6, cells := 1, slots := 6, locals := 90 } [.ref a0, .int 2] (wC a0 a1 a2 a3 a4 a5 a6 X) (xX2_end_2 X).1 (xX2_end_2 X).2.1 (wC a0 a1 a2 a3 a4 a5 a6 (xX2_end_2 X).2.2) := by
  refine fun sz => k_ofX (lv := [(0, .ref a0), (1, .int 2)]) (by decide) sz (Nat.le_of_ble_eq_true rfl) rfl ?_
  intro p e s m args below meth c hsz hx0 T C
  refine k_iload_n C dX2_end_0 1 rfl ?_
  refine k_if_lt C 9 (by decide) dX2_end_1 (fun h => absurd h (by decide)) (fun _ => ?_)
  refine k_iload_n C dX2_end_4 1 rfl ?_
  refine k_iconst C 5 (by decide) dX2_end_5 ?_
  refine k_icmp_lt C 19 (by decide) dX2_end_6 (fun _ => ?_) (fun h => absurd (by decide) h)
  refine k_aload_n C dX2_end_19 0 rfl ?_
  refine k_getX2 C 0 7 rfl (by decide) rfl q129 rfl dX2_end_20 ?_
  refine k_if_eq C 37 (by decide) dX2_end_23 (fun c1 => ?_) (fun c1 => ?_)
  ·
    refine k_iconst C 0 (by decide) dX2_end_37 ?_
    have hL : xX2_end_2 X = (0, 0, X) := by exact (if_pos c1).trans rfl
    exact k_toX (k_iretX C rfl (by rw [hL]) (by rw [hL]) (by rw [hL]) dX2_end_38)
  ·
    refine k_aload_n C dX2_end_26 0 rfl ?_
    refine k_getX2 C 0 3 rfl (by decide) rfl q125 rfl dX2_end_27 ?_
    refine k_iload_n C dX2_end_30 1 rfl ?_
    refine k_callN_i C (mX0_endPart_2 l D cI cJ a4 X.2.2.2.1) ⟨va_cnB 1 C.2.2.2.2.1 (kGN q361) rfl rfl rfl (C.2.2.2.2.2.2.1 _ qn11) (C.2.2.2.2.1 _ q37) hdX0_endPart ⟨Nat.le_of_ble_eq_true rfl, Nat.le_of_ble_eq_true rfl⟩, C.2.2.2.2.1 _ q360, C.2.2.2.2.1 _ q17⟩ [4] [0, 1, 2, 3, 5, 6] [0, 1, 2, 3, 6, 4, 5] [(a0, cF a1 a2 a3 a4 a5 a6 X.2.2.2.2.2.2), (a1, cS X.1), (a2, cS X.2.1), (a3, cB X.2.2.1), (a5, cB X.2.2.2.2.1), (a6, cB X.2.2.2.2.2.1)] ([(a0, cF a1 a2 a3 a4 a5 a6 X.2.2.2.2.2.2), (a1, cS X.1), (a2, cS X.2.1), (a3, cB X.2.2.1), (a4, cB X.2.2.2.1), (a5, cB X.2.2.2.2.1), (a6, cB X.2.2.2.2.2.1)]) rfl rfl rfl rfl (by decide) [a4] rfl rfl rfl rfl 4 0 rfl rfl rfl (Nat.le_of_ble_eq_true rfl) ⟨Nat.zero_le _, Nat.zero_le _⟩ rfl dX2_end_31 ?_
    refine k_goto C 38 (by decide) dX2_end_34 ?_
    have hL : xX2_end_2 X = (0, X.2.2.2.1.2.2.2.2.2.2.1, X) := by exact (if_neg c1).trans rfl
    exact k_toX (k_iretX C rfl (by rw [hL]) (by rw [hL]) (by rw [hL]) dX2_end_38)

noncomputable def xX2_end_3 (X : Co) : Int32 × Int32 × Co :=
  if X.2.2.2.2.2.2.2.1 = 0 then (0, 0, X)
  else (0, X.2.2.2.1.2.2.2.2.2.2.2.1, X)
set_option maxHeartbeats 4000000 in
set_option maxRecDepth 100000 in
theorem x_X2_end_3 (l : Launch) (hl : l.stackTraces = false) (D : va_G) (cI cJ : ClassId) (a0 a1 a2 a3 a4 a5 a6 : Nat)  (X : Co)  : kCX l D cI cJ yX2_end (.code yX2_end cX2_end 2 (some .int)) { frames := 6, cells := 1, slots := 6, locals := 90 } [.ref a0, .int 3] (wC a0 a1 a2 a3 a4 a5 a6 X) (xX2_end_3 X).1 (xX2_end_3 X).2.1 (wC a0 a1 a2 a3 a4 a5 a6 (xX2_end_3 X).2.2) := by
  refine fun sz => k_ofX (lv := [(0, .ref a0), (1, .int 3)]) (by decide) sz (Nat.le_of_ble_eq_true rfl) rfl ?_
  intro p e s m args below meth c hsz hx0 T C
  refine k_iload_n C dX2_end_0 1 rfl ?_
  refine k_if_lt C 9 (by decide) dX2_end_1 (fun h => absurd h (by decide)) (fun _ => ?_)
  refine k_iload_n C dX2_end_4 1 rfl ?_
  refine k_iconst C 5 (by decide) dX2_end_5 ?_
  refine k_icmp_lt C 19 (by decide) dX2_end_6 (fun _ => ?_) (fun h => absurd (by decide) h)
  refine k_aload_n C dX2_end_19 0 rfl ?_
  refine k_getX2 C 0 7 rfl (by decide) rfl q129 rfl dX2_end_20 ?_
  refine k_if_eq C 37 (by decide) dX2_end_23 (fun c1 => ?_) (fun c1 => ?_)
  ·
    refine k_iconst C 0 (by decide) dX2_end_37 ?_
    have hL : xX2_end_3 X = (0, 0, X) := by exact (if_pos c1).trans rfl
    exact k_toX (k_iretX C rfl (by rw [hL]) (by rw [hL]) (by rw [hL]) dX2_end_38)
  ·
    refine k_aload_n C dX2_end_26 0 rfl ?_
    refine k_getX2 C 0 3 rfl (by decide) rfl q125 rfl dX2_end_27 ?_
    refine k_iload_n C dX2_end_30 1 rfl ?_
    refine k_callN_i C (mX0_endPart_3 l D cI cJ a4 X.2.2.2.1) ⟨va_cnB 1 C.2.2.2.2.1 (kGN q361) rfl rfl rfl (C.2.2.2.2.2.2.1 _ qn11) (C.2.2.2.2.1 _ q37) hdX0_endPart ⟨Nat.le_of_ble_eq_true rfl, Nat.le_of_ble_eq_true rfl⟩, C.2.2.2.2.1 _ q360, C.2.2.2.2.1 _ q17⟩ [4] [0, 1, 2, 3, 5, 6] [0, 1, 2, 3, 6, 4, 5] [(a0, cF a1 a2 a3 a4 a5 a6 X.2.2.2.2.2.2), (a1, cS X.1), (a2, cS X.2.1), (a3, cB X.2.2.1), (a5, cB X.2.2.2.2.1), (a6, cB X.2.2.2.2.2.1)] ([(a0, cF a1 a2 a3 a4 a5 a6 X.2.2.2.2.2.2), (a1, cS X.1), (a2, cS X.2.1), (a3, cB X.2.2.1), (a4, cB X.2.2.2.1), (a5, cB X.2.2.2.2.1), (a6, cB X.2.2.2.2.2.1)]) rfl rfl rfl rfl (by decide) [a4] rfl rfl rfl rfl 4 0 rfl rfl rfl (Nat.le_of_ble_eq_true rfl) ⟨Nat.zero_le _, Nat.zero_le _⟩ rfl dX2_end_31 ?_
    refine k_goto C 38 (by decide) dX2_end_34 ?_
    have hL : xX2_end_3 X = (0, X.2.2.2.1.2.2.2.2.2.2.2.1, X) := by exact (if_neg c1).trans rfl
    exact k_toX (k_iretX C rfl (by rw [hL]) (by rw [hL]) (by rw [hL]) dX2_end_38)

noncomputable def xX2_end_4 (X : Co) : Int32 × Int32 × Co :=
  if X.2.2.2.2.2.2.2.1 = 0 then (0, 0, X)
  else (0, X.2.2.2.1.2.2.2.2.2.2.2.2.1, X)
set_option maxHeartbeats 4000000 in
set_option maxRecDepth 100000 in
theorem x_X2_end_4 (l : Launch) (hl : l.stackTraces = false) (D : va_G) (cI cJ : ClassId) (a0 a1 a2 a3 a4 a5 a6 : Nat)  (X : Co)  : kCX l D cI cJ yX2_end (.code yX2_end cX2_end 2 (some .int)) { frames := 6, cells := 1, slots := 6, locals := 90 } [.ref a0, .int 4] (wC a0 a1 a2 a3 a4 a5 a6 X) (xX2_end_4 X).1 (xX2_end_4 X).2.1 (wC a0 a1 a2 a3 a4 a5 a6 (xX2_end_4 X).2.2) := by
  refine fun sz => k_ofX (lv := [(0, .ref a0), (1, .int 4)]) (by decide) sz (Nat.le_of_ble_eq_true rfl) rfl ?_
  intro p e s m args below meth c hsz hx0 T C
  refine k_iload_n C dX2_end_0 1 rfl ?_
  refine k_if_lt C 9 (by decide) dX2_end_1 (fun h => absurd h (by decide)) (fun _ => ?_)
  refine k_iload_n C dX2_end_4 1 rfl ?_
  refine k_iconst C 5 (by decide) dX2_end_5 ?_
  refine k_icmp_lt C 19 (by decide) dX2_end_6 (fun _ => ?_) (fun h => absurd (by decide) h)
  refine k_aload_n C dX2_end_19 0 rfl ?_
  refine k_getX2 C 0 7 rfl (by decide) rfl q129 rfl dX2_end_20 ?_
  refine k_if_eq C 37 (by decide) dX2_end_23 (fun c1 => ?_) (fun c1 => ?_)
  ·
    refine k_iconst C 0 (by decide) dX2_end_37 ?_
    have hL : xX2_end_4 X = (0, 0, X) := by exact (if_pos c1).trans rfl
    exact k_toX (k_iretX C rfl (by rw [hL]) (by rw [hL]) (by rw [hL]) dX2_end_38)
  ·
    refine k_aload_n C dX2_end_26 0 rfl ?_
    refine k_getX2 C 0 3 rfl (by decide) rfl q125 rfl dX2_end_27 ?_
    refine k_iload_n C dX2_end_30 1 rfl ?_
    refine k_callN_i C (mX0_endPart_4 l D cI cJ a4 X.2.2.2.1) ⟨va_cnB 1 C.2.2.2.2.1 (kGN q361) rfl rfl rfl (C.2.2.2.2.2.2.1 _ qn11) (C.2.2.2.2.1 _ q37) hdX0_endPart ⟨Nat.le_of_ble_eq_true rfl, Nat.le_of_ble_eq_true rfl⟩, C.2.2.2.2.1 _ q360, C.2.2.2.2.1 _ q17⟩ [4] [0, 1, 2, 3, 5, 6] [0, 1, 2, 3, 6, 4, 5] [(a0, cF a1 a2 a3 a4 a5 a6 X.2.2.2.2.2.2), (a1, cS X.1), (a2, cS X.2.1), (a3, cB X.2.2.1), (a5, cB X.2.2.2.2.1), (a6, cB X.2.2.2.2.2.1)] ([(a0, cF a1 a2 a3 a4 a5 a6 X.2.2.2.2.2.2), (a1, cS X.1), (a2, cS X.2.1), (a3, cB X.2.2.1), (a4, cB X.2.2.2.1), (a5, cB X.2.2.2.2.1), (a6, cB X.2.2.2.2.2.1)]) rfl rfl rfl rfl (by decide) [a4] rfl rfl rfl rfl 4 0 rfl rfl rfl (Nat.le_of_ble_eq_true rfl) ⟨Nat.zero_le _, Nat.zero_le _⟩ rfl dX2_end_31 ?_
    refine k_goto C 38 (by decide) dX2_end_34 ?_
    have hL : xX2_end_4 X = (0, X.2.2.2.1.2.2.2.2.2.2.2.2.1, X) := by exact (if_neg c1).trans rfl
    exact k_toX (k_iretX C rfl (by rw [hL]) (by rw [hL]) (by rw [hL]) dX2_end_38)

noncomputable def xX2_end_bad (p0 : Int32) (X : Co) : Int32 × Int32 × Co :=
  if p0 < 0 then (3, 0, X)
  else (if p0 < 5 then (0, 0, X)
    else (3, 0, X))
set_option maxHeartbeats 4000000 in
set_option maxRecDepth 100000 in
theorem x_X2_end_bad (l : Launch) (hl : l.stackTraces = false) (D : va_G) (cI cJ : ClassId) (a0 a1 a2 a3 a4 a5 a6 : Nat) (p0 : Int32) (X : Co) (hb : ¬ p0 < 0 → p0 < 5 → False) : kCX l D cI cJ yX2_end (.code yX2_end cX2_end 2 (some .int)) { frames := 6, cells := 1, slots := 6, locals := 90 } [.ref a0, .int p0] (wC a0 a1 a2 a3 a4 a5 a6 X) (xX2_end_bad p0 X).1 (xX2_end_bad p0 X).2.1 (wC a0 a1 a2 a3 a4 a5 a6 (xX2_end_bad p0 X).2.2) := by
  refine fun sz => k_ofX (lv := [(0, .ref a0), (1, .int p0)]) (by decide) sz (Nat.le_of_ble_eq_true rfl) rfl ?_
  intro p e s m args below meth c hsz hx0 T C
  refine k_iload_n C dX2_end_0 1 rfl ?_
  refine k_if_lt C 9 (by decide) dX2_end_1 (fun c1 => ?_) (fun c1 => ?_)
  ·
    have hL : xX2_end_bad p0 X = (3, 0, X) := by exact (if_pos c1).trans rfl
    exact k_throw (cls := kIOO) (text := "no such part of the end") (mc := 1) (ms := 6) C T hl hx0 (by rw [hL]; exact Or.inr (Or.inr ⟨rfl, rfl⟩)) rfl (by decide) q172 q42 (by decide) atO_tbl atO_rest (by decide) atO_ot (Nat.le_of_ble_eq_true rfl) (Nat.le_of_ble_eq_true rfl) (Nat.le_of_ble_eq_true rfl) (Nat.le_of_ble_eq_true rfl) (Nat.le_refl _) (Nat.le_refl _) dX2_end_9 dX2_end_12 dX2_end_13 dX2_end_15 dX2_end_18
  ·
    refine k_iload_n C dX2_end_4 1 rfl ?_
    refine k_iconst C 5 (by decide) dX2_end_5 ?_
    refine k_icmp_lt C 19 (by decide) dX2_end_6 (fun c2 => ?_) (fun c2 => ?_)
    ·
      exact (show False by exact hb c1 c2).elim
    ·
      have hL : xX2_end_bad p0 X = (3, 0, X) := by exact (if_neg c1).trans ((if_neg c2).trans rfl)
      exact k_throw (cls := kIOO) (text := "no such part of the end") (mc := 1) (ms := 6) C T hl hx0 (by rw [hL]; exact Or.inr (Or.inr ⟨rfl, rfl⟩)) rfl (by decide) q172 q42 (by decide) atO_tbl atO_rest (by decide) atO_ot (Nat.le_of_ble_eq_true rfl) (Nat.le_of_ble_eq_true rfl) (Nat.le_of_ble_eq_true rfl) (Nat.le_of_ble_eq_true rfl) (Nat.le_refl _) (Nat.le_refl _) dX2_end_9 dX2_end_12 dX2_end_13 dX2_end_15 dX2_end_18

theorem hdX2_flight : yX2_flight.cls ≠ "java/lang/invoke/MethodHandle" ∧ yX2_flight.cls ≠ "java/lang/invoke/VarHandle" ∧ (parseMethodDescriptor yX2_flight.desc).map (fun d => d.parameters.length) = some 2 := by decide +kernel
noncomputable def xX2_flight_0 (p0 : Int32) (X : Co) : Int32 × Int32 × Co :=
  if (fX2_isLookAhead p0) = 0 then (1, 0, X)
  else (if X.2.2.2.2.2.2.2.1 = 0 then (0, (-99), X)
    else (if (fX2_isEndedBy p0 X) = 0 then (0, (fX2_lookAhead p0 X).2.2.2.2.1.1, (fX2_lookAhead p0 X))
      else (0, (-99), X)))
set_option maxHeartbeats 4000000 in
set_option maxRecDepth 100000 in
theorem x_X2_flight_0 (l : Launch) (hl : l.stackTraces = false) (D : va_G) (cI cJ : ClassId) (a0 a1 a2 a3 a4 a5 a6 : Nat) (p0 : Int32) (X : Co)  : kCX l D cI cJ yX2_flight (.code yX2_flight cX2_flight 3 (some .int)) { frames := 6, cells := 1, slots := 6, locals := 127 } [.ref a0, .int p0, .int 0] (wC a0 a1 a2 a3 a4 a5 a6 X) (xX2_flight_0 p0 X).1 (xX2_flight_0 p0 X).2.1 (wC a0 a1 a2 a3 a4 a5 a6 (xX2_flight_0 p0 X).2.2) := by
  refine fun sz => k_ofX (lv := [(0, .ref a0), (1, .int p0), (2, .int 0)]) (by decide) sz (Nat.le_of_ble_eq_true rfl) rfl ?_
  intro p e s m args below meth c hsz hx0 T C
  refine k_iload_n C dX2_flight_0 1 rfl ?_
  refine k_callS_i C (mX2_isLookAhead l D cI cJ p0) (va_cwS 1 C.2.2.2.2.1 (kGS q280 q281 q35 q282) rfl rfl rfl hdX2_isLookAhead ⟨Nat.le_of_ble_eq_true rfl, Nat.le_of_ble_eq_true rfl⟩) [] [0, 1, 2, 3, 4, 5, 6] [0, 1, 2, 3, 4, 5, 6] [(a0, cF a1 a2 a3 a4 a5 a6 X.2.2.2.2.2.2), (a1, cS X.1), (a2, cS X.2.1), (a3, cB X.2.2.1), (a4, cB X.2.2.2.1), (a5, cB X.2.2.2.2.1), (a6, cB X.2.2.2.2.2.1)] ([(a0, cF a1 a2 a3 a4 a5 a6 X.2.2.2.2.2.2), (a1, cS X.1), (a2, cS X.2.1), (a3, cB X.2.2.1), (a4, cB X.2.2.2.1), (a5, cB X.2.2.2.2.1), (a6, cB X.2.2.2.2.2.1)]) rfl rfl rfl rfl (by decide) [] rfl rfl rfl rfl (Nat.le_of_ble_eq_true rfl) ⟨Nat.zero_le _, Nat.zero_le _⟩ rfl dX2_flight_1 ?_
  generalize er1 : fX2_isLookAhead p0 = r1
  refine k_if_ne C 17 (by decide) dX2_flight_4 (fun c2 => ?_) (fun c2 => ?_)
  ·
    refine k_iload_n C dX2_flight_17 2 rfl ?_
    refine k_if_lt C 27 (by decide) dX2_flight_18 (fun h => absurd h (by decide)) (fun _ => ?_)
    refine k_iload_n C dX2_flight_21 2 rfl ?_
    refine k_bipush C 9 (by decide) dX2_flight_22 ?_
    refine k_icmp_lt C 37 (by decide) dX2_flight_24 (fun _ => ?_) (fun h => absurd (by decide) h)
    refine k_aload_n C dX2_flight_37 0 rfl ?_
    refine k_getX2 C 0 7 rfl (by decide) rfl q129 rfl dX2_flight_38 ?_
    refine k_if_eq C 52 (by decide) dX2_flight_41 (fun c3 => ?_) (fun c3 => ?_)
    ·
      refine k_bipush C (-99) (by decide) dX2_flight_52 ?_
      have hL : xX2_flight_0 p0 X = (0, (-99), X) := by subst er1; exact (if_neg c2).trans ((if_pos c3).trans rfl)
      exact k_toX (k_iretX C rfl (by rw [hL]) (by rw [hL]) (by rw [hL]) dX2_flight_54)
    ·
      refine k_aload_n C dX2_flight_44 0 rfl ?_
      refine k_iload_n C dX2_flight_45 1 rfl ?_
      refine k_callV_i C (mX2_isEndedBy l D cI cJ a0 a1 a2 a3 a4 a5 a6 p0 X) (cwV 1 C.2.2.2.2.1 (kGV q300 q302 q6 q35 q303) rfl rfl rfl ⟨rfl, hdX2_isEndedBy⟩ ⟨Nat.le_of_ble_eq_true rfl, Nat.le_of_ble_eq_true rfl⟩) [0, 1, 2, 3, 4, 5, 6] [] [0, 1, 2, 3, 4, 5, 6] [] ([(a0, cF a1 a2 a3 a4 a5 a6 X.2.2.2.2.2.2), (a1, cS X.1), (a2, cS X.2.1), (a3, cB X.2.2.1), (a4, cB X.2.2.2.1), (a5, cB X.2.2.2.2.1), (a6, cB X.2.2.2.2.2.1)]) rfl rfl rfl rfl (by decide) [a0, a1, a2, a3, a4, a5, a6] rfl rfl rfl rfl 0 2 rfl rfl rfl (Nat.le_of_ble_eq_true rfl) ⟨Nat.zero_le _, Nat.zero_le _⟩ rfl dX2_flight_46 ?_
      generalize er4 : fX2_isEndedBy p0 X = r4
      refine k_if_eq C 55 (by decide) dX2_flight_49 (fun c5 => ?_) (fun c5 => ?_)
      ·
        refine k_aload_n C dX2_flight_55 0 rfl ?_
        refine k_iload_n C dX2_flight_56 1 rfl ?_
        refine k_callV_v C (mX2_lookAhead l D cI cJ a0 a1 a2 a3 a4 a5 a6 p0 X) (cwV 1 C.2.2.2.2.1 (kGV q304 q306 q7 q35 q307) rfl rfl rfl ⟨rfl, hdX2_lookAhead⟩ ⟨Nat.le_of_ble_eq_true rfl, Nat.le_of_ble_eq_true rfl⟩) [0, 1, 2, 3, 4, 5, 6] [] [0, 1, 2, 3, 4, 5, 6] [] (wC a0 a1 a2 a3 a4 a5 a6 (fX2_lookAhead p0 X)) rfl rfl rfl rfl (by decide) [a0, a1, a2, a3, a4, a5, a6] rfl rfl rfl rfl 0 2 rfl rfl rfl (Nat.le_of_ble_eq_true rfl) ⟨Nat.zero_le _, Nat.zero_le _⟩ rfl dX2_flight_57 ?_
        generalize ezz6 : fX2_lookAhead p0 X = zz6
        refine k_aload_n C dX2_flight_60 0 rfl ?_
        refine k_getX2 C 0 4 rfl (by decide) rfl q126 rfl dX2_flight_61 ?_
        refine k_iload_n C dX2_flight_64 2 rfl ?_
        refine k_callN_i C (mX0_part_0 l D cI cJ a5 zz6.2.2.2.2.1) ⟨va_cnB 1 C.2.2.2.2.1 (kGN q243) rfl rfl rfl (C.2.2.2.2.2.2.1 _ qn10) (C.2.2.2.2.1 _ q37) hdX0_part ⟨Nat.le_of_ble_eq_true rfl, Nat.le_of_ble_eq_true rfl⟩, C.2.2.2.2.1 _ q242, C.2.2.2.2.1 _ q1⟩ [5] [0, 1, 2, 3, 4, 6] [0, 1, 2, 3, 4, 6, 5] [(a0, cF a1 a2 a3 a4 a5 a6 zz6.2.2.2.2.2.2), (a1, cS zz6.1), (a2, cS zz6.2.1), (a3, cB zz6.2.2.1), (a4, cB zz6.2.2.2.1), (a6, cB zz6.2.2.2.2.2.1)] ([(a0, cF a1 a2 a3 a4 a5 a6 zz6.2.2.2.2.2.2), (a1, cS zz6.1), (a2, cS zz6.2.1), (a3, cB zz6.2.2.1), (a4, cB zz6.2.2.2.1), (a5, cB zz6.2.2.2.2.1), (a6, cB zz6.2.2.2.2.2.1)]) rfl rfl rfl rfl (by decide) [a5] rfl rfl rfl rfl 5 0 rfl rfl rfl (Nat.le_of_ble_eq_true rfl) ⟨Nat.zero_le _, Nat.zero_le _⟩ rfl dX2_flight_65 ?_
        have hL : xX2_flight_0 p0 X = (0, zz6.2.2.2.2.1.1, zz6) := by subst ezz6; subst er4; subst er1; exact (if_neg c2).trans ((if_neg c3).trans ((if_pos c5).trans rfl))
        exact k_toX (k_iretX C rfl (by rw [hL]) (by rw [hL]) (by rw [hL]) dX2_flight_68)
      ·
        refine k_bipush C (-99) (by decide) dX2_flight_52 ?_
        have hL : xX2_flight_0 p0 X = (0, (-99), X) := by subst er4; subst er1; exact (if_neg c2).trans ((if_neg c3).trans ((if_neg c5).trans rfl))
        exact k_toX (k_iretX C rfl (by rw [hL]) (by rw [hL]) (by rw [hL]) dX2_flight_54)
  ·
    have hL : xX2_flight_0 p0 X = (1, 0, X) := by subst er1; exact (if_pos c2).trans rfl
    exact k_throw (cls := kIAE) (text := "0 to 60 moments") (mc := 1) (ms := 6) C T hl hx0 (by rw [hL]; exact Or.inl ⟨rfl, rfl⟩) rfl (by decide) q283 q43 (by decide) atA_tbl atA_rest (by decide) atA_ot (Nat.le_of_ble_eq_true rfl) (Nat.le_of_ble_eq_true rfl) (Nat.le_of_ble_eq_true rfl) (Nat.le_of_ble_eq_true rfl) (Nat.le_refl _) (Nat.le_refl _) dX2_flight_7 dX2_flight_10 dX2_flight_11 dX2_flight_13 dX2_flight_16

noncomputable def xX2_flight_1 (p0 : Int32) (X : Co) : Int32 × Int32 × Co :=
  if (fX2_isLookAhead p0) = 0 then (1, 0, X)
  else (if X.2.2.2.2.2.2.2.1 = 0 then (0, (-99), X)
    else (if (fX2_isEndedBy p0 X) = 0 then (0, (fX2_lookAhead p0 X).2.2.2.2.1.2.1, (fX2_lookAhead p0 X))
      else (0, (-99), X)))
set_option maxHeartbeats 4000000 in
set_option maxRecDepth 100000 in
theorem x_X2_flight_1 (l : Launch) (hl : l.stackTraces = false) (D : va_G) (cI cJ : ClassId) (a0 a1 a2 a3 a4 a5 a6 : Nat) (p0 : Int32) (X : Co)  : kCX l D cI cJ yX2_flight (.code yX2_flight cX2_flight 3 (some .int)) { frames := 6, cells := 1, slots := 6, locals := 127 } [.ref a0, .int p0, .int 1] (wC a0 a1 a2 a3 a4 a5 a6 X) (xX2_flight_1 p0 X).1 (xX2_flight_1 p0 X).2.1 (wC a0 a1 a2 a3 a4 a5 a6 (xX2_flight_1 p0 X).2.2) := by
  refine fun sz => k_ofX (lv := [(0, .ref a0), (1, .int p0), (2, .int 1)]) (by decide) sz (Nat.le_of_ble_eq_true rfl) rfl ?_
  intro p e s m args below meth c hsz hx0 T C
  refine k_iload_n C dX2_flight_0 1 rfl ?_
  refine k_callS_i C (mX2_isLookAhead l D cI cJ p0) (va_cwS 1 C.2.2.2.2.1 (kGS q280 q281 q35 q282) rfl rfl rfl hdX2_isLookAhead ⟨Nat.le_of_ble_eq_true rfl, Nat.le_of_ble_eq_true rfl⟩) [] [0, 1, 2, 3, 4, 5, 6] [0, 1, 2, 3, 4, 5, 6] [(a0, cF a1 a2 a3 a4 a5 a6 X.2.2.2.2.2.2), (a1, cS X.1), (a2, cS X.2.1), (a3, cB X.2.2.1), (a4, cB X.2.2.2.1), (a5, cB X.2.2.2.2.1), (a6, cB X.2.2.2.2.2.1)] ([(a0, cF a1 a2 a3 a4 a5 a6 X.2.2.2.2.2.2), (a1, cS X.1), (a2, cS X.2.1), (a3, cB X.2.2.1), (a4, cB X.2.2.2.1), (a5, cB X.2.2.2.2.1), (a6, cB X.2.2.2.2.2.1)]) rfl rfl rfl rfl (by decide) [] rfl rfl rfl rfl (Nat.le_of_ble_eq_true rfl) ⟨Nat.zero_le _, Nat.zero_le _⟩ rfl dX2_flight_1 ?_
  generalize er1 : fX2_isLookAhead p0 = r1
  refine k_if_ne C 17 (by decide) dX2_flight_4 (fun c2 => ?_) (fun c2 => ?_)
  ·
    refine k_iload_n C dX2_flight_17 2 rfl ?_
    refine k_if_lt C 27 (by decide) dX2_flight_18 (fun h => absurd h (by decide)) (fun _ => ?_)
    refine k_iload_n C dX2_flight_21 2 rfl ?_
    refine k_bipush C 9 (by decide) dX2_flight_22 ?_
    refine k_icmp_lt C 37 (by decide) dX2_flight_24 (fun _ => ?_) (fun h => absurd (by decide) h)
    refine k_aload_n C dX2_flight_37 0 rfl ?_
    refine k_getX2 C 0 7 rfl (by decide) rfl q129 rfl dX2_flight_38 ?_
    refine k_if_eq C 52 (by decide) dX2_flight_41 (fun c3 => ?_) (fun c3 => ?_)
    ·
      refine k_bipush C (-99) (by decide) dX2_flight_52 ?_
      have hL : xX2_flight_1 p0 X = (0, (-99), X) := by subst er1; exact (if_neg c2).trans ((if_pos c3).trans rfl)
      exact k_toX (k_iretX C rfl (by rw [hL]) (by rw [hL]) (by rw [hL]) dX2_flight_54)
    ·
      refine k_aload_n C dX2_flight_44 0 rfl ?_
      refine k_iload_n C dX2_flight_45 1 rfl ?_
      refine k_callV_i C (mX2_isEndedBy l D cI cJ a0 a1 a2 a3 a4 a5 a6 p0 X) (cwV 1 C.2.2.2.2.1 (kGV q300 q302 q6 q35 q303) rfl rfl rfl ⟨rfl, hdX2_isEndedBy⟩ ⟨Nat.le_of_ble_eq_true rfl, Nat.le_of_ble_eq_true rfl⟩) [0, 1, 2, 3, 4, 5, 6] [] [0, 1, 2, 3, 4, 5, 6] [] ([(a0, cF a1 a2 a3 a4 a5 a6 X.2.2.2.2.2.2), (a1, cS X.1), (a2, cS X.2.1), (a3, cB X.2.2.1), (a4, cB X.2.2.2.1), (a5, cB X.2.2.2.2.1), (a6, cB X.2.2.2.2.2.1)]) rfl rfl rfl rfl (by decide) [a0, a1, a2, a3, a4, a5, a6] rfl rfl rfl rfl 0 2 rfl rfl rfl (Nat.le_of_ble_eq_true rfl) ⟨Nat.zero_le _, Nat.zero_le _⟩ rfl dX2_flight_46 ?_
      generalize er4 : fX2_isEndedBy p0 X = r4
      refine k_if_eq C 55 (by decide) dX2_flight_49 (fun c5 => ?_) (fun c5 => ?_)
      ·
        refine k_aload_n C dX2_flight_55 0 rfl ?_
        refine k_iload_n C dX2_flight_56 1 rfl ?_
        refine k_callV_v C (mX2_lookAhead l D cI cJ a0 a1 a2 a3 a4 a5 a6 p0 X) (cwV 1 C.2.2.2.2.1 (kGV q304 q306 q7 q35 q307) rfl rfl rfl ⟨rfl, hdX2_lookAhead⟩ ⟨Nat.le_of_ble_eq_true rfl, Nat.le_of_ble_eq_true rfl⟩) [0, 1, 2, 3, 4, 5, 6] [] [0, 1, 2, 3, 4, 5, 6] [] (wC a0 a1 a2 a3 a4 a5 a6 (fX2_lookAhead p0 X)) rfl rfl rfl rfl (by decide) [a0, a1, a2, a3, a4, a5, a6] rfl rfl rfl rfl 0 2 rfl rfl rfl (Nat.le_of_ble_eq_true rfl) ⟨Nat.zero_le _, Nat.zero_le _⟩ rfl dX2_flight_57 ?_
        generalize ezz6 : fX2_lookAhead p0 X = zz6
        refine k_aload_n C dX2_flight_60 0 rfl ?_
        refine k_getX2 C 0 4 rfl (by decide) rfl q126 rfl dX2_flight_61 ?_
        refine k_iload_n C dX2_flight_64 2 rfl ?_
        refine k_callN_i C (mX0_part_1 l D cI cJ a5 zz6.2.2.2.2.1) ⟨va_cnB 1 C.2.2.2.2.1 (kGN q243) rfl rfl rfl (C.2.2.2.2.2.2.1 _ qn10) (C.2.2.2.2.1 _ q37) hdX0_part ⟨Nat.le_of_ble_eq_true rfl, Nat.le_of_ble_eq_true rfl⟩, C.2.2.2.2.1 _ q242, C.2.2.2.2.1 _ q1⟩ [5] [0, 1, 2, 3, 4, 6] [0, 1, 2, 3, 4, 6, 5] [(a0, cF a1 a2 a3 a4 a5 a6 zz6.2.2.2.2.2.2), (a1, cS zz6.1), (a2, cS zz6.2.1), (a3, cB zz6.2.2.1), (a4, cB zz6.2.2.2.1), (a6, cB zz6.2.2.2.2.2.1)] ([(a0, cF a1 a2 a3 a4 a5 a6 zz6.2.2.2.2.2.2), (a1, cS zz6.1), (a2, cS zz6.2.1), (a3, cB zz6.2.2.1), (a4, cB zz6.2.2.2.1), (a5, cB zz6.2.2.2.2.1), (a6, cB zz6.2.2.2.2.2.1)]) rfl rfl rfl rfl (by decide) [a5] rfl rfl rfl rfl 5 0 rfl rfl rfl (Nat.le_of_ble_eq_true rfl) ⟨Nat.zero_le _, Nat.zero_le _⟩ rfl dX2_flight_65 ?_
        have hL : xX2_flight_1 p0 X = (0, zz6.2.2.2.2.1.2.1, zz6) := by subst ezz6; subst er4; subst er1; exact (if_neg c2).trans ((if_neg c3).trans ((if_pos c5).trans rfl))
        exact k_toX (k_iretX C rfl (by rw [hL]) (by rw [hL]) (by rw [hL]) dX2_flight_68)
      ·
        refine k_bipush C (-99) (by decide) dX2_flight_52 ?_
        have hL : xX2_flight_1 p0 X = (0, (-99), X) := by subst er4; subst er1; exact (if_neg c2).trans ((if_neg c3).trans ((if_neg c5).trans rfl))
        exact k_toX (k_iretX C rfl (by rw [hL]) (by rw [hL]) (by rw [hL]) dX2_flight_54)
  ·
    have hL : xX2_flight_1 p0 X = (1, 0, X) := by subst er1; exact (if_pos c2).trans rfl
    exact k_throw (cls := kIAE) (text := "0 to 60 moments") (mc := 1) (ms := 6) C T hl hx0 (by rw [hL]; exact Or.inl ⟨rfl, rfl⟩) rfl (by decide) q283 q43 (by decide) atA_tbl atA_rest (by decide) atA_ot (Nat.le_of_ble_eq_true rfl) (Nat.le_of_ble_eq_true rfl) (Nat.le_of_ble_eq_true rfl) (Nat.le_of_ble_eq_true rfl) (Nat.le_refl _) (Nat.le_refl _) dX2_flight_7 dX2_flight_10 dX2_flight_11 dX2_flight_13 dX2_flight_16

noncomputable def xX2_flight_2 (p0 : Int32) (X : Co) : Int32 × Int32 × Co :=
  if (fX2_isLookAhead p0) = 0 then (1, 0, X)
  else (if X.2.2.2.2.2.2.2.1 = 0 then (0, (-99), X)
    else (if (fX2_isEndedBy p0 X) = 0 then (0, (fX2_lookAhead p0 X).2.2.2.2.1.2.2.1, (fX2_lookAhead p0 X))
      else (0, (-99), X)))
set_option maxHeartbeats 4000000 in
set_option maxRecDepth 100000 in
theorem x_X2_flight_2 (l : Launch) (hl : l.stackTraces = false) (D : va_G) (cI cJ : ClassId) (a0 a1 a2 a3 a4 a5 a6 : Nat) (p0 : Int32) (X : Co)  : kCX l D cI cJ yX2_flight (.code yX2_flight cX2_flight 3 (some .int)) { frames := 6, cells := 1, slots := 6, locals := 127 } [.ref a0, .int p0, .int 2] (wC a0 a1 a2 a3 a4 a5 a6 X) (xX2_flight_2 p0 X).1 (xX2_flight_2 p0 X).2.1 (wC a0 a1 a2 a3 a4 a5 a6 (xX2_flight_2 p0 X).2.2) := by
  refine fun sz => k_ofX (lv := [(0, .ref a0), (1, .int p0), (2, .int 2)]) (by decide) sz (Nat.le_of_ble_eq_true rfl) rfl ?_
  intro p e s m args below meth c hsz hx0 T C
  refine k_iload_n C dX2_flight_0 1 rfl ?_
  refine k_callS_i C (mX2_isLookAhead l D cI cJ p0) (va_cwS 1 C.2.2.2.2.1 (kGS q280 q281 q35 q282) rfl rfl rfl hdX2_isLookAhead ⟨Nat.le_of_ble_eq_true rfl, Nat.le_of_ble_eq_true rfl⟩) [] [0, 1, 2, 3, 4, 5, 6] [0, 1, 2, 3, 4, 5, 6] [(a0, cF a1 a2 a3 a4 a5 a6 X.2.2.2.2.2.2), (a1, cS X.1), (a2, cS X.2.1), (a3, cB X.2.2.1), (a4, cB X.2.2.2.1), (a5, cB X.2.2.2.2.1), (a6, cB X.2.2.2.2.2.1)] ([(a0, cF a1 a2 a3 a4 a5 a6 X.2.2.2.2.2.2), (a1, cS X.1), (a2, cS X.2.1), (a3, cB X.2.2.1), (a4, cB X.2.2.2.1), (a5, cB X.2.2.2.2.1), (a6, cB X.2.2.2.2.2.1)]) rfl rfl rfl rfl (by decide) [] rfl rfl rfl rfl (Nat.le_of_ble_eq_true rfl) ⟨Nat.zero_le _, Nat.zero_le _⟩ rfl dX2_flight_1 ?_
  generalize er1 : fX2_isLookAhead p0 = r1
  refine k_if_ne C 17 (by decide) dX2_flight_4 (fun c2 => ?_) (fun c2 => ?_)
  ·
    refine k_iload_n C dX2_flight_17 2 rfl ?_
    refine k_if_lt C 27 (by decide) dX2_flight_18 (fun h => absurd h (by decide)) (fun _ => ?_)
    refine k_iload_n C dX2_flight_21 2 rfl ?_
    refine k_bipush C 9 (by decide) dX2_flight_22 ?_
    refine k_icmp_lt C 37 (by decide) dX2_flight_24 (fun _ => ?_) (fun h => absurd (by decide) h)
    refine k_aload_n C dX2_flight_37 0 rfl ?_
    refine k_getX2 C 0 7 rfl (by decide) rfl q129 rfl dX2_flight_38 ?_
    refine k_if_eq C 52 (by decide) dX2_flight_41 (fun c3 => ?_) (fun c3 => ?_)
    ·
      refine k_bipush C (-99) (by decide) dX2_flight_52 ?_
      have hL : xX2_flight_2 p0 X = (0, (-99), X) := by subst er1; exact (if_neg c2).trans ((if_pos c3).trans rfl)
      exact k_toX (k_iretX C rfl (by rw [hL]) (by rw [hL]) (by rw [hL]) dX2_flight_54)
    ·
      refine k_aload_n C dX2_flight_44 0 rfl ?_
      refine k_iload_n C dX2_flight_45 1 rfl ?_
      refine k_callV_i C (mX2_isEndedBy l D cI cJ a0 a1 a2 a3 a4 a5 a6 p0 X) (cwV 1 C.2.2.2.2.1 (kGV q300 q302 q6 q35 q303) rfl rfl rfl ⟨rfl, hdX2_isEndedBy⟩ ⟨Nat.le_of_ble_eq_true rfl, Nat.le_of_ble_eq_true rfl⟩) [0, 1, 2, 3, 4, 5, 6] [] [0, 1, 2, 3, 4, 5, 6] [] ([(a0, cF a1 a2 a3 a4 a5 a6 X.2.2.2.2.2.2), (a1, cS X.1), (a2, cS X.2.1), (a3, cB X.2.2.1), (a4, cB X.2.2.2.1), (a5, cB X.2.2.2.2.1), (a6, cB X.2.2.2.2.2.1)]) rfl rfl rfl rfl (by decide) [a0, a1, a2, a3, a4, a5, a6] rfl rfl rfl rfl 0 2 rfl rfl rfl (Nat.le_of_ble_eq_true rfl) ⟨Nat.zero_le _, Nat.zero_le _⟩ rfl dX2_flight_46 ?_
      generalize er4 : fX2_isEndedBy p0 X = r4
      refine k_if_eq C 55 (by decide) dX2_flight_49 (fun c5 => ?_) (fun c5 => ?_)
      ·
        refine k_aload_n C dX2_flight_55 0 rfl ?_
        refine k_iload_n C dX2_flight_56 1 rfl ?_
        refine k_callV_v C (mX2_lookAhead l D cI cJ a0 a1 a2 a3 a4 a5 a6 p0 X) (cwV 1 C.2.2.2.2.1 (kGV q304 q306 q7 q35 q307) rfl rfl rfl ⟨rfl, hdX2_lookAhead⟩ ⟨Nat.le_of_ble_eq_true rfl, Nat.le_of_ble_eq_true rfl⟩) [0, 1, 2, 3, 4, 5, 6] [] [0, 1, 2, 3, 4, 5, 6] [] (wC a0 a1 a2 a3 a4 a5 a6 (fX2_lookAhead p0 X)) rfl rfl rfl rfl (by decide) [a0, a1, a2, a3, a4, a5, a6] rfl rfl rfl rfl 0 2 rfl rfl rfl (Nat.le_of_ble_eq_true rfl) ⟨Nat.zero_le _, Nat.zero_le _⟩ rfl dX2_flight_57 ?_
        generalize ezz6 : fX2_lookAhead p0 X = zz6
        refine k_aload_n C dX2_flight_60 0 rfl ?_
        refine k_getX2 C 0 4 rfl (by decide) rfl q126 rfl dX2_flight_61 ?_
        refine k_iload_n C dX2_flight_64 2 rfl ?_
        refine k_callN_i C (mX0_part_2 l D cI cJ a5 zz6.2.2.2.2.1) ⟨va_cnB 1 C.2.2.2.2.1 (kGN q243) rfl rfl rfl (C.2.2.2.2.2.2.1 _ qn10) (C.2.2.2.2.1 _ q37) hdX0_part ⟨Nat.le_of_ble_eq_true rfl, Nat.le_of_ble_eq_true rfl⟩, C.2.2.2.2.1 _ q242, C.2.2.2.2.1 _ q1⟩ [5] [0, 1, 2, 3, 4, 6] [0, 1, 2, 3, 4, 6, 5] [(a0, cF a1 a2 a3 a4 a5 a6 zz6.2.2.2.2.2.2), (a1, cS zz6.1), (a2, cS zz6.2.1), (a3, cB zz6.2.2.1), (a4, cB zz6.2.2.2.1), (a6, cB zz6.2.2.2.2.2.1)] ([(a0, cF a1 a2 a3 a4 a5 a6 zz6.2.2.2.2.2.2), (a1, cS zz6.1), (a2, cS zz6.2.1), (a3, cB zz6.2.2.1), (a4, cB zz6.2.2.2.1), (a5, cB zz6.2.2.2.2.1), (a6, cB zz6.2.2.2.2.2.1)]) rfl rfl rfl rfl (by decide) [a5] rfl rfl rfl rfl 5 0 rfl rfl rfl (Nat.le_of_ble_eq_true rfl) ⟨Nat.zero_le _, Nat.zero_le _⟩ rfl dX2_flight_65 ?_
        have hL : xX2_flight_2 p0 X = (0, zz6.2.2.2.2.1.2.2.1, zz6) := by subst ezz6; subst er4; subst er1; exact (if_neg c2).trans ((if_neg c3).trans ((if_pos c5).trans rfl))
        exact k_toX (k_iretX C rfl (by rw [hL]) (by rw [hL]) (by rw [hL]) dX2_flight_68)
      ·
        refine k_bipush C (-99) (by decide) dX2_flight_52 ?_
        have hL : xX2_flight_2 p0 X = (0, (-99), X) := by subst er4; subst er1; exact (if_neg c2).trans ((if_neg c3).trans ((if_neg c5).trans rfl))
        exact k_toX (k_iretX C rfl (by rw [hL]) (by rw [hL]) (by rw [hL]) dX2_flight_54)
  ·
    have hL : xX2_flight_2 p0 X = (1, 0, X) := by subst er1; exact (if_pos c2).trans rfl
    exact k_throw (cls := kIAE) (text := "0 to 60 moments") (mc := 1) (ms := 6) C T hl hx0 (by rw [hL]; exact Or.inl ⟨rfl, rfl⟩) rfl (by decide) q283 q43 (by decide) atA_tbl atA_rest (by decide) atA_ot (Nat.le_of_ble_eq_true rfl) (Nat.le_of_ble_eq_true rfl) (Nat.le_of_ble_eq_true rfl) (Nat.le_of_ble_eq_true rfl) (Nat.le_refl _) (Nat.le_refl _) dX2_flight_7 dX2_flight_10 dX2_flight_11 dX2_flight_13 dX2_flight_16

noncomputable def xX2_flight_3 (p0 : Int32) (X : Co) : Int32 × Int32 × Co :=
  if (fX2_isLookAhead p0) = 0 then (1, 0, X)
  else (if X.2.2.2.2.2.2.2.1 = 0 then (0, (-99), X)
    else (if (fX2_isEndedBy p0 X) = 0 then (0, (fX2_lookAhead p0 X).2.2.2.2.1.2.2.2.1, (fX2_lookAhead p0 X))
      else (0, (-99), X)))
set_option maxHeartbeats 4000000 in
set_option maxRecDepth 100000 in
theorem x_X2_flight_3 (l : Launch) (hl : l.stackTraces = false) (D : va_G) (cI cJ : ClassId) (a0 a1 a2 a3 a4 a5 a6 : Nat) (p0 : Int32) (X : Co)  : kCX l D cI cJ yX2_flight (.code yX2_flight cX2_flight 3 (some .int)) { frames := 6, cells := 1, slots := 6, locals := 127 } [.ref a0, .int p0, .int 3] (wC a0 a1 a2 a3 a4 a5 a6 X) (xX2_flight_3 p0 X).1 (xX2_flight_3 p0 X).2.1 (wC a0 a1 a2 a3 a4 a5 a6 (xX2_flight_3 p0 X).2.2) := by
  refine fun sz => k_ofX (lv := [(0, .ref a0), (1, .int p0), (2, .int 3)]) (by decide) sz (Nat.le_of_ble_eq_true rfl) rfl ?_
  intro p e s m args below meth c hsz hx0 T C
  refine k_iload_n C dX2_flight_0 1 rfl ?_
  refine k_callS_i C (mX2_isLookAhead l D cI cJ p0) (va_cwS 1 C.2.2.2.2.1 (kGS q280 q281 q35 q282) rfl rfl rfl hdX2_isLookAhead ⟨Nat.le_of_ble_eq_true rfl, Nat.le_of_ble_eq_true rfl⟩) [] [0, 1, 2, 3, 4, 5, 6] [0, 1, 2, 3, 4, 5, 6] [(a0, cF a1 a2 a3 a4 a5 a6 X.2.2.2.2.2.2), (a1, cS X.1), (a2, cS X.2.1), (a3, cB X.2.2.1), (a4, cB X.2.2.2.1), (a5, cB X.2.2.2.2.1), (a6, cB X.2.2.2.2.2.1)] ([(a0, cF a1 a2 a3 a4 a5 a6 X.2.2.2.2.2.2), (a1, cS X.1), (a2, cS X.2.1), (a3, cB X.2.2.1), (a4, cB X.2.2.2.1), (a5, cB X.2.2.2.2.1), (a6, cB X.2.2.2.2.2.1)]) rfl rfl rfl rfl (by decide) [] rfl rfl rfl rfl (Nat.le_of_ble_eq_true rfl) ⟨Nat.zero_le _, Nat.zero_le _⟩ rfl dX2_flight_1 ?_
  generalize er1 : fX2_isLookAhead p0 = r1
  refine k_if_ne C 17 (by decide) dX2_flight_4 (fun c2 => ?_) (fun c2 => ?_)
  ·
    refine k_iload_n C dX2_flight_17 2 rfl ?_
    refine k_if_lt C 27 (by decide) dX2_flight_18 (fun h => absurd h (by decide)) (fun _ => ?_)
    refine k_iload_n C dX2_flight_21 2 rfl ?_
    refine k_bipush C 9 (by decide) dX2_flight_22 ?_
    refine k_icmp_lt C 37 (by decide) dX2_flight_24 (fun _ => ?_) (fun h => absurd (by decide) h)
    refine k_aload_n C dX2_flight_37 0 rfl ?_
    refine k_getX2 C 0 7 rfl (by decide) rfl q129 rfl dX2_flight_38 ?_
    refine k_if_eq C 52 (by decide) dX2_flight_41 (fun c3 => ?_) (fun c3 => ?_)
    ·
      refine k_bipush C (-99) (by decide) dX2_flight_52 ?_
      have hL : xX2_flight_3 p0 X = (0, (-99), X) := by subst er1; exact (if_neg c2).trans ((if_pos c3).trans rfl)
      exact k_toX (k_iretX C rfl (by rw [hL]) (by rw [hL]) (by rw [hL]) dX2_flight_54)
    ·
      refine k_aload_n C dX2_flight_44 0 rfl ?_
      refine k_iload_n C dX2_flight_45 1 rfl ?_
      refine k_callV_i C (mX2_isEndedBy l D cI cJ a0 a1 a2 a3 a4 a5 a6 p0 X) (cwV 1 C.2.2.2.2.1 (kGV q300 q302 q6 q35 q303) rfl rfl rfl ⟨rfl, hdX2_isEndedBy⟩ ⟨Nat.le_of_ble_eq_true rfl, Nat.le_of_ble_eq_true rfl⟩) [0, 1, 2, 3, 4, 5, 6] [] [0, 1, 2, 3, 4, 5, 6] [] ([(a0, cF a1 a2 a3 a4 a5 a6 X.2.2.2.2.2.2), (a1, cS X.1), (a2, cS X.2.1), (a3, cB X.2.2.1), (a4, cB X.2.2.2.1), (a5, cB X.2.2.2.2.1), (a6, cB X.2.2.2.2.2.1)]) rfl rfl rfl rfl (by decide) [a0, a1, a2, a3, a4, a5, a6] rfl rfl rfl rfl 0 2 rfl rfl rfl (Nat.le_of_ble_eq_true rfl) ⟨Nat.zero_le _, Nat.zero_le _⟩ rfl dX2_flight_46 ?_
      generalize er4 : fX2_isEndedBy p0 X = r4
      refine k_if_eq C 55 (by decide) dX2_flight_49 (fun c5 => ?_) (fun c5 => ?_)
      ·
        refine k_aload_n C dX2_flight_55 0 rfl ?_
        refine k_iload_n C dX2_flight_56 1 rfl ?_
        refine k_callV_v C (mX2_lookAhead l D cI cJ a0 a1 a2 a3 a4 a5 a6 p0 X) (cwV 1 C.2.2.2.2.1 (kGV q304 q306 q7 q35 q307) rfl rfl rfl ⟨rfl, hdX2_lookAhead⟩ ⟨Nat.le_of_ble_eq_true rfl, Nat.le_of_ble_eq_true rfl⟩) [0, 1, 2, 3, 4, 5, 6] [] [0, 1, 2, 3, 4, 5, 6] [] (wC a0 a1 a2 a3 a4 a5 a6 (fX2_lookAhead p0 X)) rfl rfl rfl rfl (by decide) [a0, a1, a2, a3, a4, a5, a6] rfl rfl rfl rfl 0 2 rfl rfl rfl (Nat.le_of_ble_eq_true rfl) ⟨Nat.zero_le _, Nat.zero_le _⟩ rfl dX2_flight_57 ?_
        generalize ezz6 : fX2_lookAhead p0 X = zz6
        refine k_aload_n C dX2_flight_60 0 rfl ?_
        refine k_getX2 C 0 4 rfl (by decide) rfl q126 rfl dX2_flight_61 ?_
        refine k_iload_n C dX2_flight_64 2 rfl ?_
        refine k_callN_i C (mX0_part_3 l D cI cJ a5 zz6.2.2.2.2.1) ⟨va_cnB 1 C.2.2.2.2.1 (kGN q243) rfl rfl rfl (C.2.2.2.2.2.2.1 _ qn10) (C.2.2.2.2.1 _ q37) hdX0_part ⟨Nat.le_of_ble_eq_true rfl, Nat.le_of_ble_eq_true rfl⟩, C.2.2.2.2.1 _ q242, C.2.2.2.2.1 _ q1⟩ [5] [0, 1, 2, 3, 4, 6] [0, 1, 2, 3, 4, 6, 5] [(a0, cF a1 a2 a3 a4 a5 a6 zz6.2.2.2.2.2.2), (a1, cS zz6.1), (a2, cS zz6.2.1), (a3, cB zz6.2.2.1), (a4, cB zz6.2.2.2.1), (a6, cB zz6.2.2.2.2.2.1)] ([(a0, cF a1 a2 a3 a4 a5 a6 zz6.2.2.2.2.2.2), (a1, cS zz6.1), (a2, cS zz6.2.1), (a3, cB zz6.2.2.1), (a4, cB zz6.2.2.2.1), (a5, cB zz6.2.2.2.2.1), (a6, cB zz6.2.2.2.2.2.1)]) rfl rfl rfl rfl (by decide) [a5] rfl rfl rfl rfl 5 0 rfl rfl rfl (Nat.le_of_ble_eq_true rfl) ⟨Nat.zero_le _, Nat.zero_le _⟩ rfl dX2_flight_65 ?_
        have hL : xX2_flight_3 p0 X = (0, zz6.2.2.2.2.1.2.2.2.1, zz6) := by subst ezz6; subst er4; subst er1; exact (if_neg c2).trans ((if_neg c3).trans ((if_pos c5).trans rfl))
        exact k_toX (k_iretX C rfl (by rw [hL]) (by rw [hL]) (by rw [hL]) dX2_flight_68)
      ·
        refine k_bipush C (-99) (by decide) dX2_flight_52 ?_
        have hL : xX2_flight_3 p0 X = (0, (-99), X) := by subst er4; subst er1; exact (if_neg c2).trans ((if_neg c3).trans ((if_neg c5).trans rfl))
        exact k_toX (k_iretX C rfl (by rw [hL]) (by rw [hL]) (by rw [hL]) dX2_flight_54)
  ·
    have hL : xX2_flight_3 p0 X = (1, 0, X) := by subst er1; exact (if_pos c2).trans rfl
    exact k_throw (cls := kIAE) (text := "0 to 60 moments") (mc := 1) (ms := 6) C T hl hx0 (by rw [hL]; exact Or.inl ⟨rfl, rfl⟩) rfl (by decide) q283 q43 (by decide) atA_tbl atA_rest (by decide) atA_ot (Nat.le_of_ble_eq_true rfl) (Nat.le_of_ble_eq_true rfl) (Nat.le_of_ble_eq_true rfl) (Nat.le_of_ble_eq_true rfl) (Nat.le_refl _) (Nat.le_refl _) dX2_flight_7 dX2_flight_10 dX2_flight_11 dX2_flight_13 dX2_flight_16

noncomputable def xX2_flight_4 (p0 : Int32) (X : Co) : Int32 × Int32 × Co :=
  if (fX2_isLookAhead p0) = 0 then (1, 0, X)
  else (if X.2.2.2.2.2.2.2.1 = 0 then (0, (-99), X)
    else (if (fX2_isEndedBy p0 X) = 0 then (0, (fX2_lookAhead p0 X).2.2.2.2.1.2.2.2.2.1, (fX2_lookAhead p0 X))
      else (0, (-99), X)))
set_option maxHeartbeats 4000000 in
set_option maxRecDepth 100000 in
theorem x_X2_flight_4 (l : Launch) (hl : l.stackTraces = false) (D : va_G) (cI cJ : ClassId) (a0 a1 a2 a3 a4 a5 a6 : Nat) (p0 : Int32) (X : Co)  : kCX l D cI cJ yX2_flight (.code yX2_flight cX2_flight 3 (some .int)) { frames := 6, cells := 1, slots := 6, locals := 127 } [.ref a0, .int p0, .int 4] (wC a0 a1 a2 a3 a4 a5 a6 X) (xX2_flight_4 p0 X).1 (xX2_flight_4 p0 X).2.1 (wC a0 a1 a2 a3 a4 a5 a6 (xX2_flight_4 p0 X).2.2) := by
  refine fun sz => k_ofX (lv := [(0, .ref a0), (1, .int p0), (2, .int 4)]) (by decide) sz (Nat.le_of_ble_eq_true rfl) rfl ?_
  intro p e s m args below meth c hsz hx0 T C
  refine k_iload_n C dX2_flight_0 1 rfl ?_
  refine k_callS_i C (mX2_isLookAhead l D cI cJ p0) (va_cwS 1 C.2.2.2.2.1 (kGS q280 q281 q35 q282) rfl rfl rfl hdX2_isLookAhead ⟨Nat.le_of_ble_eq_true rfl, Nat.le_of_ble_eq_true rfl⟩) [] [0, 1, 2, 3, 4, 5, 6] [0, 1, 2, 3, 4, 5, 6] [(a0, cF a1 a2 a3 a4 a5 a6 X.2.2.2.2.2.2), (a1, cS X.1), (a2, cS X.2.1), (a3, cB X.2.2.1), (a4, cB X.2.2.2.1), (a5, cB X.2.2.2.2.1), (a6, cB X.2.2.2.2.2.1)] ([(a0, cF a1 a2 a3 a4 a5 a6 X.2.2.2.2.2.2), (a1, cS X.1), (a2, cS X.2.1), (a3, cB X.2.2.1), (a4, cB X.2.2.2.1), (a5, cB X.2.2.2.2.1), (a6, cB X.2.2.2.2.2.1)]) rfl rfl rfl rfl (by decide) [] rfl rfl rfl rfl (Nat.le_of_ble_eq_true rfl) ⟨Nat.zero_le _, Nat.zero_le _⟩ rfl dX2_flight_1 ?_
  generalize er1 : fX2_isLookAhead p0 = r1
  refine k_if_ne C 17 (by decide) dX2_flight_4 (fun c2 => ?_) (fun c2 => ?_)
  ·
    refine k_iload_n C dX2_flight_17 2 rfl ?_
    refine k_if_lt C 27 (by decide) dX2_flight_18 (fun h => absurd h (by decide)) (fun _ => ?_)
    refine k_iload_n C dX2_flight_21 2 rfl ?_
    refine k_bipush C 9 (by decide) dX2_flight_22 ?_
    refine k_icmp_lt C 37 (by decide) dX2_flight_24 (fun _ => ?_) (fun h => absurd (by decide) h)
    refine k_aload_n C dX2_flight_37 0 rfl ?_
    refine k_getX2 C 0 7 rfl (by decide) rfl q129 rfl dX2_flight_38 ?_
    refine k_if_eq C 52 (by decide) dX2_flight_41 (fun c3 => ?_) (fun c3 => ?_)
    ·
      refine k_bipush C (-99) (by decide) dX2_flight_52 ?_
      have hL : xX2_flight_4 p0 X = (0, (-99), X) := by subst er1; exact (if_neg c2).trans ((if_pos c3).trans rfl)
      exact k_toX (k_iretX C rfl (by rw [hL]) (by rw [hL]) (by rw [hL]) dX2_flight_54)
    ·
      refine k_aload_n C dX2_flight_44 0 rfl ?_
      refine k_iload_n C dX2_flight_45 1 rfl ?_
      refine k_callV_i C (mX2_isEndedBy l D cI cJ a0 a1 a2 a3 a4 a5 a6 p0 X) (cwV 1 C.2.2.2.2.1 (kGV q300 q302 q6 q35 q303) rfl rfl rfl ⟨rfl, hdX2_isEndedBy⟩ ⟨Nat.le_of_ble_eq_true rfl, Nat.le_of_ble_eq_true rfl⟩) [0, 1, 2, 3, 4, 5, 6] [] [0, 1, 2, 3, 4, 5, 6] [] ([(a0, cF a1 a2 a3 a4 a5 a6 X.2.2.2.2.2.2), (a1, cS X.1), (a2, cS X.2.1), (a3, cB X.2.2.1), (a4, cB X.2.2.2.1), (a5, cB X.2.2.2.2.1), (a6, cB X.2.2.2.2.2.1)]) rfl rfl rfl rfl (by decide) [a0, a1, a2, a3, a4, a5, a6] rfl rfl rfl rfl 0 2 rfl rfl rfl (Nat.le_of_ble_eq_true rfl) ⟨Nat.zero_le _, Nat.zero_le _⟩ rfl dX2_flight_46 ?_
      generalize er4 : fX2_isEndedBy p0 X = r4
      refine k_if_eq C 55 (by decide) dX2_flight_49 (fun c5 => ?_) (fun c5 => ?_)
      ·
        refine k_aload_n C dX2_flight_55 0 rfl ?_
        refine k_iload_n C dX2_flight_56 1 rfl ?_
        refine k_callV_v C (mX2_lookAhead l D cI cJ a0 a1 a2 a3 a4 a5 a6 p0 X) (cwV 1 C.2.2.2.2.1 (kGV q304 q306 q7 q35 q307) rfl rfl rfl ⟨rfl, hdX2_lookAhead⟩ ⟨Nat.le_of_ble_eq_true rfl, Nat.le_of_ble_eq_true rfl⟩) [0, 1, 2, 3, 4, 5, 6] [] [0, 1, 2, 3, 4, 5, 6] [] (wC a0 a1 a2 a3 a4 a5 a6 (fX2_lookAhead p0 X)) rfl rfl rfl rfl (by decide) [a0, a1, a2, a3, a4, a5, a6] rfl rfl rfl rfl 0 2 rfl rfl rfl (Nat.le_of_ble_eq_true rfl) ⟨Nat.zero_le _, Nat.zero_le _⟩ rfl dX2_flight_57 ?_
        generalize ezz6 : fX2_lookAhead p0 X = zz6
        refine k_aload_n C dX2_flight_60 0 rfl ?_
        refine k_getX2 C 0 4 rfl (by decide) rfl q126 rfl dX2_flight_61 ?_
        refine k_iload_n C dX2_flight_64 2 rfl ?_
        refine k_callN_i C (mX0_part_4 l D cI cJ a5 zz6.2.2.2.2.1) ⟨va_cnB 1 C.2.2.2.2.1 (kGN q243) rfl rfl rfl (C.2.2.2.2.2.2.1 _ qn10) (C.2.2.2.2.1 _ q37) hdX0_part ⟨Nat.le_of_ble_eq_true rfl, Nat.le_of_ble_eq_true rfl⟩, C.2.2.2.2.1 _ q242, C.2.2.2.2.1 _ q1⟩ [5] [0, 1, 2, 3, 4, 6] [0, 1, 2, 3, 4, 6, 5] [(a0, cF a1 a2 a3 a4 a5 a6 zz6.2.2.2.2.2.2), (a1, cS zz6.1), (a2, cS zz6.2.1), (a3, cB zz6.2.2.1), (a4, cB zz6.2.2.2.1), (a6, cB zz6.2.2.2.2.2.1)] ([(a0, cF a1 a2 a3 a4 a5 a6 zz6.2.2.2.2.2.2), (a1, cS zz6.1), (a2, cS zz6.2.1), (a3, cB zz6.2.2.1), (a4, cB zz6.2.2.2.1), (a5, cB zz6.2.2.2.2.1), (a6, cB zz6.2.2.2.2.2.1)]) rfl rfl rfl rfl (by decide) [a5] rfl rfl rfl rfl 5 0 rfl rfl rfl (Nat.le_of_ble_eq_true rfl) ⟨Nat.zero_le _, Nat.zero_le _⟩ rfl dX2_flight_65 ?_
        have hL : xX2_flight_4 p0 X = (0, zz6.2.2.2.2.1.2.2.2.2.1, zz6) := by subst ezz6; subst er4; subst er1; exact (if_neg c2).trans ((if_neg c3).trans ((if_pos c5).trans rfl))
        exact k_toX (k_iretX C rfl (by rw [hL]) (by rw [hL]) (by rw [hL]) dX2_flight_68)
      ·
        refine k_bipush C (-99) (by decide) dX2_flight_52 ?_
        have hL : xX2_flight_4 p0 X = (0, (-99), X) := by subst er4; subst er1; exact (if_neg c2).trans ((if_neg c3).trans ((if_neg c5).trans rfl))
        exact k_toX (k_iretX C rfl (by rw [hL]) (by rw [hL]) (by rw [hL]) dX2_flight_54)
  ·
    have hL : xX2_flight_4 p0 X = (1, 0, X) := by subst er1; exact (if_pos c2).trans rfl
    exact k_throw (cls := kIAE) (text := "0 to 60 moments") (mc := 1) (ms := 6) C T hl hx0 (by rw [hL]; exact Or.inl ⟨rfl, rfl⟩) rfl (by decide) q283 q43 (by decide) atA_tbl atA_rest (by decide) atA_ot (Nat.le_of_ble_eq_true rfl) (Nat.le_of_ble_eq_true rfl) (Nat.le_of_ble_eq_true rfl) (Nat.le_of_ble_eq_true rfl) (Nat.le_refl _) (Nat.le_refl _) dX2_flight_7 dX2_flight_10 dX2_flight_11 dX2_flight_13 dX2_flight_16

noncomputable def xX2_flight_5 (p0 : Int32) (X : Co) : Int32 × Int32 × Co :=
  if (fX2_isLookAhead p0) = 0 then (1, 0, X)
  else (if X.2.2.2.2.2.2.2.1 = 0 then (0, (-99), X)
    else (if (fX2_isEndedBy p0 X) = 0 then (0, (fX2_lookAhead p0 X).2.2.2.2.1.2.2.2.2.2.1, (fX2_lookAhead p0 X))
      else (0, (-99), X)))
set_option maxHeartbeats 4000000 in
set_option maxRecDepth 100000 in
theorem x_X2_flight_5 (l : Launch) (hl : l.stackTraces = false) (D : va_G) (cI cJ : ClassId) (a0 a1 a2 a3 a4 a5 a6 : Nat) (p0 : Int32) (X : Co)  : kCX l D cI cJ yX2_flight (.code yX2_flight cX2_flight 3 (some .int)) { frames := 6, cells := 1, slots := 6, locals := 127 } [.ref a0, .int p0, .int 5] (wC a0 a1 a2 a3 a4 a5 a6 X) (xX2_flight_5 p0 X).1 (xX2_flight_5 p0 X).2.1 (wC a0 a1 a2 a3 a4 a5 a6 (xX2_flight_5 p0 X).2.2) := by
  refine fun sz => k_ofX (lv := [(0, .ref a0), (1, .int p0), (2, .int 5)]) (by decide) sz (Nat.le_of_ble_eq_true rfl) rfl ?_
  intro p e s m args below meth c hsz hx0 T C
  refine k_iload_n C dX2_flight_0 1 rfl ?_
  refine k_callS_i C (mX2_isLookAhead l D cI cJ p0) (va_cwS 1 C.2.2.2.2.1 (kGS q280 q281 q35 q282) rfl rfl rfl hdX2_isLookAhead ⟨Nat.le_of_ble_eq_true rfl, Nat.le_of_ble_eq_true rfl⟩) [] [0, 1, 2, 3, 4, 5, 6] [0, 1, 2, 3, 4, 5, 6] [(a0, cF a1 a2 a3 a4 a5 a6 X.2.2.2.2.2.2), (a1, cS X.1), (a2, cS X.2.1), (a3, cB X.2.2.1), (a4, cB X.2.2.2.1), (a5, cB X.2.2.2.2.1), (a6, cB X.2.2.2.2.2.1)] ([(a0, cF a1 a2 a3 a4 a5 a6 X.2.2.2.2.2.2), (a1, cS X.1), (a2, cS X.2.1), (a3, cB X.2.2.1), (a4, cB X.2.2.2.1), (a5, cB X.2.2.2.2.1), (a6, cB X.2.2.2.2.2.1)]) rfl rfl rfl rfl (by decide) [] rfl rfl rfl rfl (Nat.le_of_ble_eq_true rfl) ⟨Nat.zero_le _, Nat.zero_le _⟩ rfl dX2_flight_1 ?_
  generalize er1 : fX2_isLookAhead p0 = r1
  refine k_if_ne C 17 (by decide) dX2_flight_4 (fun c2 => ?_) (fun c2 => ?_)
  ·
    refine k_iload_n C dX2_flight_17 2 rfl ?_
    refine k_if_lt C 27 (by decide) dX2_flight_18 (fun h => absurd h (by decide)) (fun _ => ?_)
    refine k_iload_n C dX2_flight_21 2 rfl ?_
    refine k_bipush C 9 (by decide) dX2_flight_22 ?_
    refine k_icmp_lt C 37 (by decide) dX2_flight_24 (fun _ => ?_) (fun h => absurd (by decide) h)
    refine k_aload_n C dX2_flight_37 0 rfl ?_
    refine k_getX2 C 0 7 rfl (by decide) rfl q129 rfl dX2_flight_38 ?_
    refine k_if_eq C 52 (by decide) dX2_flight_41 (fun c3 => ?_) (fun c3 => ?_)
    ·
      refine k_bipush C (-99) (by decide) dX2_flight_52 ?_
      have hL : xX2_flight_5 p0 X = (0, (-99), X) := by subst er1; exact (if_neg c2).trans ((if_pos c3).trans rfl)
      exact k_toX (k_iretX C rfl (by rw [hL]) (by rw [hL]) (by rw [hL]) dX2_flight_54)
    ·
      refine k_aload_n C dX2_flight_44 0 rfl ?_
      refine k_iload_n C dX2_flight_45 1 rfl ?_
      refine k_callV_i C (mX2_isEndedBy l D cI cJ a0 a1 a2 a3 a4 a5 a6 p0 X) (cwV 1 C.2.2.2.2.1 (kGV q300 q302 q6 q35 q303) rfl rfl rfl ⟨rfl, hdX2_isEndedBy⟩ ⟨Nat.le_of_ble_eq_true rfl, Nat.le_of_ble_eq_true rfl⟩) [0, 1, 2, 3, 4, 5, 6] [] [0, 1, 2, 3, 4, 5, 6] [] ([(a0, cF a1 a2 a3 a4 a5 a6 X.2.2.2.2.2.2), (a1, cS X.1), (a2, cS X.2.1), (a3, cB X.2.2.1), (a4, cB X.2.2.2.1), (a5, cB X.2.2.2.2.1), (a6, cB X.2.2.2.2.2.1)]) rfl rfl rfl rfl (by decide) [a0, a1, a2, a3, a4, a5, a6] rfl rfl rfl rfl 0 2 rfl rfl rfl (Nat.le_of_ble_eq_true rfl) ⟨Nat.zero_le _, Nat.zero_le _⟩ rfl dX2_flight_46 ?_
      generalize er4 : fX2_isEndedBy p0 X = r4
      refine k_if_eq C 55 (by decide) dX2_flight_49 (fun c5 => ?_) (fun c5 => ?_)
      ·
        refine k_aload_n C dX2_flight_55 0 rfl ?_
        refine k_iload_n C dX2_flight_56 1 rfl ?_
        refine k_callV_v C (mX2_lookAhead l D cI cJ a0 a1 a2 a3 a4 a5 a6 p0 X) (cwV 1 C.2.2.2.2.1 (kGV q304 q306 q7 q35 q307) rfl rfl rfl ⟨rfl, hdX2_lookAhead⟩ ⟨Nat.le_of_ble_eq_true rfl, Nat.le_of_ble_eq_true rfl⟩) [0, 1, 2, 3, 4, 5, 6] [] [0, 1, 2, 3, 4, 5, 6] [] (wC a0 a1 a2 a3 a4 a5 a6 (fX2_lookAhead p0 X)) rfl rfl rfl rfl (by decide) [a0, a1, a2, a3, a4, a5, a6] rfl rfl rfl rfl 0 2 rfl rfl rfl (Nat.le_of_ble_eq_true rfl) ⟨Nat.zero_le _, Nat.zero_le _⟩ rfl dX2_flight_57 ?_
        generalize ezz6 : fX2_lookAhead p0 X = zz6
        refine k_aload_n C dX2_flight_60 0 rfl ?_
        refine k_getX2 C 0 4 rfl (by decide) rfl q126 rfl dX2_flight_61 ?_
        refine k_iload_n C dX2_flight_64 2 rfl ?_
        refine k_callN_i C (mX0_part_5 l D cI cJ a5 zz6.2.2.2.2.1) ⟨va_cnB 1 C.2.2.2.2.1 (kGN q243) rfl rfl rfl (C.2.2.2.2.2.2.1 _ qn10) (C.2.2.2.2.1 _ q37) hdX0_part ⟨Nat.le_of_ble_eq_true rfl, Nat.le_of_ble_eq_true rfl⟩, C.2.2.2.2.1 _ q242, C.2.2.2.2.1 _ q1⟩ [5] [0, 1, 2, 3, 4, 6] [0, 1, 2, 3, 4, 6, 5] [(a0, cF a1 a2 a3 a4 a5 a6 zz6.2.2.2.2.2.2), (a1, cS zz6.1), (a2, cS zz6.2.1), (a3, cB zz6.2.2.1), (a4, cB zz6.2.2.2.1), (a6, cB zz6.2.2.2.2.2.1)] ([(a0, cF a1 a2 a3 a4 a5 a6 zz6.2.2.2.2.2.2), (a1, cS zz6.1), (a2, cS zz6.2.1), (a3, cB zz6.2.2.1), (a4, cB zz6.2.2.2.1), (a5, cB zz6.2.2.2.2.1), (a6, cB zz6.2.2.2.2.2.1)]) rfl rfl rfl rfl (by decide) [a5] rfl rfl rfl rfl 5 0 rfl rfl rfl (Nat.le_of_ble_eq_true rfl) ⟨Nat.zero_le _, Nat.zero_le _⟩ rfl dX2_flight_65 ?_
        have hL : xX2_flight_5 p0 X = (0, zz6.2.2.2.2.1.2.2.2.2.2.1, zz6) := by subst ezz6; subst er4; subst er1; exact (if_neg c2).trans ((if_neg c3).trans ((if_pos c5).trans rfl))
        exact k_toX (k_iretX C rfl (by rw [hL]) (by rw [hL]) (by rw [hL]) dX2_flight_68)
      ·
        refine k_bipush C (-99) (by decide) dX2_flight_52 ?_
        have hL : xX2_flight_5 p0 X = (0, (-99), X) := by subst er4; subst er1; exact (if_neg c2).trans ((if_neg c3).trans ((if_neg c5).trans rfl))
        exact k_toX (k_iretX C rfl (by rw [hL]) (by rw [hL]) (by rw [hL]) dX2_flight_54)
  ·
    have hL : xX2_flight_5 p0 X = (1, 0, X) := by subst er1; exact (if_pos c2).trans rfl
    exact k_throw (cls := kIAE) (text := "0 to 60 moments") (mc := 1) (ms := 6) C T hl hx0 (by rw [hL]; exact Or.inl ⟨rfl, rfl⟩) rfl (by decide) q283 q43 (by decide) atA_tbl atA_rest (by decide) atA_ot (Nat.le_of_ble_eq_true rfl) (Nat.le_of_ble_eq_true rfl) (Nat.le_of_ble_eq_true rfl) (Nat.le_of_ble_eq_true rfl) (Nat.le_refl _) (Nat.le_refl _) dX2_flight_7 dX2_flight_10 dX2_flight_11 dX2_flight_13 dX2_flight_16

noncomputable def xX2_flight_6 (p0 : Int32) (X : Co) : Int32 × Int32 × Co :=
  if (fX2_isLookAhead p0) = 0 then (1, 0, X)
  else (if X.2.2.2.2.2.2.2.1 = 0 then (0, (-99), X)
    else (if (fX2_isEndedBy p0 X) = 0 then (0, (fX2_lookAhead p0 X).2.2.2.2.1.2.2.2.2.2.2.1, (fX2_lookAhead p0 X))
      else (0, (-99), X)))
set_option maxHeartbeats 4000000 in
set_option maxRecDepth 100000 in
theorem x_X2_flight_6 (l : Launch) (hl : l.stackTraces = false) (D : va_G) (cI cJ : ClassId) (a0 a1 a2 a3 a4 a5 a6 : Nat) (p0 : Int32) (X : Co)  : kCX l D cI cJ yX2_flight (.code yX2_flight cX2_flight 3 (some .int)) { frames := 6, cells := 1, slots := 6, locals := 127 } [.ref a0, .int p0, .int 6] (wC a0 a1 a2 a3 a4 a5 a6 X) (xX2_flight_6 p0 X).1 (xX2_flight_6 p0 X).2.1 (wC a0 a1 a2 a3 a4 a5 a6 (xX2_flight_6 p0 X).2.2) := by
  refine fun sz => k_ofX (lv := [(0, .ref a0), (1, .int p0), (2, .int 6)]) (by decide) sz (Nat.le_of_ble_eq_true rfl) rfl ?_
  intro p e s m args below meth c hsz hx0 T C
  refine k_iload_n C dX2_flight_0 1 rfl ?_
  refine k_callS_i C (mX2_isLookAhead l D cI cJ p0) (va_cwS 1 C.2.2.2.2.1 (kGS q280 q281 q35 q282) rfl rfl rfl hdX2_isLookAhead ⟨Nat.le_of_ble_eq_true rfl, Nat.le_of_ble_eq_true rfl⟩) [] [0, 1, 2, 3, 4, 5, 6] [0, 1, 2, 3, 4, 5, 6] [(a0, cF a1 a2 a3 a4 a5 a6 X.2.2.2.2.2.2), (a1, cS X.1), (a2, cS X.2.1), (a3, cB X.2.2.1), (a4, cB X.2.2.2.1), (a5, cB X.2.2.2.2.1), (a6, cB X.2.2.2.2.2.1)] ([(a0, cF a1 a2 a3 a4 a5 a6 X.2.2.2.2.2.2), (a1, cS X.1), (a2, cS X.2.1), (a3, cB X.2.2.1), (a4, cB X.2.2.2.1), (a5, cB X.2.2.2.2.1), (a6, cB X.2.2.2.2.2.1)]) rfl rfl rfl rfl (by decide) [] rfl rfl rfl rfl (Nat.le_of_ble_eq_true rfl) ⟨Nat.zero_le _, Nat.zero_le _⟩ rfl dX2_flight_1 ?_
  generalize er1 : fX2_isLookAhead p0 = r1
  refine k_if_ne C 17 (by decide) dX2_flight_4 (fun c2 => ?_) (fun c2 => ?_)
  ·
    refine k_iload_n C dX2_flight_17 2 rfl ?_
    refine k_if_lt C 27 (by decide) dX2_flight_18 (fun h => absurd h (by decide)) (fun _ => ?_)
    refine k_iload_n C dX2_flight_21 2 rfl ?_
    refine k_bipush C 9 (by decide) dX2_flight_22 ?_
    refine k_icmp_lt C 37 (by decide) dX2_flight_24 (fun _ => ?_) (fun h => absurd (by decide) h)
    refine k_aload_n C dX2_flight_37 0 rfl ?_
    refine k_getX2 C 0 7 rfl (by decide) rfl q129 rfl dX2_flight_38 ?_
    refine k_if_eq C 52 (by decide) dX2_flight_41 (fun c3 => ?_) (fun c3 => ?_)
    ·
      refine k_bipush C (-99) (by decide) dX2_flight_52 ?_
      have hL : xX2_flight_6 p0 X = (0, (-99), X) := by subst er1; exact (if_neg c2).trans ((if_pos c3).trans rfl)
      exact k_toX (k_iretX C rfl (by rw [hL]) (by rw [hL]) (by rw [hL]) dX2_flight_54)
    ·
      refine k_aload_n C dX2_flight_44 0 rfl ?_
      refine k_iload_n C dX2_flight_45 1 rfl ?_
      refine k_callV_i C (mX2_isEndedBy l D cI cJ a0 a1 a2 a3 a4 a5 a6 p0 X) (cwV 1 C.2.2.2.2.1 (kGV q300 q302 q6 q35 q303) rfl rfl rfl ⟨rfl, hdX2_isEndedBy⟩ ⟨Nat.le_of_ble_eq_true rfl, Nat.le_of_ble_eq_true rfl⟩) [0, 1, 2, 3, 4, 5, 6] [] [0, 1, 2, 3, 4, 5, 6] [] ([(a0, cF a1 a2 a3 a4 a5 a6 X.2.2.2.2.2.2), (a1, cS X.1), (a2, cS X.2.1), (a3, cB X.2.2.1), (a4, cB X.2.2.2.1), (a5, cB X.2.2.2.2.1), (a6, cB X.2.2.2.2.2.1)]) rfl rfl rfl rfl (by decide) [a0, a1, a2, a3, a4, a5, a6] rfl rfl rfl rfl 0 2 rfl rfl rfl (Nat.le_of_ble_eq_true rfl) ⟨Nat.zero_le _, Nat.zero_le _⟩ rfl dX2_flight_46 ?_
      generalize er4 : fX2_isEndedBy p0 X = r4
      refine k_if_eq C 55 (by decide) dX2_flight_49 (fun c5 => ?_) (fun c5 => ?_)
      ·
        refine k_aload_n C dX2_flight_55 0 rfl ?_
        refine k_iload_n C dX2_flight_56 1 rfl ?_
        refine k_callV_v C (mX2_lookAhead l D cI cJ a0 a1 a2 a3 a4 a5 a6 p0 X) (cwV 1 C.2.2.2.2.1 (kGV q304 q306 q7 q35 q307) rfl rfl rfl ⟨rfl, hdX2_lookAhead⟩ ⟨Nat.le_of_ble_eq_true rfl, Nat.le_of_ble_eq_true rfl⟩) [0, 1, 2, 3, 4, 5, 6] [] [0, 1, 2, 3, 4, 5, 6] [] (wC a0 a1 a2 a3 a4 a5 a6 (fX2_lookAhead p0 X)) rfl rfl rfl rfl (by decide) [a0, a1, a2, a3, a4, a5, a6] rfl rfl rfl rfl 0 2 rfl rfl rfl (Nat.le_of_ble_eq_true rfl) ⟨Nat.zero_le _, Nat.zero_le _⟩ rfl dX2_flight_57 ?_
        generalize ezz6 : fX2_lookAhead p0 X = zz6
        refine k_aload_n C dX2_flight_60 0 rfl ?_
        refine k_getX2 C 0 4 rfl (by decide) rfl q126 rfl dX2_flight_61 ?_
        refine k_iload_n C dX2_flight_64 2 rfl ?_
        refine k_callN_i C (mX0_part_6 l D cI cJ a5 zz6.2.2.2.2.1) ⟨va_cnB 1 C.2.2.2.2.1 (kGN q243) rfl rfl rfl (C.2.2.2.2.2.2.1 _ qn10) (C.2.2.2.2.1 _ q37) hdX0_part ⟨Nat.le_of_ble_eq_true rfl, Nat.le_of_ble_eq_true rfl⟩, C.2.2.2.2.1 _ q242, C.2.2.2.2.1 _ q1⟩ [5] [0, 1, 2, 3, 4, 6] [0, 1, 2, 3, 4, 6, 5] [(a0, cF a1 a2 a3 a4 a5 a6 zz6.2.2.2.2.2.2), (a1, cS zz6.1), (a2, cS zz6.2.1), (a3, cB zz6.2.2.1), (a4, cB zz6.2.2.2.1), (a6, cB zz6.2.2.2.2.2.1)] ([(a0, cF a1 a2 a3 a4 a5 a6 zz6.2.2.2.2.2.2), (a1, cS zz6.1), (a2, cS zz6.2.1), (a3, cB zz6.2.2.1), (a4, cB zz6.2.2.2.1), (a5, cB zz6.2.2.2.2.1), (a6, cB zz6.2.2.2.2.2.1)]) rfl rfl rfl rfl (by decide) [a5] rfl rfl rfl rfl 5 0 rfl rfl rfl (Nat.le_of_ble_eq_true rfl) ⟨Nat.zero_le _, Nat.zero_le _⟩ rfl dX2_flight_65 ?_
        have hL : xX2_flight_6 p0 X = (0, zz6.2.2.2.2.1.2.2.2.2.2.2.1, zz6) := by subst ezz6; subst er4; subst er1; exact (if_neg c2).trans ((if_neg c3).trans ((if_pos c5).trans rfl))
        exact k_toX (k_iretX C rfl (by rw [hL]) (by rw [hL]) (by rw [hL]) dX2_flight_68)
      ·
        refine k_bipush C (-99) (by decide) dX2_flight_52 ?_
        have hL : xX2_flight_6 p0 X = (0, (-99), X) := by subst er4; subst er1; exact (if_neg c2).trans ((if_neg c3).trans ((if_neg c5).trans rfl))
        exact k_toX (k_iretX C rfl (by rw [hL]) (by rw [hL]) (by rw [hL]) dX2_flight_54)
  ·
    have hL : xX2_flight_6 p0 X = (1, 0, X) := by subst er1; exact (if_pos c2).trans rfl
    exact k_throw (cls := kIAE) (text := "0 to 60 moments") (mc := 1) (ms := 6) C T hl hx0 (by rw [hL]; exact Or.inl ⟨rfl, rfl⟩) rfl (by decide) q283 q43 (by decide) atA_tbl atA_rest (by decide) atA_ot (Nat.le_of_ble_eq_true rfl) (Nat.le_of_ble_eq_true rfl) (Nat.le_of_ble_eq_true rfl) (Nat.le_of_ble_eq_true rfl) (Nat.le_refl _) (Nat.le_refl _) dX2_flight_7 dX2_flight_10 dX2_flight_11 dX2_flight_13 dX2_flight_16

noncomputable def xX2_flight_7 (p0 : Int32) (X : Co) : Int32 × Int32 × Co :=
  if (fX2_isLookAhead p0) = 0 then (1, 0, X)
  else (if X.2.2.2.2.2.2.2.1 = 0 then (0, (-99), X)
    else (if (fX2_isEndedBy p0 X) = 0 then (0, (fX2_lookAhead p0 X).2.2.2.2.1.2.2.2.2.2.2.2.1, (fX2_lookAhead p0 X))
      else (0, (-99), X)))
set_option maxHeartbeats 4000000 in
set_option maxRecDepth 100000 in
theorem x_X2_flight_7 (l : Launch) (hl : l.stackTraces = false) (D : va_G) (cI cJ : ClassId) (a0 a1 a2 a3 a4 a5 a6 : Nat) (p0 : Int32) (X : Co)  : kCX l D cI cJ yX2_flight (.code yX2_flight cX2_flight 3 (some .int)) { frames := 6, cells := 1, slots := 6, locals := 127 } [.ref a0, .int p0, .int 7] (wC a0 a1 a2 a3 a4 a5 a6 X) (xX2_flight_7 p0 X).1 (xX2_flight_7 p0 X).2.1 (wC a0 a1 a2 a3 a4 a5 a6 (xX2_flight_7 p0 X).2.2) := by
  refine fun sz => k_ofX (lv := [(0, .ref a0), (1, .int p0), (2, .int 7)]) (by decide) sz (Nat.le_of_ble_eq_true rfl) rfl ?_
  intro p e s m args below meth c hsz hx0 T C
  refine k_iload_n C dX2_flight_0 1 rfl ?_
  refine k_callS_i C (mX2_isLookAhead l D cI cJ p0) (va_cwS 1 C.2.2.2.2.1 (kGS q280 q281 q35 q282) rfl rfl rfl hdX2_isLookAhead ⟨Nat.le_of_ble_eq_true rfl, Nat.le_of_ble_eq_true rfl⟩) [] [0, 1, 2, 3, 4, 5, 6] [0, 1, 2, 3, 4, 5, 6] [(a0, cF a1 a2 a3 a4 a5 a6 X.2.2.2.2.2.2), (a1, cS X.1), (a2, cS X.2.1), (a3, cB X.2.2.1), (a4, cB X.2.2.2.1), (a5, cB X.2.2.2.2.1), (a6, cB X.2.2.2.2.2.1)] ([(a0, cF a1 a2 a3 a4 a5 a6 X.2.2.2.2.2.2), (a1, cS X.1), (a2, cS X.2.1), (a3, cB X.2.2.1), (a4, cB X.2.2.2.1), (a5, cB X.2.2.2.2.1), (a6, cB X.2.2.2.2.2.1)]) rfl rfl rfl rfl (by decide) [] rfl rfl rfl rfl (Nat.le_of_ble_eq_true rfl) ⟨Nat.zero_le _, Nat.zero_le _⟩ rfl dX2_flight_1 ?_
  generalize er1 : fX2_isLookAhead p0 = r1
  refine k_if_ne C 17 (by decide) dX2_flight_4 (fun c2 => ?_) (fun c2 => ?_)
  ·
    refine k_iload_n C dX2_flight_17 2 rfl ?_
    refine k_if_lt C 27 (by decide) dX2_flight_18 (fun h => absurd h (by decide)) (fun _ => ?_)
    refine k_iload_n C dX2_flight_21 2 rfl ?_
    refine k_bipush C 9 (by decide) dX2_flight_22 ?_
    refine k_icmp_lt C 37 (by decide) dX2_flight_24 (fun _ => ?_) (fun h => absurd (by decide) h)
    refine k_aload_n C dX2_flight_37 0 rfl ?_
    refine k_getX2 C 0 7 rfl (by decide) rfl q129 rfl dX2_flight_38 ?_
    refine k_if_eq C 52 (by decide) dX2_flight_41 (fun c3 => ?_) (fun c3 => ?_)
    ·
      refine k_bipush C (-99) (by decide) dX2_flight_52 ?_
      have hL : xX2_flight_7 p0 X = (0, (-99), X) := by subst er1; exact (if_neg c2).trans ((if_pos c3).trans rfl)
      exact k_toX (k_iretX C rfl (by rw [hL]) (by rw [hL]) (by rw [hL]) dX2_flight_54)
    ·
      refine k_aload_n C dX2_flight_44 0 rfl ?_
      refine k_iload_n C dX2_flight_45 1 rfl ?_
      refine k_callV_i C (mX2_isEndedBy l D cI cJ a0 a1 a2 a3 a4 a5 a6 p0 X) (cwV 1 C.2.2.2.2.1 (kGV q300 q302 q6 q35 q303) rfl rfl rfl ⟨rfl, hdX2_isEndedBy⟩ ⟨Nat.le_of_ble_eq_true rfl, Nat.le_of_ble_eq_true rfl⟩) [0, 1, 2, 3, 4, 5, 6] [] [0, 1, 2, 3, 4, 5, 6] [] ([(a0, cF a1 a2 a3 a4 a5 a6 X.2.2.2.2.2.2), (a1, cS X.1), (a2, cS X.2.1), (a3, cB X.2.2.1), (a4, cB X.2.2.2.1), (a5, cB X.2.2.2.2.1), (a6, cB X.2.2.2.2.2.1)]) rfl rfl rfl rfl (by decide) [a0, a1, a2, a3, a4, a5, a6] rfl rfl rfl rfl 0 2 rfl rfl rfl (Nat.le_of_ble_eq_true rfl) ⟨Nat.zero_le _, Nat.zero_le _⟩ rfl dX2_flight_46 ?_
      generalize er4 : fX2_isEndedBy p0 X = r4
      refine k_if_eq C 55 (by decide) dX2_flight_49 (fun c5 => ?_) (fun c5 => ?_)
      ·
        refine k_aload_n C dX2_flight_55 0 rfl ?_
        refine k_iload_n C dX2_flight_56 1 rfl ?_
        refine k_callV_v C (mX2_lookAhead l D cI cJ a0 a1 a2 a3 a4 a5 a6 p0 X) (cwV 1 C.2.2.2.2.1 (kGV q304 q306 q7 q35 q307) rfl rfl rfl ⟨rfl, hdX2_lookAhead⟩ ⟨Nat.le_of_ble_eq_true rfl, Nat.le_of_ble_eq_true rfl⟩) [0, 1, 2, 3, 4, 5, 6] [] [0, 1, 2, 3, 4, 5, 6] [] (wC a0 a1 a2 a3 a4 a5 a6 (fX2_lookAhead p0 X)) rfl rfl rfl rfl (by decide) [a0, a1, a2, a3, a4, a5, a6] rfl rfl rfl rfl 0 2 rfl rfl rfl (Nat.le_of_ble_eq_true rfl) ⟨Nat.zero_le _, Nat.zero_le _⟩ rfl dX2_flight_57 ?_
        generalize ezz6 : fX2_lookAhead p0 X = zz6
        refine k_aload_n C dX2_flight_60 0 rfl ?_
        refine k_getX2 C 0 4 rfl (by decide) rfl q126 rfl dX2_flight_61 ?_
        refine k_iload_n C dX2_flight_64 2 rfl ?_
        refine k_callN_i C (mX0_part_7 l D cI cJ a5 zz6.2.2.2.2.1) ⟨va_cnB 1 C.2.2.2.2.1 (kGN q243) rfl rfl rfl (C.2.2.2.2.2.2.1 _ qn10) (C.2.2.2.2.1 _ q37) hdX0_part ⟨Nat.le_of_ble_eq_true rfl, Nat.le_of_ble_eq_true rfl⟩, C.2.2.2.2.1 _ q242, C.2.2.2.2.1 _ q1⟩ [5] [0, 1, 2, 3, 4, 6] [0, 1, 2, 3, 4, 6, 5] [(a0, cF a1 a2 a3 a4 a5 a6 zz6.2.2.2.2.2.2), (a1, cS zz6.1), (a2, cS zz6.2.1), (a3, cB zz6.2.2.1), (a4, cB zz6.2.2.2.1), (a6, cB zz6.2.2.2.2.2.1)] ([(a0, cF a1 a2 a3 a4 a5 a6 zz6.2.2.2.2.2.2), (a1, cS zz6.1), (a2, cS zz6.2.1), (a3, cB zz6.2.2.1), (a4, cB zz6.2.2.2.1), (a5, cB zz6.2.2.2.2.1), (a6, cB zz6.2.2.2.2.2.1)]) rfl rfl rfl rfl (by decide) [a5] rfl rfl rfl rfl 5 0 rfl rfl rfl (Nat.le_of_ble_eq_true rfl) ⟨Nat.zero_le _, Nat.zero_le _⟩ rfl dX2_flight_65 ?_
        have hL : xX2_flight_7 p0 X = (0, zz6.2.2.2.2.1.2.2.2.2.2.2.2.1, zz6) := by subst ezz6; subst er4; subst er1; exact (if_neg c2).trans ((if_neg c3).trans ((if_pos c5).trans rfl))
        exact k_toX (k_iretX C rfl (by rw [hL]) (by rw [hL]) (by rw [hL]) dX2_flight_68)
      ·
        refine k_bipush C (-99) (by decide) dX2_flight_52 ?_
        have hL : xX2_flight_7 p0 X = (0, (-99), X) := by subst er4; subst er1; exact (if_neg c2).trans ((if_neg c3).trans ((if_neg c5).trans rfl))
        exact k_toX (k_iretX C rfl (by rw [hL]) (by rw [hL]) (by rw [hL]) dX2_flight_54)
  ·
    have hL : xX2_flight_7 p0 X = (1, 0, X) := by subst er1; exact (if_pos c2).trans rfl
    exact k_throw (cls := kIAE) (text := "0 to 60 moments") (mc := 1) (ms := 6) C T hl hx0 (by rw [hL]; exact Or.inl ⟨rfl, rfl⟩) rfl (by decide) q283 q43 (by decide) atA_tbl atA_rest (by decide) atA_ot (Nat.le_of_ble_eq_true rfl) (Nat.le_of_ble_eq_true rfl) (Nat.le_of_ble_eq_true rfl) (Nat.le_of_ble_eq_true rfl) (Nat.le_refl _) (Nat.le_refl _) dX2_flight_7 dX2_flight_10 dX2_flight_11 dX2_flight_13 dX2_flight_16

noncomputable def xX2_flight_8 (p0 : Int32) (X : Co) : Int32 × Int32 × Co :=
  if (fX2_isLookAhead p0) = 0 then (1, 0, X)
  else (if X.2.2.2.2.2.2.2.1 = 0 then (0, (-99), X)
    else (if (fX2_isEndedBy p0 X) = 0 then (0, (fX2_lookAhead p0 X).2.2.2.2.1.2.2.2.2.2.2.2.2.1, (fX2_lookAhead p0 X))
      else (0, (-99), X)))
set_option maxHeartbeats 4000000 in
set_option maxRecDepth 100000 in
theorem x_X2_flight_8 (l : Launch) (hl : l.stackTraces = false) (D : va_G) (cI cJ : ClassId) (a0 a1 a2 a3 a4 a5 a6 : Nat) (p0 : Int32) (X : Co)  : kCX l D cI cJ yX2_flight (.code yX2_flight cX2_flight 3 (some .int)) { frames := 6, cells := 1, slots := 6, locals := 127 } [.ref a0, .int p0, .int 8] (wC a0 a1 a2 a3 a4 a5 a6 X) (xX2_flight_8 p0 X).1 (xX2_flight_8 p0 X).2.1 (wC a0 a1 a2 a3 a4 a5 a6 (xX2_flight_8 p0 X).2.2) := by
  refine fun sz => k_ofX (lv := [(0, .ref a0), (1, .int p0), (2, .int 8)]) (by decide) sz (Nat.le_of_ble_eq_true rfl) rfl ?_
  intro p e s m args below meth c hsz hx0 T C
  refine k_iload_n C dX2_flight_0 1 rfl ?_
  refine k_callS_i C (mX2_isLookAhead l D cI cJ p0) (va_cwS 1 C.2.2.2.2.1 (kGS q280 q281 q35 q282) rfl rfl rfl hdX2_isLookAhead ⟨Nat.le_of_ble_eq_true rfl, Nat.le_of_ble_eq_true rfl⟩) [] [0, 1, 2, 3, 4, 5, 6] [0, 1, 2, 3, 4, 5, 6] [(a0, cF a1 a2 a3 a4 a5 a6 X.2.2.2.2.2.2), (a1, cS X.1), (a2, cS X.2.1), (a3, cB X.2.2.1), (a4, cB X.2.2.2.1), (a5, cB X.2.2.2.2.1), (a6, cB X.2.2.2.2.2.1)] ([(a0, cF a1 a2 a3 a4 a5 a6 X.2.2.2.2.2.2), (a1, cS X.1), (a2, cS X.2.1), (a3, cB X.2.2.1), (a4, cB X.2.2.2.1), (a5, cB X.2.2.2.2.1), (a6, cB X.2.2.2.2.2.1)]) rfl rfl rfl rfl (by decide) [] rfl rfl rfl rfl (Nat.le_of_ble_eq_true rfl) ⟨Nat.zero_le _, Nat.zero_le _⟩ rfl dX2_flight_1 ?_
  generalize er1 : fX2_isLookAhead p0 = r1
  refine k_if_ne C 17 (by decide) dX2_flight_4 (fun c2 => ?_) (fun c2 => ?_)
  ·
    refine k_iload_n C dX2_flight_17 2 rfl ?_
    refine k_if_lt C 27 (by decide) dX2_flight_18 (fun h => absurd h (by decide)) (fun _ => ?_)
    refine k_iload_n C dX2_flight_21 2 rfl ?_
    refine k_bipush C 9 (by decide) dX2_flight_22 ?_
    refine k_icmp_lt C 37 (by decide) dX2_flight_24 (fun _ => ?_) (fun h => absurd (by decide) h)
    refine k_aload_n C dX2_flight_37 0 rfl ?_
    refine k_getX2 C 0 7 rfl (by decide) rfl q129 rfl dX2_flight_38 ?_
    refine k_if_eq C 52 (by decide) dX2_flight_41 (fun c3 => ?_) (fun c3 => ?_)
    ·
      refine k_bipush C (-99) (by decide) dX2_flight_52 ?_
      have hL : xX2_flight_8 p0 X = (0, (-99), X) := by subst er1; exact (if_neg c2).trans ((if_pos c3).trans rfl)
      exact k_toX (k_iretX C rfl (by rw [hL]) (by rw [hL]) (by rw [hL]) dX2_flight_54)
    ·
      refine k_aload_n C dX2_flight_44 0 rfl ?_
      refine k_iload_n C dX2_flight_45 1 rfl ?_
      refine k_callV_i C (mX2_isEndedBy l D cI cJ a0 a1 a2 a3 a4 a5 a6 p0 X) (cwV 1 C.2.2.2.2.1 (kGV q300 q302 q6 q35 q303) rfl rfl rfl ⟨rfl, hdX2_isEndedBy⟩ ⟨Nat.le_of_ble_eq_true rfl, Nat.le_of_ble_eq_true rfl⟩) [0, 1, 2, 3, 4, 5, 6] [] [0, 1, 2, 3, 4, 5, 6] [] ([(a0, cF a1 a2 a3 a4 a5 a6 X.2.2.2.2.2.2), (a1, cS X.1), (a2, cS X.2.1), (a3, cB X.2.2.1), (a4, cB X.2.2.2.1), (a5, cB X.2.2.2.2.1), (a6, cB X.2.2.2.2.2.1)]) rfl rfl rfl rfl (by decide) [a0, a1, a2, a3, a4, a5, a6] rfl rfl rfl rfl 0 2 rfl rfl rfl (Nat.le_of_ble_eq_true rfl) ⟨Nat.zero_le _, Nat.zero_le _⟩ rfl dX2_flight_46 ?_
      generalize er4 : fX2_isEndedBy p0 X = r4
      refine k_if_eq C 55 (by decide) dX2_flight_49 (fun c5 => ?_) (fun c5 => ?_)
      ·
        refine k_aload_n C dX2_flight_55 0 rfl ?_
        refine k_iload_n C dX2_flight_56 1 rfl ?_
        refine k_callV_v C (mX2_lookAhead l D cI cJ a0 a1 a2 a3 a4 a5 a6 p0 X) (cwV 1 C.2.2.2.2.1 (kGV q304 q306 q7 q35 q307) rfl rfl rfl ⟨rfl, hdX2_lookAhead⟩ ⟨Nat.le_of_ble_eq_true rfl, Nat.le_of_ble_eq_true rfl⟩) [0, 1, 2, 3, 4, 5, 6] [] [0, 1, 2, 3, 4, 5, 6] [] (wC a0 a1 a2 a3 a4 a5 a6 (fX2_lookAhead p0 X)) rfl rfl rfl rfl (by decide) [a0, a1, a2, a3, a4, a5, a6] rfl rfl rfl rfl 0 2 rfl rfl rfl (Nat.le_of_ble_eq_true rfl) ⟨Nat.zero_le _, Nat.zero_le _⟩ rfl dX2_flight_57 ?_
        generalize ezz6 : fX2_lookAhead p0 X = zz6
        refine k_aload_n C dX2_flight_60 0 rfl ?_
        refine k_getX2 C 0 4 rfl (by decide) rfl q126 rfl dX2_flight_61 ?_
        refine k_iload_n C dX2_flight_64 2 rfl ?_
        refine k_callN_i C (mX0_part_8 l D cI cJ a5 zz6.2.2.2.2.1) ⟨va_cnB 1 C.2.2.2.2.1 (kGN q243) rfl rfl rfl (C.2.2.2.2.2.2.1 _ qn10) (C.2.2.2.2.1 _ q37) hdX0_part ⟨Nat.le_of_ble_eq_true rfl, Nat.le_of_ble_eq_true rfl⟩, C.2.2.2.2.1 _ q242, C.2.2.2.2.1 _ q1⟩ [5] [0, 1, 2, 3, 4, 6] [0, 1, 2, 3, 4, 6, 5] [(a0, cF a1 a2 a3 a4 a5 a6 zz6.2.2.2.2.2.2), (a1, cS zz6.1), (a2, cS zz6.2.1), (a3, cB zz6.2.2.1), (a4, cB zz6.2.2.2.1), (a6, cB zz6.2.2.2.2.2.1)] ([(a0, cF a1 a2 a3 a4 a5 a6 zz6.2.2.2.2.2.2), (a1, cS zz6.1), (a2, cS zz6.2.1), (a3, cB zz6.2.2.1), (a4, cB zz6.2.2.2.1), (a5, cB zz6.2.2.2.2.1), (a6, cB zz6.2.2.2.2.2.1)]) rfl rfl rfl rfl (by decide) [a5] rfl rfl rfl rfl 5 0 rfl rfl rfl (Nat.le_of_ble_eq_true rfl) ⟨Nat.zero_le _, Nat.zero_le _⟩ rfl dX2_flight_65 ?_
        have hL : xX2_flight_8 p0 X = (0, zz6.2.2.2.2.1.2.2.2.2.2.2.2.2.1, zz6) := by subst ezz6; subst er4; subst er1; exact (if_neg c2).trans ((if_neg c3).trans ((if_pos c5).trans rfl))
        exact k_toX (k_iretX C rfl (by rw [hL]) (by rw [hL]) (by rw [hL]) dX2_flight_68)
      ·
        refine k_bipush C (-99) (by decide) dX2_flight_52 ?_
        have hL : xX2_flight_8 p0 X = (0, (-99), X) := by subst er4; subst er1; exact (if_neg c2).trans ((if_neg c3).trans ((if_neg c5).trans rfl))
        exact k_toX (k_iretX C rfl (by rw [hL]) (by rw [hL]) (by rw [hL]) dX2_flight_54)
  ·
    have hL : xX2_flight_8 p0 X = (1, 0, X) := by subst er1; exact (if_pos c2).trans rfl
    exact k_throw (cls := kIAE) (text := "0 to 60 moments") (mc := 1) (ms := 6) C T hl hx0 (by rw [hL]; exact Or.inl ⟨rfl, rfl⟩) rfl (by decide) q283 q43 (by decide) atA_tbl atA_rest (by decide) atA_ot (Nat.le_of_ble_eq_true rfl) (Nat.le_of_ble_eq_true rfl) (Nat.le_of_ble_eq_true rfl) (Nat.le_of_ble_eq_true rfl) (Nat.le_refl _) (Nat.le_refl _) dX2_flight_7 dX2_flight_10 dX2_flight_11 dX2_flight_13 dX2_flight_16

noncomputable def xX2_flight_bad (p0 : Int32) (p1 : Int32) (X : Co) : Int32 × Int32 × Co :=
  if (fX2_isLookAhead p0) = 0 then (1, 0, X)
  else (if p1 < 0 then (3, 0, X)
    else (if p1 < 9 then (0, 0, X)
      else (3, 0, X)))
set_option maxHeartbeats 4000000 in
set_option maxRecDepth 100000 in
theorem x_X2_flight_bad (l : Launch) (hl : l.stackTraces = false) (D : va_G) (cI cJ : ClassId) (a0 a1 a2 a3 a4 a5 a6 : Nat) (p0 : Int32) (p1 : Int32) (X : Co) (hb : ¬ (fX2_isLookAhead p0) = 0 → ¬ p1 < 0 → p1 < 9 → False) : kCX l D cI cJ yX2_flight (.code yX2_flight cX2_flight 3 (some .int)) { frames := 6, cells := 1, slots := 6, locals := 127 } [.ref a0, .int p0, .int p1] (wC a0 a1 a2 a3 a4 a5 a6 X) (xX2_flight_bad p0 p1 X).1 (xX2_flight_bad p0 p1 X).2.1 (wC a0 a1 a2 a3 a4 a5 a6 (xX2_flight_bad p0 p1 X).2.2) := by
  refine fun sz => k_ofX (lv := [(0, .ref a0), (1, .int p0), (2, .int p1)]) (by decide) sz (Nat.le_of_ble_eq_true rfl) rfl ?_
  intro p e s m args below meth c hsz hx0 T C
  refine k_iload_n C dX2_flight_0 1 rfl ?_
  refine k_callS_i C (mX2_isLookAhead l D cI cJ p0) (va_cwS 1 C.2.2.2.2.1 (kGS q280 q281 q35 q282) rfl rfl rfl hdX2_isLookAhead ⟨Nat.le_of_ble_eq_true rfl, Nat.le_of_ble_eq_true rfl⟩) [] [0, 1, 2, 3, 4, 5, 6] [0, 1, 2, 3, 4, 5, 6] [(a0, cF a1 a2 a3 a4 a5 a6 X.2.2.2.2.2.2), (a1, cS X.1), (a2, cS X.2.1), (a3, cB X.2.2.1), (a4, cB X.2.2.2.1), (a5, cB X.2.2.2.2.1), (a6, cB X.2.2.2.2.2.1)] ([(a0, cF a1 a2 a3 a4 a5 a6 X.2.2.2.2.2.2), (a1, cS X.1), (a2, cS X.2.1), (a3, cB X.2.2.1), (a4, cB X.2.2.2.1), (a5, cB X.2.2.2.2.1), (a6, cB X.2.2.2.2.2.1)]) rfl rfl rfl rfl (by decide) [] rfl rfl rfl rfl (Nat.le_of_ble_eq_true rfl) ⟨Nat.zero_le _, Nat.zero_le _⟩ rfl dX2_flight_1 ?_
  generalize er1 : fX2_isLookAhead p0 = r1
  refine k_if_ne C 17 (by decide) dX2_flight_4 (fun c2 => ?_) (fun c2 => ?_)
  ·
    refine k_iload_n C dX2_flight_17 2 rfl ?_
    refine k_if_lt C 27 (by decide) dX2_flight_18 (fun c3 => ?_) (fun c3 => ?_)
    ·
      have hL : xX2_flight_bad p0 p1 X = (3, 0, X) := by subst er1; exact (if_neg c2).trans ((if_pos c3).trans rfl)
      exact k_throw (cls := kIOO) (text := "no such part of the flight") (mc := 1) (ms := 6) C T hl hx0 (by rw [hL]; exact Or.inr (Or.inr ⟨rfl, rfl⟩)) rfl (by decide) q172 q42 (by decide) atO_tbl atO_rest (by decide) atO_ot (Nat.le_of_ble_eq_true rfl) (Nat.le_of_ble_eq_true rfl) (Nat.le_of_ble_eq_true rfl) (Nat.le_of_ble_eq_true rfl) (Nat.le_refl _) (Nat.le_refl _) dX2_flight_27 dX2_flight_30 dX2_flight_31 dX2_flight_33 dX2_flight_36
    ·
      refine k_iload_n C dX2_flight_21 2 rfl ?_
      refine k_bipush C 9 (by decide) dX2_flight_22 ?_
      refine k_icmp_lt C 37 (by decide) dX2_flight_24 (fun c4 => ?_) (fun c4 => ?_)
      ·
        exact (show False by subst er1; exact hb c2 c3 c4).elim
      ·
        have hL : xX2_flight_bad p0 p1 X = (3, 0, X) := by subst er1; exact (if_neg c2).trans ((if_neg c3).trans ((if_neg c4).trans rfl))
        exact k_throw (cls := kIOO) (text := "no such part of the flight") (mc := 1) (ms := 6) C T hl hx0 (by rw [hL]; exact Or.inr (Or.inr ⟨rfl, rfl⟩)) rfl (by decide) q172 q42 (by decide) atO_tbl atO_rest (by decide) atO_ot (Nat.le_of_ble_eq_true rfl) (Nat.le_of_ble_eq_true rfl) (Nat.le_of_ble_eq_true rfl) (Nat.le_of_ble_eq_true rfl) (Nat.le_refl _) (Nat.le_refl _) dX2_flight_27 dX2_flight_30 dX2_flight_31 dX2_flight_33 dX2_flight_36
  ·
    have hL : xX2_flight_bad p0 p1 X = (1, 0, X) := by subst er1; exact (if_pos c2).trans rfl
    exact k_throw (cls := kIAE) (text := "0 to 60 moments") (mc := 1) (ms := 6) C T hl hx0 (by rw [hL]; exact Or.inl ⟨rfl, rfl⟩) rfl (by decide) q283 q43 (by decide) atA_tbl atA_rest (by decide) atA_ot (Nat.le_of_ble_eq_true rfl) (Nat.le_of_ble_eq_true rfl) (Nat.le_of_ble_eq_true rfl) (Nat.le_of_ble_eq_true rfl) (Nat.le_refl _) (Nat.le_refl _) dX2_flight_7 dX2_flight_10 dX2_flight_11 dX2_flight_13 dX2_flight_16
