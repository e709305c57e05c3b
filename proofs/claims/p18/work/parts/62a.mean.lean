/-! the mean without draws -/
/-- the mean, as the court tells it -/
noncomputable def fMean (wr ws : Int32) : UInt64 := if wr = 0 then 0 else FP.ddiv (FP.i2d ws) (FP.i2d wr)
theorem mX2_meanN (l : Launch) (D : va_G) (cI cJ : ClassId) (a0 a1 a2 a3 a4 a5 a6 : Nat) (X : Co) (hne : ¬ X.2.2.2.2.2.2.2.2.2.2.2.1 = 0 → vf_n64 (FP.ddiv (FP.i2d X.2.2.2.2.2.2.2.2.2.2.2.2.1) (FP.i2d X.2.2.2.2.2.2.2.2.2.2.2.1))) : kCd l D cI cJ yX2_mean (.code yX2_mean cX2_mean 1 (some .double)) { frames := 0, cells := 0, slots := 0, locals := 0 } [.ref a0] (wC a0 a1 a2 a3 a4 a5 a6 X) (fMean X.2.2.2.2.2.2.2.2.2.2.2.1 X.2.2.2.2.2.2.2.2.2.2.2.2.1) := by
  refine fun sz => k_of (lv := [(0, .ref a0)]) (by decide) sz (Nat.le_of_ble_eq_true rfl) rfl ?_
  intro p e s m args below meth c hsz C
  refine k_aload_n C dX2_mean_0 0 rfl ?_
  refine k_getX2 C 0 11 rfl (by decide) rfl q133 rfl dX2_mean_1 ?_
  refine k_if_ne C 9 (by decide) dX2_mean_4 (fun c1 => ?_) (fun c1 => ?_)
  · refine k_aload_n C dX2_mean_9 0 rfl ?_
    refine k_getX2 C 0 12 rfl (by decide) rfl q134 rfl dX2_mean_10 ?_
    refine k_i2d C dX2_mean_13 ?_
    refine k_aload_n C dX2_mean_14 0 rfl ?_
    refine k_getX2 C 0 11 rfl (by decide) rfl q133 rfl dX2_mean_15 ?_
    refine k_i2d C dX2_mean_18 ?_
    refine k_ddivN C (hne c1) dX2_mean_19 ?_
    exact k_dret C rfl (by unfold fMean; rw [if_neg c1]) rfl dX2_mean_20
  · refine k_dconst0 C dX2_mean_7 ?_
    exact k_dret C rfl (by unfold fMean; rw [if_pos c1]) rfl dX2_mean_8
theorem mean_fin : ∀ (a b : Fin 17), ¬ b.val = 0 → (FP.ddiv (FP.i2d (nI a.val)) (FP.i2d (nI b.val)) &&& 0x7fffffffffffffff ≤ 0x7ff0000000000000) ∧ Op.cmpValue (FP.dcmp (FP.ddiv (FP.i2d (nI a.val)) (FP.i2d (nI b.val))) (FP.ddiv (FP.i2d (nI a.val)) (FP.i2d (nI b.val)))) .l = 0 := by decide +kernel