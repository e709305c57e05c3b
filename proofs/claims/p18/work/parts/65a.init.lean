/-! the law: a game by hand, made -/
def Z0zs : Zs := ((0, 0, 0, 0), (0, 0, 0, 0), 0, (-1), 0, 0, 0, 0, 12, 0, 0)
theorem hdX4_init : yX4_init.cls ≠ "java/lang/invoke/MethodHandle" ∧ yX4_init.cls ≠ "java/lang/invoke/VarHandle" ∧ (parseMethodDescriptor yX4_init.desc).map (fun d => d.parameters.length) = some 0 := by decide +kernel
set_option maxHeartbeats 4000000 in
set_option maxRecDepth 100000 in
theorem mX4_init (l : Launch) (D : va_G) (cI cJ : ClassId) (z0 : Nat) : kGv l D cI cJ yX4_init (.code yX4_init cX4_init 1 none) { frames := 1, cells := 3, slots := 10, locals := 20 } [.ref z0] [(z0, .inr (4, [.int 0, .int 0, .int 0, .null, .null, .int 0, .int 0, .int 0, .int 0, .int 0, .int 0]))] 3 10 (fun U => ∃ z1 z2 z3 : Nat, U = wZ cI cJ z0 z1 z2 z3 .null Z0zs) := by
  refine fun sz => k_ofN (lv := [(0, .ref z0)]) (by decide) sz (Nat.le_of_ble_eq_true rfl) rfl ?_
  intro p e s m args below meth c hsz hnm C
  refine k_aload_n C dX4_init_0 0 rfl ?_
  refine k_objInit C q420 (Nat.le_of_ble_eq_true rfl) (Nat.le_of_ble_eq_true rfl) dX4_init_1 ?_
  refine k_aload_n C dX4_init_4 0 rfl ?_
  refine k_iconst C (-1) (by decide) dX4_init_5 ?_
  refine k_putX4 C [(z0, .inr (4, [.int 0, .int (-1), .int 0, .null, .null, .int 0, .int 0, .int 0, .int 0, .int 0, .int 0]))] 0 1 rfl rfl (by decide) q424 rfl rfl fdI rfl rfl (Nat.le_of_ble_eq_true rfl) dX4_init_6 ?_
  refine k_aload_n C dX4_init_9 0 rfl ?_
  refine k_iconst C 2 (by decide) dX4_init_10 ?_
  refine k_iconst C 4 (by decide) dX4_init_11 ?_
  refine k_new24 C (Nat.le_of_ble_eq_true rfl) (Nat.le_of_ble_eq_true rfl) dX4_init_12 (fun z1 z2 z3 => ?_)
  refine k_putX4 C [(z0, .inr (4, [.int 0, .int (-1), .int 0, .null, .ref z1, .int 0, .int 0, .int 0, .int 0, .int 0, .int 0])), (z1, cQ cJ z2 z3), (z2, cA4 cI (0, 0, 0, 0)), (z3, cA4 cI (0, 0, 0, 0))] 0 4 rfl rfl (by decide) q428 rfl rfl fdQ rfl rfl (Nat.le_of_ble_eq_true rfl) dX4_init_16 ?_
  refine k_aload_n C dX4_init_19 0 rfl ?_
  refine k_bipush C 12 (by decide) dX4_init_20 ?_
  refine k_putX4 C (wZ cI cJ z0 z1 z2 z3 .null Z0zs) 0 8 rfl rfl (by decide) q433 rfl rfl fdI rfl rfl (Nat.le_of_ble_eq_true rfl) dX4_init_22 ?_
  exact k_vretG C rfl ⟨z1, z2, z3, rfl⟩ dX4_init_25
theorem Rel_0 : Rel 0 X0co Z0zs none :=
  ⟨0, 0, 0, 0, 0, 0, 0, 0, (0, 0, 0, 0, 0, 0, 0, 0, 0, 0, 0), (0, 0, 0, 0, 0, 0, 0, 0, 0, 0, 0), (0, 0, 0, 0, 0, 0, 0, 0, 0, 0, 0), (0, 0, 0, 0, 0, 0, 0, 0, 0, 0, 0), 0, 0, 0, 12, (-1), 0, 0, 0, 0, (-1), 0, 0, rfl, rfl, Or.inl rfl, ⟨Or.inl ⟨rfl, rfl⟩, by decide, by decide, by decide, by decide, Or.inl ⟨rfl, by decide, by decide, by decide, by decide⟩⟩, Or.inl ⟨rfl, rfl, rfl, rfl⟩, by decide, by decide, by decide, by decide, by decide, by decide, by decide, by decide, by decide⟩