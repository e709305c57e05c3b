theorem dig_N {i : Nat} {X : Co} {Y : Mo} (hi : i < 512) (h0 : Rel i X (Y.1, Y.2.1, Y.2.2.1, Y.2.2.2.1, Y.2.2.2.2.1, Y.2.2.2.2.2.1, 0, Y.2.2.2.2.2.2.2)) : NX3_digest Y := by
  unfold NX3_digest
  obtain ⟨u0, e0, w0, z0⟩ := endt_0 (by omega) h0
  obtain ⟨u1, e1, w1, z1⟩ := endt_1 (by omega) w0
  obtain ⟨u2, e2, w2, z2⟩ := endt_2 (by omega) w1
  obtain ⟨u3, e3, w3, z3⟩ := endt_3 (by omega) w2
  obtain ⟨u4, e4, w4, z4⟩ := endt_4 (by omega) w3
  exact ⟨u0, u1, u2, u3, u4⟩
theorem dig_2 {i : Nat} {X : Co} {Y : Mo} (hi : i < 512) (h0 : Rel i X (Y.1, Y.2.1, Y.2.2.1, Y.2.2.2.1, Y.2.2.2.2.1, Y.2.2.2.2.2.1, 0, Y.2.2.2.2.2.2.2)) : Rel (i + 1) X (fX3_digest Y).2 := by
  obtain ⟨u0, e0, w0, z0⟩ := endt_0 (by omega) h0
  obtain ⟨u1, e1, w1, z1⟩ := endt_1 (by omega) w0
  obtain ⟨u2, e2, w2, z2⟩ := endt_2 (by omega) w1
  obtain ⟨u3, e3, w3, z3⟩ := endt_3 (by omega) w2
  obtain ⟨u4, e4, w4, z4⟩ := endt_4 (by omega) w3
  have w5 := w4.mono
  unfold fX3_digest
  generalize (fX3_endTold_4 _) = Q at w5 ⊢
  exact w5
theorem dig_1 {i : Nat} {X : Co} {Y : Mo} (hi : i < 512) (h0 : Rel i X (Y.1, Y.2.1, Y.2.2.1, Y.2.2.2.1, Y.2.2.2.2.1, Y.2.2.2.2.2.1, 0, Y.2.2.2.2.2.2.2)) : fX2_digest X = (fX3_digest Y).1 := by
  obtain ⟨a0, a1, a2, a3, a4, a5, a6, a7, a8⟩ := count_all (by omega) h0
  obtain ⟨b00, b01, b02, b03, b10, b11, b12, b13⟩ := told_all h0
  obtain ⟨c0, c1, c2, c3, c4, c5⟩ := ball_all h0
  obtain ⟨u0, e0, w0, z0⟩ := endt_0 (by omega) h0
  obtain ⟨u1, e1, w1, z1⟩ := endt_1 (by omega) w0
  obtain ⟨u2, e2, w2, z2⟩ := endt_2 (by omega) w1
  obtain ⟨u3, e3, w3, z3⟩ := endt_3 (by omega) w2
  obtain ⟨u4, e4, w4, z4⟩ := endt_4 (by omega) w3
  unfold fX2_digest fX3_digest
  rw [← a0, ← a1, ← a2, ← a3, ← a4, ← a5, ← a6, ← a7, ← a8, ← b00, ← b01, ← b02, ← b03, ← b10, ← b11, ← b12, ← b13, ← c0, ← c1, ← c2, ← c3, ← c4, ← c5, ← e4, ← e3, ← e2, ← e1, ← e0]
theorem pr_digest {i : Nat} {X : Co} {Y : Mo} (hi : i < 512) (h : Rel i X Y) : NX3_digest Y ∧ fX2_digest X = (fX3_digest Y).1 ∧ Rel (i + 1) X (fX3_digest Y).2 :=
  ⟨dig_N hi (h.thr 0), dig_1 hi (h.thr 0), dig_2 hi (h.thr 0)⟩
