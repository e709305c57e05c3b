theorem pr_serve {i : Nat} {X : Co} {Y : Mo} (p0 p1 p2 : Int32) (hi : i < 512) (h : Rel i X Y) : NX3_serve p0 p1 p2 Y ∧ kStep i X (xX2_serve p0 p1 p2 X) 1 2 9 (fX3_serve p0 p1 p2 Y) := by
  sorry
theorem pr_strike {i : Nat} {X : Co} {Y : Mo} (p0 p1 p2 p3 : Int32) (hi : i < 512) (h : Rel i X Y) : NX3_strike p0 p1 p2 p3 Y ∧ kStep i X (xX2_strike p0 p1 p2 p3 X) 1 2 9 (fX3_strike p0 p1 p2 p3 Y) := by
  sorry
theorem pr_leave {i : Nat} {X : Co} {Y : Mo} (hi : i < 512) (h : Rel i X Y) : NX3_leave Y ∧ kStep i X (xX2_leave X) 9 1 9 (fX3_leave Y) := by
  sorry
theorem pr_let {i : Nat} {X : Co} {Y : Mo} (hi : i < 512) (h : Rel i X Y) : kStep i X (xX2_let X) 9 1 9 (fX3_let Y) := by
  sorry
theorem pr_set {i : Nat} {X : Co} {Y : Mo} (p0 : Int32) (hi : i < 512) (h : Rel i X Y) : kStep i X (xX2_set p0 X) 1 2 9 (fX3_set p0 Y) := by
  sorry
theorem pr_match {i : Nat} {X : Co} {Y : Mo} (p0 : Int32) (hi : i < 512) (h : Rel i X Y) : kStep i X (xX2_match p0 X) 9 9 1 (fX3_match p0 Y) := by
  sorry
theorem pr_ball {i : Nat} {X : Co} {Y : Mo} (p0 : Int32) (hi : i < 512) (h : Rel i X Y) : kStep i X (gX2_ball p0 X) 9 9 1 (gX3_ball p0 Y) := by
  sorry
theorem pr_told {i : Nat} {X : Co} {Y : Mo} (p0 p1 : Int32) (hi : i < 512) (h : Rel i X Y) : kStep i X (gX2_told p0 p1 X) 9 9 1 (gX3_told p0 p1 Y) := by
  sorry
theorem pr_count {i : Nat} {X : Co} {Y : Mo} (p0 : Int32) (hi : i < 512) (h : Rel i X Y) : kStep i X (gX2_count p0 X) 9 9 1 (gX3_count p0 Y) := by
  sorry
theorem pr_flight {i : Nat} {X : Co} {Y : Mo} (p0 p1 : Int32) (hi : i < 512) (h : Rel i X Y) : kStep i X (gX2_flight p0 p1 X) 1 9 2 (gX3_flight p0 p1 Y) := by
  sorry
theorem pr_end {i : Nat} {X : Co} {Y : Mo} (p0 : Int32) (hi : i < 512) (h : Rel i X Y) : NG3_end p0 Y ∧ kStep i X (gX2_end p0 X) 9 9 1 (gX3_end p0 Y) := by
  sorry
theorem pr_would {i : Nat} {X : Co} {Y : Mo} (p0 p1 p2 p3 : Int32) (hi : i < 512) (h : Rel i X Y) : NX3_would p0 p1 p2 p3 Y ∧ kStep i X (xX2_would p0 p1 p2 p3 X) 1 9 9 (fX3_would p0 p1 p2 p3 Y) := by
  sorry
theorem pr_advise {i : Nat} {X : Co} {Y : Mo} (p0 : Int32) (hi : i < 512) (h : Rel i X Y) : NX3_advise p0 Y ∧ kStep i X (xX2_advise p0 X) 1 9 9 (fX3_advise p0 Y) := by
  sorry
theorem pr_digest {i : Nat} {X : Co} {Y : Mo} (hi : i < 512) (h : Rel i X Y) : NX3_digest Y ∧ fX2_digest X = (fX3_digest Y).1 ∧ Rel (i + 1) X (fX3_digest Y).2 := by
  sorry
