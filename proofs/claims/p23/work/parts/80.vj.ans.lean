theorem rf_1 (σx σm : St) (c : Int32) : (s_X8_refuse σx c).1 = (s_X9_refuse σm c).1 := by
  unfold s_X8_refuse s_X9_refuse
  (repeat' split) <;> rfl
theorem pl_eq1 {k : Nat} {σx σm : St} (hJ : IR σm) (hJR : JR σm) (hB : RelB k σx σm) (hC : RC σx σm) (a1 a2 a3 a4 : Int32) : (∃ c : Int32, (c = -1 ∨ c = -2 ∨ c = -3 ∨ c = -6) ∧ s_X8_plan σx a1 a2 a3 a4 = ((s_X8_refuse σx c).1, (s_X8_refuse σx c).2) ∧ s_X9_plan σm a1 a2 a3 a4 = ((s_X9_refuse σm c).1, (s_X9_refuse σm c).2)) ∨ (∃ (n vx vm : Int32) (x y : St), s_X8_plan σx a1 a2 a3 a4 = (vx, x) ∧ s_X9_plan σm a1 a2 a3 a4 = (vm, put (put y 49 0 a3) 50 0 n) ∧ vx = vm ∧ x 607 0 = n ∧ x 608 0 = a3 ∧ (∀ q, q < (n * a3).toNatClampNeg → x 603 q = y 48 q) ∧ x 810 = σx 810 ∧ y 0 = σm 0) := by
  rcases plan_cases hB.1 hB.2.1 hJ a1 a2 a3 a4 with h | ⟨e0, g1, g2, g3, g4, g5, g6, g7, h⟩
  · exact Or.inl h
  · right
    rcases h with ⟨q1, q2, q3⟩ | ⟨q1, q2, q3, q4⟩
    · obtain ⟨vx, vm, x, y, r1, r2, r3, -, r5, r6, r7, r8, r9⟩ := mk_plan hJ hJR hB hC g1 g2 g3 g4 g5 g6 g7 q1 q2
      rw [r1] at e0
      exact ⟨1, vx, vm, x, y, e0, q3.trans r2, r3, r5, r6, r7, r8, r9⟩
    · obtain ⟨vx, vm, x, y, r1, r2, r3, -, r5, r6, r7, r8, r9⟩ := mk_plan_1 hJ hJR hB hC g1 g2 g3 g4 g5 g6 g7 ⟨q1, q2⟩ q3
      rw [r1] at e0
      exact ⟨2, vx, vm, x, y, e0, q4.trans r2, r3, r5, r6, r7, r8, r9⟩
theorem pl_ans {k : Nat} {σx σm : St} (hJ : IR σm) (hJR : JR σm) (hB : RelB k σx σm) (hC : RC σx σm) (a1 a2 a3 a4 : Int32) : (s_X8_plan σx a1 a2 a3 a4).1 = (s_X9_plan σm a1 a2 a3 a4).1 := by
  rcases pl_eq1 hJ hJR hB hC a1 a2 a3 a4 with ⟨c, -, e1, e2⟩ | ⟨n, vx, vm, x, y, e1, e2, e3, -⟩
  · rw [e1, e2]
    exact rf_1 σx σm c
  · rw [e1, e2]
    exact e3
