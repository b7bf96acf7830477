theorem bg_1 {a b : Int32} (h : (a = -1 ∧ 0 ≤ b.toInt ∧ b.toInt ≤ 4) ∨ (¬ a = -1 ∧ 0 ≤ b.toInt ∧ b.toInt ≤ 2)) (c : a = -1) : (((1 : Int32) = 1 ∧ b.toInt ≤ 4) ∨ ((1 : Int32) = 2 ∧ b.toInt ≤ 2)) ∧ 0 ≤ b.toInt := by
  rcases h with h | h
  · exact ⟨Or.inl ⟨rfl, h.2.2⟩, h.2.1⟩
  · exact absurd c h.1
theorem bg_2 {a b : Int32} (h : (a = -1 ∧ 0 ≤ b.toInt ∧ b.toInt ≤ 4) ∨ (¬ a = -1 ∧ 0 ≤ b.toInt ∧ b.toInt ≤ 2)) (c : ¬ a = -1) : (((2 : Int32) = 1 ∧ b.toInt ≤ 4) ∨ ((2 : Int32) = 2 ∧ b.toInt ≤ 2)) ∧ 0 ≤ b.toInt := by
  rcases h with h | h
  · exact absurd h.1 c
  · exact ⟨Or.inr ⟨rfl, h.2.2⟩, h.2.1⟩
/-- a place of a plan: a step of so many, a herd of so many -/
theorem pl_place {w s x y : Int32} (h : ((w = 1 ∧ s.toInt ≤ 4) ∨ (w = 2 ∧ s.toInt ≤ 2)) ∧ 0 ≤ s.toInt) (hx : 0 ≤ x.toInt ∧ x.toInt < s.toInt) (hy : 0 ≤ y.toInt ∧ y.toInt < w.toInt) : vp_in (x * w + y) 4 := by
  have e1 : (1 : Int32).toInt = 1 := by decide
  have e2 : (2 : Int32).toInt = 2 := by decide
  rcases h.1 with ⟨a, b⟩ | ⟨a, b⟩
  · subst a
    rw [e1] at hy
    have q : (x * 1).toInt = x.toInt := by rw [mul_ti (by rw [e1]; omega) (by rw [e1]; omega), e1]; omega
    rw [vp_in_iff, add_ti (by rw [q]; omega) (by rw [q]; omega), q]
    omega
  · subst a
    rw [e2] at hy
    have q : (x * 2).toInt = x.toInt * 2 := by rw [mul_ti (by rw [e2]; omega) (by rw [e2]; omega), e2]
    rw [vp_in_iff, add_ti (by rw [q]; omega) (by rw [q]; omega), q]
    omega
theorem ip_le {x y : Int32} (h : 0 ≤ x) (g : x < y) : 0 ≤ x.toInt ∧ x.toInt < y.toInt := by
  rw [Int32.le_iff_toInt_le, show (0 : Int32).toInt = 0 from by decide] at h
  rw [Int32.lt_iff_toInt_lt] at g
  exact ⟨h, g⟩
theorem w_le {w s : Int32} (h : ((w = 1 ∧ s.toInt ≤ 4) ∨ (w = 2 ∧ s.toInt ≤ 2)) ∧ 0 ≤ s.toInt) : (0 ≤ s.toInt ∧ s.toInt ≤ ((4 : Nat) : Int)) ∧ (0 ≤ w.toInt ∧ w.toInt ≤ ((2 : Nat) : Int)) := by
  have e1 : (1 : Int32).toInt = 1 := by decide
  have e2 : (2 : Int32).toInt = 2 := by decide
  rcases h.1 with ⟨a, b⟩ | ⟨a, b⟩
  · subst a; rw [e1]; omega
  · subst a; rw [e2]; omega

