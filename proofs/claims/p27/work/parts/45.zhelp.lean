/-- the numbers of a plan: n herds, steps, days *-/
def okPl (n s d : Int32) : Prop := ((n = 1 ∧ 0 ≤ s.toInt ∧ s.toInt ≤ 4) ∨ (n = 2 ∧ 0 ≤ s.toInt ∧ s.toInt ≤ 2)) ∧ 0 ≤ d.toInt ∧ d.toInt ≤ 10
theorem pl_1 {n s d : Int32} (h : okPl n s d) {k m : Nat} (hk : lpk s k (m + 1)) : vp_in (n * nI k) 8 ∧ (n = 2 → vp_in (n * nI k + 1) 8) := by
  obtain ⟨h1, h2⟩ := hk
  rw [tn_toInt] at h1
  have e1 : (1 : Int32).toInt = 1 := by decide
  have e2 : (2 : Int32).toInt = 2 := by decide
  have ek : (nI k).toInt = (k : Int) := nI_toInt h2
  rcases h.1 with ⟨a, b, c⟩ | ⟨a, b, c⟩
  · subst a
    have q : ((1 : Int32) * nI k).toInt = k := by rw [mul_ti (by rw [e1]; omega) (by rw [e1]; omega), e1, ek]; omega
    exact ⟨by rw [vp_in_iff, q]; omega, fun h => absurd h (by decide)⟩
  · subst a
    have q : ((2 : Int32) * nI k).toInt = 2 * k := by rw [mul_ti (by rw [e2]; omega) (by rw [e2]; omega), e2, ek]
    exact ⟨by rw [vp_in_iff, q]; omega, fun _ => by rw [vp_in_iff, add_ti (by rw [q, e1]; omega) (by rw [q, e1]; omega), q, e1]; omega⟩
theorem pl_on {n s d day : Int32} (h : okPl n s d) (h0 : 0 ≤ day.toInt) (hd : day.toInt + s.toInt * d.toInt ≤ 720) {k j m m2 : Nat} (hk : lpk s k (m + 1)) (hj : lpk d j (m2 + 1)) : vp_in (((day + 1) + (nI k * d)) + nI j) 721 := by
  obtain ⟨h1, h2⟩ := hk
  obtain ⟨g1, g2⟩ := hj
  rw [tn_toInt] at h1 g1
  have e1 : (1 : Int32).toInt = 1 := by decide
  have ek : (nI k).toInt = (k : Int) := nI_toInt h2
  have ej : (nI j).toInt = (j : Int) := nI_toInt g2
  have hs : s.toInt ≤ 4 := by rcases h.1 with ⟨a, b, c⟩ | ⟨a, b, c⟩ <;> omega
  have hd1 := h.2
  have p1 : ((k : Int) + 1) * d.toInt ≤ s.toInt * d.toInt := Int.mul_le_mul_of_nonneg_right (by omega) hd1.1
  rw [Int.add_mul, Int.one_mul] at p1
  have p0 : 0 ≤ (k : Int) * d.toInt := Int.mul_nonneg (by omega) hd1.1
  have q1 : (day + 1).toInt = day.toInt + 1 := by rw [add_ti (by rw [e1]; omega) (by rw [e1]; omega), e1]
  have q2 : (nI k * d).toInt = k * d.toInt := by rw [mul_ti (by rw [ek]; omega) (by rw [ek]; omega), ek]
  have q3 : (day + 1 + nI k * d).toInt = day.toInt + 1 + k * d.toInt := by rw [add_ti (by rw [q1, q2]; omega) (by rw [q1, q2]; omega), q1, q2]
  rw [vp_in_iff, add_ti (by rw [q3, ej]; omega) (by rw [q3, ej]; omega), q3, ej]
  omega

