theorem pl_ix {q s a b : Nat} (ha : a < s) (hb : b < q) (h : q * s ≤ 8) : q * a + b < 8 := by
  have h1 := Nat.mul_le_mul_left q (show a + 1 ≤ s from ha)
  rw [Nat.mul_succ] at h1
  omega
theorem m1_sub (k : Nat) : nI k + (-1) = nI k - 1 := (Int32.sub_eq_add_neg (nI k) 1).symm
