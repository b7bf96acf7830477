theorem nz64 {a : Int32} (h : ¬ a = 0) : ¬ a.toInt64 = 0 := fun e => h (by
  have h1 := congrArg Int64.toInt e
  rw [Int32.toInt_toInt64] at h1
  rw [← Int32.toInt_inj, h1]
  decide)
theorem lpk_cast {b b' : Int32} {k n : Nat} (e : b' = b) (h : lpk b k n) : lpk b' k n := by rw [e]; exact h
theorem div_ti {a d : Int32} (ha : 0 ≤ a.toInt) (hd : 0 < d.toInt) : (a / d).toInt = a.toInt / d.toInt := by
  have h1 := a.toInt_lt
  have h2 : a.toInt / d.toInt ≤ a.toInt := Int.ediv_le_self _ ha
  have h3 : 0 ≤ a.toInt / d.toInt := Int.ediv_nonneg ha (by omega)
  rw [Int32.toInt_div, Int.tdiv_eq_ediv_of_nonneg ha]
  exact Int.bmod_eq_of_le (by omega) (by omega)
theorem tread_ok {g a : Int32} {b : Int} (h0 : 0 ≤ g.toInt) (h1 : g.toInt ≤ b) (hb : b ≤ 100000) (ha : ¬ a ≤ 0) : 0 ≤ (if (0 : Int32) < (g - (a / (100 : Int32))) then (g - (a / (100 : Int32))) else (0 : Int32)).toInt ∧ (if (0 : Int32) < (g - (a / (100 : Int32))) then (g - (a / (100 : Int32))) else (0 : Int32)).toInt ≤ b := by
  rw [Int32.le_iff_toInt_le, show (0 : Int32).toInt = 0 from by decide] at ha
  have h2 := a.toInt_lt
  have e : (a / 100).toInt = a.toInt / 100 := by rw [div_ti (by omega) (by decide), show (100 : Int32).toInt = 100 from by decide]
  have e2 : (g - a / 100).toInt = g.toInt - a.toInt / 100 := by rw [sub_ti (by rw [e]; omega) (by rw [e]; omega), e]
  split
  · rename_i h
    rw [Int32.lt_iff_toInt_lt, show (0 : Int32).toInt = 0 from by decide, e2] at h
    rw [e2]
    omega
  · rw [show (0 : Int32).toInt = 0 from by decide]
    omega
theorem eat_ok {g a : Int32} {b : Int} (h0 : 0 ≤ g.toInt) (h1 : g.toInt ≤ b) (hb : b ≤ 100000) (ha : 0 ≤ a.toInt) : 0 ≤ (g - (if a < g then a else g)).toInt ∧ (g - (if a < g then a else g)).toInt ≤ b := by
  split
  · rename_i h
    rw [Int32.lt_iff_toInt_lt] at h
    rw [sub_ti (by omega) (by omega)]
    omega
  · rw [sub_ti (by omega) (by omega)]
    omega
theorem nz_all {a g : Int32} (h0 : 0 ≤ g.toInt) (c : ¬ a ≤ (if a < g then a else g)) : ¬ a = 0 := by
  intro e
  subst e
  apply c
  split
  · exact Int32.le_refl _
  · rw [Int32.le_iff_toInt_le, show (0 : Int32).toInt = 0 from by decide]
    exact h0
theorem ti64 (x : Int32) : x.toInt64.toInt = x.toInt := Int32.toInt_toInt64 x
theorem add64 {x y : Int64} (h1 : -9223372036854775808 ≤ x.toInt + y.toInt) (h2 : x.toInt + y.toInt < 9223372036854775808) : (x + y).toInt = x.toInt + y.toInt := by
  rw [Int64.toInt_add]
  exact Int.bmod_eq_of_le (by omega) (by omega)
theorem mul64 {x y : Int64} (h1 : -9223372036854775808 ≤ x.toInt * y.toInt) (h2 : x.toInt * y.toInt < 9223372036854775808) : (x * y).toInt = x.toInt * y.toInt := by
  rw [Int64.toInt_mul]
  exact Int.bmod_eq_of_le (by omega) (by omega)
theorem to32 {x : Int64} (h1 : -2147483648 ≤ x.toInt) (h2 : x.toInt < 2147483648) : x.toInt32.toInt = x.toInt := by
  rw [Int64.toInt_toInt32]
  exact Int.bmod_eq_of_le (by omega) (by omega)
theorem one_ok (x : Int64) : 1 ≤ (if x < (1 : Int64) then (1 : Int64) else x).toInt := by
  split
  · decide
  · rename_i h
    rw [Int64.lt_iff_toInt_lt, show (1 : Int64).toInt = 1 from by decide] at h
    omega
theorem d1000 (P : Int64) : (P / (1000 : Int64)).toInt ≤ 10000000000000000 := by
  have h1 := P.toInt_lt
  have h2 := P.le_toInt
  have e : (1000 : Int64).toInt = 1000 := by decide
  rw [Int64.toInt_div, e]
  rcases Int.le_total 0 P.toInt with h | h
  · rw [Int.tdiv_eq_ediv_of_nonneg h, Int.bmod_eq_of_le (by omega) (by omega)]
    omega
  · obtain ⟨q, hq⟩ : ∃ q : Int, P.toInt = -q := ⟨-P.toInt, by omega⟩
    rw [hq, Int.neg_tdiv, Int.tdiv_eq_ediv_of_nonneg (by omega), Int.bmod_eq_of_le (by omega) (by omega)]
    omega
theorem one_le (P : Int64) : (if (P / (1000 : Int64)) < (1 : Int64) then (1 : Int64) else (P / (1000 : Int64))).toInt ≤ 10000000000000000 := by
  split
  · decide
  · exact d1000 P
theorem grow_ok {g f : Int32} {M : Int64} (h0 : 0 ≤ g.toInt) (h1 : ¬ f ≤ g) (hf : f.toInt ≤ 100000) (hM : 1 ≤ M.toInt) (hM2 : M.toInt ≤ 10000000000000000) : 0 ≤ ((if (g.toInt64 + M) < f.toInt64 then (g.toInt64 + M) else f.toInt64).toInt32).toInt ∧ ((if (g.toInt64 + M) < f.toInt64 then (g.toInt64 + M) else f.toInt64).toInt32).toInt ≤ f.toInt := by
  rw [Int32.le_iff_toInt_le] at h1
  have eg := ti64 g
  have ef := ti64 f
  have ea : (g.toInt64 + M).toInt = g.toInt + M.toInt := by rw [add64 (by omega) (by omega), eg]
  split
  · rename_i h
    rw [Int64.lt_iff_toInt_lt, ea, ef] at h
    rw [to32 (by omega) (by omega), ea]
    omega
  · rw [to32 (by omega) (by omega), ef]
    omega
theorem day_0 {d a : Int32} (hd : 0 ≤ d.toInt ∧ d.toInt ≤ ((720 : Nat) : Int)) (c : a ≤ (720 : Int32) - d) : d.toInt + a.toInt ≤ 720 := by
  have e : ((720 : Int32) - d).toInt = 720 - d.toInt := by rw [sub_ti (by rw [show (720 : Int32).toInt = 720 from by decide]; omega) (by rw [show (720 : Int32).toInt = 720 from by decide]; omega), show (720 : Int32).toInt = 720 from by decide]
  rw [Int32.le_iff_toInt_le, e] at c
  omega
theorem day_ok {d a : Int32} {k n : Nat} (h0 : 0 ≤ d.toInt) (hd : d.toInt + a.toInt - (k : Int) ≤ 720) (hk : lpk a k (n + 1)) : 0 ≤ (d + 1).toInt ∧ (d + 1).toInt ≤ ((720 : Nat) : Int) := by
  obtain ⟨h1, h2⟩ := hk
  rw [tn_toInt] at h1
  have e1 : (1 : Int32).toInt = 1 := by decide
  have h3 := d.toInt_lt
  rw [add_ti (by rw [e1]; omega) (by rw [e1]; omega), e1]
  omega
theorem day_next {d d' a : Int32} {k n : Nat} (e : d' = d + 1) (h0 : 0 ≤ d.toInt) (hd : d.toInt + a.toInt - (k : Int) ≤ 720) (hk : lpk a k (n + 1)) : d'.toInt + a.toInt - ((k + 1 : Nat) : Int) ≤ 720 := by
  obtain ⟨h1, h2⟩ := hk
  rw [tn_toInt] at h1
  have e1 : (1 : Int32).toInt = 1 := by decide
  have h3 := d.toInt_lt
  rw [e, add_ti (by rw [e1]; omega) (by rw [e1]; omega), e1]
  omega

theorem ph_ok {σ : St} (h : IR σ) (a : Int32) : 0 ≤ (s_X9_partsOfHerd σ a).toInt ∧ (s_X9_partsOfHerd σ a).toInt ≤ 4500 := by
  unfold s_X9_partsOfHerd
  have h1 := ir_37 h a.toNatClampNeg
  have hp : ∀ x : Int32, 0 ≤ (s_X9_partsOfSort x).toInt ∧ (s_X9_partsOfSort x).toInt ≤ 45 := by
    intro x
    unfold s_X9_partsOfSort
    split
    · decide
    · split <;> decide
  have h2 := hp (σ 36 a.toNatClampNeg)
  have h3 := Int.mul_le_mul h1.2 h2.2 h2.1 (by decide)
  have h4 := Int.mul_nonneg h1.1 h2.1
  rw [mul_ti (by omega) (by omega)]
  omega
theorem all_ok {a p : Int32} {k : Nat} (h : 0 ≤ a.toInt ∧ a.toInt ≤ 4500 * (k : Int) ∧ k ≤ 20) (hp : 0 ≤ p.toInt ∧ p.toInt ≤ 4500) (hk : k < 20) : 0 ≤ (a + p).toInt ∧ (a + p).toInt ≤ 4500 * ((k + 1 : Nat) : Int) ∧ k + 1 ≤ 20 := by
  rw [add_ti (by omega) (by omega)]
  omega
theorem k_lt {k n M : Nat} {b : Int32} (h : lpk b k (n + 1)) (hb : 0 ≤ b.toInt ∧ b.toInt ≤ (M : Int)) : k < M := by
  obtain ⟨h, h2⟩ := h
  rw [tn_toInt] at h
  omega

theorem vp_day {x : Int32} (h : 0 ≤ x.toInt ∧ x.toInt ≤ ((720 : Nat) : Int)) : vp_in x 721 := by
  rw [vp_in_iff]
  omega

