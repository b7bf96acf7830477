abbrev isW (a b : Int32) : Prop := 0 ≤ a.toInt ∧ a.toInt < 10 ∧ 0 ≤ b.toInt ∧ b.toInt < 10
def sp_piece (g f b : Int32) : Int32 := if g.toInt < 0 ∨ b.toInt < 0 ∨ f.toInt < 1 then -4 else if 100000 < f.toInt ∨ f.toInt < g.toInt ∨ 10000 < b.toInt then -6 else 0
def sp_owner (c : Int32) : Int32 := if c.toInt < 0 then -4 else if 100000 < c.toInt then -6 else 0
def sp_rate (a b r : Int32) : Int32 := if ¬ isW a b then -2 else if r.toInt < 0 then -4 else if 1000 < r.toInt then -6 else 0
def sp_weather (d a b : Int32) : Int32 := if ¬ isW a b then -2 else if d.toInt < 0 then -4 else if 720 < d.toInt then -6 else 1
def sp_right (k : Int32) : Int32 := if k.toInt < 0 ∨ 3 < k.toInt then -2 else -1
def sp_pass (n : Int32) : Int32 := if n.toInt < 1 then -4 else if 720 < n.toInt then -6 else 0
def sp_ownerOf (o w : Int32) : Int32 := if o.toInt = -1 then (if 0 ≤ w.toInt ∧ w.toInt ≤ 3 then 0 else -2) else -1
def sp_count (w : Int32) : Int32 := if 0 ≤ w.toInt ∧ w.toInt ≤ 9 then 0 else if 11 ≤ w.toInt ∧ w.toInt ≤ 16 then 0 else -9
theorem ix_a {a b : Int32} (h : isW a b) : vp_in (a * 10 + b) 100 := by
  obtain ⟨i, hi, rfl⟩ := vp_in_of (x := a) (n := 10) (vp_in_iff.mpr ⟨h.1, h.2.1⟩) (by decide)
  obtain ⟨j, hj, rfl⟩ := vp_in_of (x := b) (n := 10) (vp_in_iff.mpr ⟨h.2.2.1, h.2.2.2⟩) (by decide)
  have e : nI i * 10 + nI j = nI (i * 10 + j) := by rw [show (10 : Int32) = nI 10 from rfl, pk_mul, nI_add]
  rw [e]
  exact vp_in_nI (by omega) (by decide)
theorem ix_b {a b : Int32} (h : isW a b) : vp_in (10 * a + b) 100 := by
  obtain ⟨i, hi, rfl⟩ := vp_in_of (x := a) (n := 10) (vp_in_iff.mpr ⟨h.1, h.2.1⟩) (by decide)
  obtain ⟨j, hj, rfl⟩ := vp_in_of (x := b) (n := 10) (vp_in_iff.mpr ⟨h.2.2.1, h.2.2.2⟩) (by decide)
  have e : 10 * nI i + nI j = nI (10 * i + j) := by rw [show (10 : Int32) = nI 10 from rfl, pk_mul, nI_add]
  rw [e]
  exact vp_in_nI (by omega) (by decide)
theorem sub_ti {a b : Int32} (h1 : -2147483648 ≤ a.toInt - b.toInt) (h2 : a.toInt - b.toInt < 2147483648) : (a - b).toInt = a.toInt - b.toInt := by
  rw [Int32.toInt_sub, Int.bmod_def]
  split <;> omega
theorem ix_c {x : Int32} (h1 : 11 ≤ x.toInt) (h2 : x.toInt ≤ 16) : vp_in (x - 10) 7 := by
  rw [vp_in_iff, sub_ti (by rw [show (10 : Int32).toInt = 10 from by decide]; omega) (by rw [show (10 : Int32).toInt = 10 from by decide]; omega), show (10 : Int32).toInt = 10 from by decide]
  omega
