theorem own_rng {x n : Int32} {N : Nat} (h : 0 ≤ x.toInt ∧ x.toInt < n.toInt) (hn : 0 ≤ n.toInt ∧ n.toInt ≤ (N : Int)) : vp_in x N := by
  rw [vp_in_iff]
  omega
theorem own_inb {x n : Int32} (h : 0 ≤ x.toInt ∧ x.toInt < n.toInt) : x.toNatClampNeg < n.toNatClampNeg := by
  rw [tn_toInt, tn_toInt]
  omega
theorem lo_rng {x n : Int32} {N : Nat} (h : 0 ≤ x.toInt ∧ x.toInt < n.toInt) (hn : 0 ≤ n.toInt ∧ n.toInt ≤ (N : Int)) : vp_in x N := own_rng h hn
theorem iter_inv {α : Type} {L : Nat → α → α} (P : α → Prop) {N : Nat} (h : ∀ k s, k < N → P s → P (L k s)) : ∀ n k s, k + n ≤ N → P s → P (iter L n k s) := by
  intro n
  induction n with
  | zero => intro k s _ hs; exact hs
  | succ n ih => intro k s hk hs; exact ih (k + 1) _ (by omega) (h k s (by omega) hs)
theorem lo_k {k n : Nat} {b : Int32} (h : lpk b k (n + 1)) : 0 ≤ (nI k).toInt ∧ (nI k).toInt < b.toInt := by
  obtain ⟨h1, h2⟩ := h
  rw [tn_toInt] at h1
  rw [nI_toInt h2]
  omega

