theorem slots_cast {σ τ : St} (h7 : τ 607 = σ 607) (h8 : τ 608 = σ 608) : s_X6_slots τ = s_X6_slots σ := by
  unfold s_X6_slots
  rw [h7, h8]
/-- a trial names pieces -/
def TR (σ : St) : Prop := ∀ k : Nat, k < (s_X6_slots σ).toNatClampNeg → vp_in (σ 602 k) 6
theorem TR_cast {σ τ : St} (h : TR σ) (h2 : τ 602 = σ 602) (h7 : τ 607 = σ 607) (h8 : τ 608 = σ 608) : TR τ := by
  intro k hk
  rw [slots_cast h7 h8] at hk
  rw [h2]
  exact h k hk
theorem upd_all {f : Nat → Int32} {P : Int32 → Prop} {i n : Nat} {x : Int32} (h : ∀ k, k < n → P (f k)) (hx : P x) : ∀ k, k < n → P (upd f i x k) := by
  intro k hk
  by_cases e : k = i
  · subst e; rw [pk_us]; exact hx
  · rw [pk_un e]; exact h k hk
theorem k_le0 {b : Int32} {k : Nat} (h : lpk b k 0) : b.toNatClampNeg ≤ k := by
  obtain ⟨h, _⟩ := h
  omega
theorem iterDR_fr {α β : Type} {P : α → β} {L : Nat → α → Sum α α} (h : ∀ k s t, L k s = .inr t → P t = P s) (g : ∀ k s t, L k s = .inl t → P t = P s) : ∀ n s, (∀ t, iterDR L n s = .inr t → P t = P s) ∧ (∀ t, iterDR L n s = .inl t → P t = P s) := by
  intro n
  induction n with
  | zero =>
    intro s
    exact ⟨fun t e => (by rw [← Sum.inr.inj e]), fun t e => (by cases e)⟩
  | succ n ih =>
    intro s
    have key : iterDR L (n + 1) s = iterDR1 L n (L n s) := rfl
    rw [key]
    cases e : L n s with
    | inl r => exact ⟨fun t e2 => (by cases e2), fun t e2 => by rw [← Sum.inl.inj e2]; exact g n s r e⟩
    | inr u => exact ⟨fun t e2 => ((ih u).1 t e2).trans (h n s u e), fun t e2 => ((ih u).2 t e2).trans (h n s u e)⟩
theorem iterDR_inv {α : Type} {P : α → Prop} {L : Nat → α → Sum α α} {N : Nat} (h : ∀ k s t, k < N → P s → L k s = .inr t → P t) (g : ∀ k s t, k < N → P s → L k s = .inl t → P t) : ∀ n s, n ≤ N → P s → (∀ t, iterDR L n s = .inr t → P t) ∧ (∀ t, iterDR L n s = .inl t → P t) := by
  intro n
  induction n with
  | zero =>
    intro s _ hs
    exact ⟨fun t e => by rw [← Sum.inr.inj e]; exact hs, fun t e => by cases e⟩
  | succ n ih =>
    intro s hn hs
    have key : iterDR L (n + 1) s = iterDR1 L n (L n s) := rfl
    rw [key]
    cases e : L n s with
    | inl r => exact ⟨fun t e2 => (by cases e2), fun t e2 => by rw [← Sum.inl.inj e2]; exact g n s r (by omega) hs e⟩
    | inr u => exact ⟨fun t e2 => (ih u (by omega) (h n s u (by omega) hs e)).1 t e2, fun t e2 => (ih u (by omega) (h n s u (by omega) hs e)).2 t e2⟩

theorem vw_next {τ : St} {k : Nat} (h : ∀ p : Nat, p < k → 0 ≤ (τ 604 p).toInt ∧ (τ 604 p).toInt < 16) : ∀ p : Nat, p < k + 1 → 0 ≤ (put τ 604 k (0 : Int32) 604 p).toInt ∧ (put τ 604 k (0 : Int32) 604 p).toInt < 16 := by
  intro p hp
  by_cases e : p = k
  · subst e; rw [put_same]; decide
  · rw [put_oth e]; exact h p (by omega)
theorem vw_at {τ : St} (h : ∀ p : Nat, p < 6 → 0 ≤ (τ 604 p).toInt ∧ (τ 604 p).toInt < 16) {x : Int32} (hx : vp_in x 6) : 0 ≤ (τ 604 x.toNatClampNeg).toInt ∧ (τ 604 x.toNatClampNeg).toInt < 16 := h _ (by rw [vp_in_iff] at hx; rw [tn_toInt]; omega)

theorem tr_0 {τ : St} {k : Nat} (h : ∀ j : Nat, j < k → vp_in (τ 602 j) 6) : ∀ j : Nat, j < k + 1 → vp_in (put τ 602 k (0 : Int32) 602 j) 6 := by
  intro j hj
  by_cases e : j = k
  · subst e; rw [put_same]; unfold vp_in; decide
  · rw [put_oth e]; exact h j (by omega)

theorem pl_hw1 {a b : Int32} (c : a = -1) (h1 : 1 ≤ b) (h2 : b ≤ 4) : (a = -1 ∧ 0 ≤ b.toInt ∧ b.toInt ≤ 4) ∨ (¬ a = -1 ∧ 0 ≤ b.toInt ∧ b.toInt ≤ 2) := by
  rw [Int32.le_iff_toInt_le] at h1 h2
  rw [show (1 : Int32).toInt = 1 from by decide] at h1
  rw [show (4 : Int32).toInt = 4 from by decide] at h2
  exact Or.inl ⟨c, by omega, by omega⟩
theorem pl_hw2 {a b : Int32} (c : ¬ a = -1) (h1 : 1 ≤ b) (h2 : b ≤ 2) : (a = -1 ∧ 0 ≤ b.toInt ∧ b.toInt ≤ 4) ∨ (¬ a = -1 ∧ 0 ≤ b.toInt ∧ b.toInt ≤ 2) := by
  rw [Int32.le_iff_toInt_le] at h1 h2
  rw [show (1 : Int32).toInt = 1 from by decide] at h1
  rw [show (2 : Int32).toInt = 2 from by decide] at h2
  exact Or.inr ⟨c, by omega, by omega⟩

