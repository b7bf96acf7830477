theorem iter_snoc {α : Type} (f : Nat → α → α) : ∀ (n k : Nat) (s : α), iter f (n + 1) k s = f (k + n) (iter f n k s) := by
  intro n
  induction n with
  | zero => intro k s; rfl
  | succ n ih =>
    intro k s
    have e : iter f (n + 1 + 1) k s = iter f (n + 1) (k + 1) (f k s) := rfl
    rw [e, ih (k + 1) (f k s), show k + 1 + n = k + (n + 1) from by omega]
    rfl
theorem iterR_fr {α β ρ : Type} {P : α → β} {Q : ρ → β} {L : Nat → α → Sum ρ α} (h : ∀ k s, Sum.elim Q P (L k s) = P s) : ∀ n k s, Sum.elim Q P (iterR L n k s) = P s := by
  intro n
  induction n with
  | zero => intro k s; rfl
  | succ n ih =>
    intro k s
    show Sum.elim Q P (iterR1 L n k (L k s)) = P s
    rw [← h k s]
    cases e : L k s with
    | inl r => rfl
    | inr t => exact ih (k + 1) t
def sI (f : Nat → Int) : Nat → Int
  | 0 => 0
  | n + 1 => sI f n + f n
theorem sI_drop {f g : Nat → Int} {j : Nat} : ∀ {n : Nat}, (∀ h, h < n → g h = if h = j then 0 else f h) → sI g n + (if j < n then f j else 0) = sI f n
  | 0, _ => rfl
  | n + 1, hg => by
    have ih := sI_drop (n := n) (fun h hh => hg h (by omega))
    have e := hg n (by omega)
    show sI g n + g n + _ = sI f n + f n
    rw [e]
    by_cases h1 : n = j
    · subst h1
      rw [if_pos rfl, if_pos (by omega)]
      rw [if_neg (by omega)] at ih
      omega
    · rw [if_neg h1]
      by_cases h2 : j < n
      · rw [if_pos (by omega)]
        rw [if_pos h2] at ih
        omega
      · rw [if_neg (by omega)]
        rw [if_neg h2] at ih
        omega
theorem sI_zero {f : Nat → Int} : ∀ {n : Nat}, (∀ h, h < n → f h = 0) → sI f n = 0
  | 0, _ => rfl
  | n + 1, hf => by
    show sI f n + f n = 0
    rw [sI_zero (fun h hh => hf h (by omega)), hf n (by omega)]
    rfl
theorem sI_nonneg {f : Nat → Int} (hf : ∀ h, 0 ≤ f h) : ∀ n, 0 ≤ sI f n
  | 0 => Int.le_refl _
  | n + 1 => by
    have := sI_nonneg hf n
    have := hf n
    show 0 ≤ sI f n + f n
    omega
theorem sI_le {f : Nat → Int} {c : Int} (hf : ∀ h, f h ≤ c) : ∀ n : Nat, sI f n ≤ c * n
  | 0 => by show (0 : Int) ≤ c * 0; omega
  | n + 1 => by
    have a := sI_le hf n
    have b := hf n
    show sI f n + f n ≤ c * ((n + 1 : Nat) : Int)
    rw [show ((n + 1 : Nat) : Int) = (n : Int) + 1 from by omega, Int.mul_add, Int.mul_one]
    omega
/-- a herd on piece p that went out ahead of order b -/
def onP (σ : St) (p b : Int32) (h : Nat) : Prop := ¬ s_X9_isOut σ (nI h) = 0 ∧ σ 38 h = p ∧ ¬ b ≤ σ 39 h
noncomputable def onV (σ : St) (p b : Int32) (h : Nat) : Int := if ¬ s_X9_isOut σ (nI h) = 0 ∧ σ 38 h = p ∧ ¬ b ≤ σ 39 h then (s_X9_partsOfHerd σ (nI h)).toInt else 0
noncomputable def onC (σ : St) (p b : Int32) (h : Nat) : Int := if ¬ s_X9_isOut σ (nI h) = 0 ∧ σ 38 h = p ∧ ¬ b ≤ σ 39 h then 1 else 0
/-- a herd is out -/
def oP (σ : St) (h : Nat) : Prop := σ 41 h = 0 ∧ ¬ σ 38 h < 0
theorem isOut_oP {σ : St} {h : Nat} (hh : h < 2 ^ 31) (g : ¬ s_X9_isOut σ (nI h) = 0) : oP σ h := by
  unfold s_X9_isOut at g
  rw [nI_clamp hh] at g
  split at g
  · rename_i h1
    split at g
    · exact absurd rfl g
    · rename_i h2
      exact ⟨h1, h2⟩
  · exact absurd rfl g
/-- the orders of the herds that are out are apart, and below the next one; a herd in the pound, or lost, is on no piece -/
def JR (σ : St) : Prop := (∀ k : Nat, 0 ≤ (σ 15 k).toInt) ∧ (∀ h : Nat, h < (σ 6 0).toNatClampNeg → oP σ h → ¬ σ 7 0 ≤ σ 39 h) ∧ (∀ h j : Nat, h < (σ 6 0).toNatClampNeg → j < (σ 6 0).toNatClampNeg → h ≠ j → oP σ h → oP σ j → ¬ σ 39 h = σ 39 j) ∧ (∀ h : Nat, h < (σ 6 0).toNatClampNeg → ¬ σ 41 h = 0 → σ 38 h < 0)
def OV (σ : St) (p left b : Int32) (n : Nat) : Prop := left.toInt = sI (onV σ p b) (σ 6 0).toNatClampNeg ∧ sI (onC σ p b) (σ 6 0).toNatClampNeg < (n : Int)
theorem onC_0 (σ : St) (p b : Int32) (h : Nat) : 0 ≤ onC σ p b h := by unfold onC; split <;> decide
theorem onC_1 (σ : St) (p b : Int32) (h : Nat) : onC σ p b h ≤ 1 := by unfold onC; split <;> decide
theorem ov_zero {σ : St} {p left b : Int32} (h : OV σ p left b 0) : False := by
  have a := h.2
  have b2 := sI_nonneg (onC_0 σ p b) (σ 6 0).toNatClampNeg
  omega

theorem v6_in {x : Int32} (h : 0 ≤ x) (g : x.toInt < 20) : vp_in x 20 := by
  rw [Int32.le_iff_toInt_le, show (0 : Int32).toInt = 0 from by decide] at h
  rw [vp_in_iff]
  omega
theorem v6_k {x : Int32} (h : vp_in x 20) : x.toInt < 20 := (vp_in_iff.mp h).2

