/-! counts; the greatest are picked one by one -/
def cn (P : Nat → Bool) : Nat → Nat
  | 0 => 0
  | n + 1 => cn P n + cond (P n) 1 0
theorem cn_le {P Q : Nat → Bool} : ∀ {n : Nat}, (∀ i, i < n → P i = true → Q i = true) → cn P n ≤ cn Q n := by
  intro n
  induction n with
  | zero => intro _; exact Nat.le_refl _
  | succ n ih =>
    intro h
    have a := ih (fun i hi => h i (by omega))
    show cn P n + cond (P n) 1 0 ≤ cn Q n + cond (Q n) 1 0
    cases e : P n with
    | false => show cn P n + 0 ≤ _; omega
    | true => rw [h n (by omega) e]; show cn P n + 1 ≤ cn Q n + 1; omega
theorem cn_lt {P Q : Nat → Bool} {j : Nat} (hp : P j = false) (hq : Q j = true) : ∀ {n : Nat}, j < n → (∀ i, i < n → P i = true → Q i = true) → cn P n < cn Q n := by
  intro n
  induction n with
  | zero => intro h; exact absurd h (Nat.not_lt_zero j)
  | succ n ih =>
    intro hj h
    show cn P n + cond (P n) 1 0 < cn Q n + cond (Q n) 1 0
    by_cases e : j = n
    · subst e
      rw [hp, hq]
      have := cn_le (n := j) (fun i hi => h i (by omega))
      show cn P j + 0 < cn Q j + 1
      omega
    · have a := ih (by omega) (fun i hi => h i (by omega))
      cases e2 : P n with
      | false => show cn P n + 0 < _; omega
      | true => rw [h n (by omega) e2]; show cn P n + 1 < cn Q n + 1; omega
theorem cn_add {P Q : Nat → Bool} {j : Nat} (hp : P j = false) (hq : Q j = true) (he : ∀ i, i ≠ j → Q i = P i) : ∀ {n : Nat}, j < n → cn Q n = cn P n + 1 := by
  intro n
  induction n with
  | zero => intro h; exact absurd h (Nat.not_lt_zero j)
  | succ n ih =>
    intro hj
    show cn Q n + cond (Q n) 1 0 = cn P n + cond (P n) 1 0 + 1
    by_cases e : j = n
    · subst e
      have same : ∀ m, m ≤ j → cn Q m = cn P m := by
        intro m
        induction m with
        | zero => intro _; rfl
        | succ m im =>
          intro hm
          show cn Q m + cond (Q m) 1 0 = cn P m + cond (P m) 1 0
          rw [im (by omega), he m (by omega)]
      rw [hp, hq, same j (Nat.le_refl j)]
      rfl
    · rw [ih (by omega), he n (fun q => e q.symm)]
      omega
theorem cn_sI (P : Nat → Bool) : ∀ n : Nat, sI (fun i => cond (P i) 1 0) n = (cn P n : Int) := by
  intro n
  induction n with
  | zero => rfl
  | succ n ih =>
    show sI (fun i => cond (P i) 1 0) n + cond (P n) 1 0 = ((cn P n + cond (P n) 1 0 : Nat) : Int)
    rw [ih]
    cases P n <;> rfl
theorem sI_ext {f g : Nat → Int} : ∀ {n : Nat}, (∀ k, k < n → f k = g k) → sI f n = sI g n := by
  intro n
  induction n with
  | zero => intro _; rfl
  | succ n ih =>
    intro h
    show sI f n + f n = sI g n + g n
    rw [ih (fun k hk => h k (by omega)), h n (by omega)]
theorem sI_mul (c : Int) (f : Nat → Int) : ∀ n : Nat, sI (fun i => c * f i) n = c * sI f n := by
  intro n
  induction n with
  | zero => show (0 : Int) = c * 0; rw [Int.mul_zero]
  | succ n ih =>
    show sI (fun i => c * f i) n + c * f n = c * (sI f n + f n)
    rw [ih, Int.mul_add]
theorem sI_plus (f g : Nat → Int) : ∀ n : Nat, sI (fun i => f i + g i) n = sI f n + sI g n := by
  intro n
  induction n with
  | zero => rfl
  | succ n ih =>
    show sI (fun i => f i + g i) n + (f n + g n) = (sI f n + f n) + (sI g n + g n)
    rw [ih]
    omega
theorem sI_bdd {f : Nat → Int} {c : Int} : ∀ {n : Nat}, (∀ h, h < n → f h ≤ c) → sI f n ≤ c * n := by
  intro n
  induction n with
  | zero => intro _; show (0 : Int) ≤ c * 0; omega
  | succ n ih =>
    intro hf
    have a := ih (fun h hh => hf h (by omega))
    have b := hf n (by omega)
    show sI f n + f n ≤ c * ((n + 1 : Nat) : Int)
    rw [show ((n + 1 : Nat) : Int) = (n : Int) + 1 from by omega, Int.mul_add, Int.mul_one]
    omega
theorem sI_low {f : Nat → Int} : ∀ {n : Nat}, (∀ h, h < n → 0 ≤ f h) → 0 ≤ sI f n := by
  intro n
  induction n with
  | zero => intro _; exact Int.le_refl _
  | succ n ih =>
    intro hf
    have a := ih (fun h hh => hf h (by omega))
    have b := hf n (by omega)
    show 0 ≤ sI f n + f n
    omega
theorem sm_ti {f : Nat → Int32} {B N : Nat} (hN : N * B < 2147483648) {n : Nat} (hn : n ≤ N) (hf : ∀ k, k < n → 0 ≤ (f k).toInt ∧ (f k).toInt ≤ (B : Int)) : (Sm f n).toInt = sI (fun k => (f k).toInt) n := by
  induction n with
  | zero => show (0 : Int32).toInt = 0; decide
  | succ n ih =>
    have a := ih (by omega) (fun k hk => hf k (by omega))
    have b := sm_bd hN (n := n) (by omega) (fun k hk => hf k (by omega))
    have c := hf n (by omega)
    have h3 : (n + 1) * B ≤ N * B := Nat.mul_le_mul_right B hn
    have h4 : (n + 1) * B = n * B + B := Nat.succ_mul n B
    show (Sm f n + f n).toInt = sI (fun k => (f k).toInt) n + (f n).toInt
    rw [add_ti (by omega) (by omega), a]
/-- o is ahead of i: its remainder is greater, or as great and its place is the lesser -/
def ah (r : Nat → Int) (o i : Nat) : Bool := decide (r i < r o ∨ (r o = r i ∧ o < i))
theorem ah_iff {r : Nat → Int} {o i : Nat} : ah r o i = true ↔ (r i < r o ∨ (r o = r i ∧ o < i)) := decide_eq_true_iff
theorem ah_self (r : Nat → Int) (i : Nat) : ah r i i = false := by
  cases e : ah r i i with
  | false => rfl
  | true => have := ah_iff.mp e; omega
/-- what k picks have taken -/
def UP (r : Nat → Int) (s k : Nat) (S : Nat → Bool) : Prop := cn S s = k ∧ ∀ i o, i < s → o < s → S i = true → ah r o i = true → S o = true
theorem up_0 (r : Nat → Int) (s : Nat) : UP r s 0 (fun _ => false) := by
  refine ⟨?_, fun i o _ _ h => by cases h⟩
  induction s with
  | zero => rfl
  | succ s ih => show cn (fun _ => false) s + 0 = 0; omega
theorem up_step {r : Nat → Int} {s k g : Nat} {S : Nat → Bool} (h : UP r s k S) (hg : g < s) (hS : S g = false) (hm : ∀ o, o < s → S o = false → r o ≤ r g ∧ (r o = r g → g ≤ o)) : UP r s (k + 1) (fun i => cond (Nat.beq i g) true (S i)) := by
  have b1 : Nat.beq g g = true := Nat.beq_refl g
  have b2 : ∀ i, i ≠ g → Nat.beq i g = false := fun i hi => by
    cases e : Nat.beq i g with
    | false => rfl
    | true => exact absurd (Nat.eq_of_beq_eq_true e) hi
  refine ⟨?_, fun i o hi ho q1 q2 => ?_⟩
  · rw [cn_add (P := S) (j := g) hS (by show cond (Nat.beq g g) true (S g) = true; rw [b1]; rfl) (fun i hi => by show cond (Nat.beq i g) true (S i) = S i; rw [b2 i hi]; rfl) hg, h.1]
  · show cond (Nat.beq o g) true (S o) = true
    by_cases eo : o = g
    · rw [eo, b1]; rfl
    · rw [b2 o eo]
      show S o = true
      by_cases ei : i = g
      · subst ei
        cases e : S o with
        | true => rfl
        | false =>
          have := hm o ho e
          have := ah_iff.mp q2
          omega
      · have q1 : cond (Nat.beq i g) true (S i) = true := q1
        rw [b2 i ei] at q1
        exact h.2 i o hi ho q1 q2
theorem up_end {r : Nat → Int} {s k i : Nat} {S : Nat → Bool} (h : UP r s k S) (hi : i < s) : S i = true ↔ cn (fun o => ah r o i) s < k := by
  constructor
  · intro q
    rw [← h.1]
    exact cn_lt (P := fun o => ah r o i) (Q := S) (j := i) (ah_self r i) q hi (fun o ho w => h.2 i o hi ho q w)
  · intro q
    cases e : S i with
    | true => rfl
    | false =>
      have : cn S s ≤ cn (fun o => ah r o i) s := cn_le (fun o ho w => by
        cases e2 : ah r o i with
        | true => rfl
        | false =>
          have ne : o ≠ i := fun z => by rw [z, e] at w; cases w
          have a : ah r i o = true := by
            cases e3 : ah r i o with
            | true => rfl
            | false =>
              have n1 : ¬ (r i < r o ∨ (r o = r i ∧ o < i)) := fun z => by rw [ah_iff.mpr z] at e2; cases e2
              have n2 : ¬ (r o < r i ∨ (r i = r o ∧ i < o)) := fun z => by rw [ah_iff.mpr z] at e3; cases e3
              omega
          have := h.2 o i ho hi w a
          rw [e] at this
          cases this)
      have := h.1
      omega
theorem itC_ind {α : Type} {L : Nat → α → Option α} {P : Nat → α → Prop} : ∀ (n k : Nat) (s : α), P k s → (∀ j t, j < k + n → P j t → ∃ u, L j t = some u ∧ P (j + 1) u) → P (k + n) (iterC L n k s) := by
  intro n
  induction n with
  | zero => intro k s h _; exact h
  | succ n ih =>
    intro k s h st
    obtain ⟨u, e, hu⟩ := st k s (by omega) h
    show P (k + (n + 1)) (iterC1 L n k s (L k s))
    rw [e, show k + (n + 1) = (k + 1) + n by omega]
    exact ih (k + 1) u hu (fun j t hj ht => st j t (by omega) ht)
/-! longs that fit an int -/
theorem i64_mul {a b : Int32} (h1 : -2147483648 ≤ a.toInt * b.toInt) (h2 : a.toInt * b.toInt < 2147483648) : a.toInt64 * b.toInt64 = (a * b).toInt64 := by
  rw [← Int64.toInt_inj, mul64 (by rw [ti64, ti64]; omega) (by rw [ti64, ti64]; omega), ti64, ti64, ti64, mul_ti h1 h2]
theorem i64_sub {a b : Int32} (h1 : -2147483648 ≤ a.toInt - b.toInt) (h2 : a.toInt - b.toInt < 2147483648) : a.toInt64 - b.toInt64 = (a - b).toInt64 := by
  rw [← Int64.toInt_inj, ti64, sub_ti h1 h2, Int64.toInt_sub, ti64, ti64]
  exact Int.bmod_eq_of_le (by omega) (by omega)
theorem i64_div {a d : Int32} (ha : 0 ≤ a.toInt) (hd : 0 < d.toInt) : a.toInt64 / d.toInt64 = (a / d).toInt64 := by
  have h1 := a.toInt_lt
  have h2 : a.toInt / d.toInt ≤ a.toInt := Int.ediv_le_self _ ha
  have h3 : 0 ≤ a.toInt / d.toInt := Int.ediv_nonneg ha (by omega)
  rw [← Int64.toInt_inj, ti64, div_ti ha hd, Int64.toInt_div, ti64, ti64, Int.tdiv_eq_ediv_of_nonneg ha]
  exact Int.bmod_eq_of_le (by omega) (by omega)
theorem i64_32 (a : Int32) : a.toInt64.toInt32 = a := by
  rw [← Int32.toInt_inj, to32 (by rw [ti64]; have := a.le_toInt; omega) (by rw [ti64]; have := a.toInt_lt; omega), ti64]
theorem i64_lt (a b : Int32) : (a.toInt64 < b.toInt64) ↔ a < b := by
  rw [Int64.lt_iff_toInt_lt, Int32.lt_iff_toInt_lt, ti64, ti64]
theorem i64_eq (a b : Int32) : (a.toInt64 = b.toInt64) ↔ a = b := by
  rw [← Int64.toInt_inj, ← Int32.toInt_inj, ti64, ti64]
