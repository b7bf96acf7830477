def iterDC {α : Type} (f : Nat → α → Option α) : Nat → α → Nat × α
  | 0, s => (0, s)
  | k + 1, s => match f k s with
    | none => (k + 1, s)
    | some t => iterDC f k t
def iterDC1 {α : Type} (f : Nat → α → Option α) (k : Nat) (s : α) (x : Option α) : Nat × α := match x with
  | none => (k + 1, s)
  | some t => iterDC f k t
theorem iterDC_fr {α β : Type} {P : α → β} {L : Nat → α → Option α} (h : ∀ k s t, L k s = some t → P t = P s) : ∀ n s, P (iterDC L n s).2 = P s := by
  intro n
  induction n with
  | zero => intro s; rfl
  | succ n ih =>
    intro s
    show P (iterDC1 L n s (L n s)).2 = P s
    cases e : L n s with
    | none => rfl
    | some t => exact (ih t).trans (h n s t e)
/-- the trial as a number to the base P -/
def vl (τ : St) (P : Nat) : Nat → Nat
  | 0 => 0
  | j + 1 => vl τ P j * P + (τ 47 j).toNatClampNeg
def okT (τ : St) (P PL : Nat) : Prop := ∀ i : Nat, i < PL → 0 ≤ (τ 47 i).toInt ∧ (τ 47 i).toNatClampNeg < P
theorem vl_eq {τ τ' : St} {P : Nat} : ∀ {n : Nat}, (∀ i, i < n → τ' 47 i = τ 47 i) → vl τ' P n = vl τ P n
  | 0, _ => rfl
  | n + 1, h => by
    show vl τ' P n * P + (τ' 47 n).toNatClampNeg = vl τ P n * P + (τ 47 n).toNatClampNeg
    rw [vl_eq (fun i hi => h i (by omega)), h n (by omega)]
theorem vl_lt {τ : St} {P : Nat} : ∀ {n : Nat}, okT τ P n → vl τ P n < P ^ n
  | 0, _ => by show 0 < P ^ 0; rw [Nat.pow_zero]; exact Nat.one_pos
  | n + 1, h => by
    have a := vl_lt (n := n) (fun i hi => h i (by omega))
    have b := (h n (by omega)).2
    show vl τ P n * P + (τ 47 n).toNatClampNeg < P ^ (n + 1)
    rw [Nat.pow_succ]
    have c : (vl τ P n + 1) * P ≤ P ^ n * P := Nat.mul_le_mul_right P a
    rw [Nat.succ_mul] at c
    omega
theorem vl_tail {τ : St} {P n : Nat} : ∀ {m : Nat}, (∀ i, n ≤ i → i < n + m → τ 47 i = 0) → vl τ P (n + m) = vl τ P n * P ^ m
  | 0, _ => by rw [Nat.pow_zero, Nat.mul_one]; rfl
  | m + 1, h => by
    have a := vl_tail (P := P) (m := m) (fun i h1 h2 => h i h1 (by omega))
    have b := h (n + m) (by omega) (by omega)
    show vl τ P (n + m) * P + (τ 47 (n + m)).toNatClampNeg = vl τ P n * P ^ (m + 1)
    rw [a, b, Nat.pow_succ, Nat.mul_assoc]
    rfl
/-- what is left of the way of a carry -/
def CV (τ0 τ : St) (P PL n : Nat) : Prop := n ≤ PL ∧ okT τ P PL ∧ (∀ i : Nat, n ≤ i → i < PL → τ 47 i = 0) ∧ vl τ0 P PL + 1 = (vl τ P n + 1) * P ^ (PL - n)
theorem cv_start {τ : St} {P PL : Nat} (h : okT τ P PL) : CV τ τ P PL PL := ⟨Nat.le_refl _, h, fun i h1 h2 => absurd h2 (Nat.not_lt.mpr h1), by rw [Nat.sub_self, Nat.pow_zero, Nat.mul_one]⟩
theorem put_47 {τ : St} {k i : Nat} {x : Int32} (h : i ≠ k) : put τ 47 k x 47 i = τ 47 i := by
  show upd (τ 47) k x i = τ 47 i
  exact pk_un h
theorem put_47s {τ : St} {k : Nat} {x : Int32} : put τ 47 k x 47 k = x := by
  show upd (τ 47) k x k = x
  exact pk_us
theorem cv_next {τ0 τ : St} {P PL k : Nat} {p : Int32} (hp : p.toNatClampNeg = P) (h0 : 0 ≤ p.toInt) (hp0 : 0 < P) (h : CV τ0 τ P PL (k + 1)) (c : τ 47 k = p - 1) : CV τ0 (put τ 47 k (0 : Int32)) P PL k := by
  obtain ⟨h1, h2, h3, h4⟩ := h
  have e1 : (1 : Int32).toInt = 1 := by decide
  have hd : (τ 47 k).toNatClampNeg + 1 = P := by
    rw [c, tn_toInt, sub_ti (by rw [e1]; have := p.toInt_lt; omega) (by rw [e1]; have := p.toInt_lt; omega), e1]
    rw [tn_toInt] at hp
    omega
  refine ⟨by omega, fun i hi => ?_, fun i hi hi2 => ?_, ?_⟩
  · by_cases e : i = k
    · subst e
      rw [put_47s]
      exact ⟨by decide, hp0⟩
    · rw [put_47 e]; exact h2 i hi
  · by_cases e : i = k
    · subst e; rw [put_47s]
    · rw [put_47 e]; exact h3 i (by omega) hi2
  · rw [h4, vl_eq (τ := τ) (τ' := put τ 47 k 0) (fun i hi => put_47 (by omega))]
    have e2 : vl τ P (k + 1) + 1 = (vl τ P k + 1) * P := by
      show vl τ P k * P + (τ 47 k).toNatClampNeg + 1 = _
      rw [Nat.succ_mul]
      omega
    rw [e2, Nat.mul_assoc, ← Nat.pow_succ', show (PL - (k + 1)).succ = PL - k from by omega]
theorem cv_done {τ0 τ : St} {P PL k : Nat} (h : CV τ0 τ P PL (k + 1)) {x : Int32} (hx : x.toNatClampNeg = (τ 47 k).toNatClampNeg + 1) : vl (put τ 47 k x) P PL = vl τ0 P PL + 1 := by
  obtain ⟨h1, h2, h3, h4⟩ := h
  have a := vl_tail (τ := put τ 47 k x) (P := P) (n := k + 1) (m := PL - (k + 1)) (fun i g1 g2 => by rw [put_47 (by omega)]; exact h3 i g1 (by omega))
  rw [show k + 1 + (PL - (k + 1)) = PL from by omega] at a
  rw [a, h4]
  have e : vl (put τ 47 k x) P (k + 1) = vl τ P (k + 1) + 1 := by
    show vl (put τ 47 k x) P k * P + (put τ 47 k x 47 k).toNatClampNeg = vl τ P k * P + (τ 47 k).toNatClampNeg + 1
    rw [vl_eq (τ := τ) (fun i hi => put_47 (by omega)), put_47s, hx]
    omega
  rw [e]
/-- how many rounds are left -/
def MS (v : Int32) (τ : St) (P PL n : Nat) : Prop := (v = 0 ∧ 1 ≤ n) ∨ (¬ v = 0 ∧ P ^ PL + 1 ≤ n + vl τ P PL)
theorem ms_zero {v : Int32} {τ : St} {P PL : Nat} (h : MS v τ P PL 0) (ht : okT τ P PL) : False := by
  have a := vl_lt ht
  rcases h with h | h
  · omega
  · omega
theorem ms_end {v : Int32} {τ τ' : St} {P PL n : Nat} (h : MS v τ P PL (n + 1)) (hv : ¬ v = 0) (ht : okT τ P PL) : MS (0 : Int32) τ' P PL n := by
  have a := vl_lt ht
  rcases h with h | h
  · exact absurd h.1 hv
  · exact Or.inl ⟨rfl, by omega⟩
theorem ms_next {v : Int32} {τ τ' : St} {P PL n : Nat} (h : MS v τ P PL (n + 1)) (hv : ¬ v = 0) (e : vl τ' P PL = vl τ P PL + 1) : MS (1 : Int32) τ' P PL n := by
  rcases h with h | h
  · exact absurd h.1 hv
  · exact Or.inr ⟨by decide, by rw [e]; omega⟩
theorem ms_start {τ : St} {P PL : Nat} : MS (1 : Int32) τ P PL (1 + P ^ PL) := Or.inr ⟨by decide, by omega⟩
theorem okT_cast {τ τ' : St} {P PL : Nat} (e : τ' 47 = τ 47) (h : okT τ P PL) : okT τ' P PL := fun i hi => by rw [e]; exact h i hi
theorem vl_cast {τ τ' : St} {P n : Nat} (e : τ' 47 = τ 47) : vl τ' P n = vl τ P n := vl_eq (fun i _ => by rw [e])
theorem okT_zero {τ : St} {P PL : Nat} (h : ∀ j : Nat, j < PL → τ 47 j = 0) (hp : 0 < P) : okT τ P PL := fun i hi => by rw [h i hi]; exact ⟨by decide, hp⟩
theorem tr_at {τ : St} {p : Int32} {PL k : Nat} (h : okT τ p.toNatClampNeg PL) (hp : 0 ≤ p.toInt ∧ p.toInt ≤ ((6 : Nat) : Int)) (hk : k < PL) : vp_in (τ 47 k) 6 := by
  have a := h k hk
  rw [tn_toInt, tn_toInt] at a
  rw [vp_in_iff]
  omega
theorem z_next {τ : St} {k : Nat} (h : ∀ j : Nat, j < k → τ 47 j = 0) : ∀ j : Nat, j < k + 1 → put τ 47 k (0 : Int32) 47 j = 0 := by
  intro j hj
  by_cases e : j = k
  · subst e; exact put_47s
  · rw [put_47 e]; exact h j (by omega)
theorem pl_ok {n s d : Int32} {m : Nat} (hn : (n = 1 ∧ m = 4) ∨ (n = 2 ∧ m = 2)) (h1 : 1 ≤ s) (h2 : s.toInt ≤ (m : Int)) (h3 : 1 ≤ d) (h4 : d ≤ 10) : okPl n s d := by
  rw [Int32.le_iff_toInt_le] at h1 h3 h4
  rw [show (1 : Int32).toInt = 1 from by decide] at h1 h3
  rw [show (10 : Int32).toInt = 10 from by decide] at h4
  refine ⟨?_, by omega, by omega⟩
  rcases hn with ⟨a, b⟩ | ⟨a, b⟩
  · subst b; exact Or.inl ⟨a, by omega, by omega⟩
  · subst b; exact Or.inr ⟨a, by omega, by omega⟩
theorem le_i {x y : Int32} {N : Nat} (h : x ≤ y) (hy : y.toInt = (N : Int)) : x.toInt ≤ (N : Int) := by
  rw [Int32.le_iff_toInt_le] at h
  omega
theorem plc_ok {n s d : Int32} (h : okPl n s d) : 0 ≤ (n * s).toInt ∧ (n * s).toInt ≤ ((4 : Nat) : Int) := by
  have e1 : (1 : Int32).toInt = 1 := by decide
  have e2 : (2 : Int32).toInt = 2 := by decide
  rcases h.1 with ⟨a, b, c⟩ | ⟨a, b, c⟩
  · subst a; rw [mul_ti (by rw [e1]; omega) (by rw [e1]; omega), e1]; omega
  · subst a; rw [mul_ti (by rw [e2]; omega) (by rw [e2]; omega), e2]; omega
theorem pl_day {n s d day x : Int32} (h : okPl n s d) (h0 : 0 ≤ day.toInt ∧ day.toInt ≤ ((720 : Nat) : Int)) (c : (day + s * d) ≤ (720 : Int32)) (e : x = day) : x.toInt + s.toInt * d.toInt ≤ 720 := by
  subst e
  have hs : 0 ≤ s.toInt ∧ s.toInt ≤ 4 := by rcases h.1 with ⟨a, b, c⟩ | ⟨a, b, c⟩ <;> omega
  have hd := h.2
  have p0 := Int.mul_nonneg hs.1 hd.1
  have p1 := Int.mul_le_mul hs.2 hd.2 hd.1 (by decide)
  have q : (s * d).toInt = s.toInt * d.toInt := mul_ti (by omega) (by omega)
  rw [Int32.le_iff_toInt_le, add_ti (by rw [q]; omega) (by rw [q]; omega), q, show (720 : Int32).toInt = 720 from by decide] at c
  exact c
theorem k_le0m {b : Int32} {k : Nat} (h : lpk b k 0) : b.toNatClampNeg ≤ k := by
  obtain ⟨h, _⟩ := h
  omega
theorem k_ltm {k n : Nat} {b : Int32} (h : lpk b k (n + 1)) : k < b.toNatClampNeg := by
  obtain ⟨h, h2⟩ := h
  omega
theorem jx_in {j : Nat} {x : Int32} (c : ¬ (nI j - (1 : Int32)) < 0) (hj : j ≤ x.toNatClampNeg) (hx : 0 ≤ x.toInt ∧ x.toInt ≤ ((4 : Nat) : Int)) : ∃ k : Nat, j = k + 1 ∧ nI j - 1 = nI k ∧ k < 4 := by
  cases j with
  | zero => exact absurd (by decide) c
  | succ k =>
    rw [tn_toInt] at hj
    exact ⟨k, rfl, nI_pred k, by omega⟩
theorem jx_rng {j : Nat} {x : Int32} (c : ¬ (nI j - (1 : Int32)) < 0) (hj : j ≤ x.toNatClampNeg) (hx : 0 ≤ x.toInt ∧ x.toInt ≤ ((4 : Nat) : Int)) : vp_in (nI j - 1) 8 := by
  obtain ⟨k, e1, e2, e3⟩ := jx_in c hj hx
  rw [e2]
  exact vp_in_nI (by omega) (by decide)
theorem j0_of {j : Nat} {x : Int32} (c : (nI j - (1 : Int32)) < 0) (hj : j ≤ x.toNatClampNeg) : j = 0 := by
  cases j with
  | zero => rfl
  | succ k => rw [nI_pred] at c; exact absurd c (nI_pos (by have := tn_lt x; omega))
/-- the last digit that moves -/
theorem cv_inc {τ0 τ : St} {p x : Int32} {j PL : Nat} (hp : 0 ≤ p.toInt ∧ p.toInt ≤ ((6 : Nat) : Int)) (h : CV τ0 τ p.toNatClampNeg PL j) (c : ¬ (nI j - (1 : Int32)) < 0) (hj : j ≤ x.toNatClampNeg) (hx : 0 ≤ x.toInt ∧ x.toInt ≤ ((4 : Nat) : Int)) (hd : j = 0 ∨ ¬ τ 47 (j - 1) = p - 1) : okT (put τ 47 (nI j - (1 : Int32)).toNatClampNeg (τ 47 (nI j - (1 : Int32)).toNatClampNeg + 1)) p.toNatClampNeg PL ∧ vl (put τ 47 (nI j - (1 : Int32)).toNatClampNeg (τ 47 (nI j - (1 : Int32)).toNatClampNeg + 1)) p.toNatClampNeg PL = vl τ0 p.toNatClampNeg PL + 1 := by
  obtain ⟨k, e1, e2, e3⟩ := jx_in c hj hx
  subst e1
  rw [e2, nI_clamp (by omega)]
  have hk := h.2.1 k (by have := h.1; omega)
  have hd2 : ¬ τ 47 k = p - 1 := by
    rcases hd with hd | hd
    · omega
    · exact hd
  have e4 : (1 : Int32).toInt = 1 := by decide
  have hk2 := hk
  rw [tn_toInt, tn_toInt] at hk2
  have q : (τ 47 k + 1).toInt = (τ 47 k).toInt + 1 := by rw [add_ti (by rw [e4]; omega) (by rw [e4]; omega), e4]
  have q2 : (p - 1).toInt = p.toInt - 1 := by rw [sub_ti (by rw [e4]; omega) (by rw [e4]; omega), e4]
  rw [← Int32.toInt_inj, q2] at hd2
  refine ⟨fun i hi => ?_, cv_done h (by rw [tn_toInt, tn_toInt, q]; omega)⟩
  by_cases e : i = k
  · subst e
    rw [put_47s, tn_toInt, tn_toInt, q]
    omega
  · rw [put_47 e]; exact h.2.1 i hi
theorem ne_k0 {b : Int32} {k : Nat} (h : lpk b k 0) (hb : 1 ≤ b) : ¬ k = 0 := by
  have a := k_le0m h
  rw [Int32.le_iff_toInt_le, show (1 : Int32).toInt = 1 from by decide] at hb
  rw [tn_toInt] at a
  omega

theorem pl_prod {n s d : Int32} (h : okPl n s d) : 0 ≤ s.toInt ∧ 0 ≤ n.toInt ∧ s.toInt * n.toInt ≤ 4 := by
  have e1 : (1 : Int32).toInt = 1 := by decide
  have e2 : (2 : Int32).toInt = 2 := by decide
  rcases h.1 with ⟨a, b, c⟩ | ⟨a, b, c⟩
  · subst a; rw [e1]; omega
  · subst a; rw [e2]; omega

