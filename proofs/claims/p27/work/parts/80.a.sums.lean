/-! sums of ints over a stretch of naturals; loops that add or take away -/
def Sm (f : Nat → Int32) : Nat → Int32
  | 0 => 0
  | n + 1 => Sm f n + f n
theorem sm_ext {f g : Nat → Int32} : ∀ {n : Nat}, (∀ k, k < n → f k = g k) → Sm f n = Sm g n := by
  intro n
  induction n with
  | zero => intro _; rfl
  | succ n ih =>
    intro h
    show Sm f n + f n = Sm g n + g n
    rw [ih (fun k hk => h k (Nat.lt_succ_of_lt hk)), h n (Nat.lt_succ_self n)]
theorem sm_0 {f : Nat → Int32} : ∀ {n : Nat}, (∀ k, k < n → f k = 0) → Sm f n = 0 := by
  intro n
  induction n with
  | zero => intro _; rfl
  | succ n ih =>
    intro h
    show Sm f n + f n = 0
    rw [ih (fun k hk => h k (Nat.lt_succ_of_lt hk)), h n (Nat.lt_succ_self n), Int32.add_zero]
theorem sm_head (g : Nat → Int32) : ∀ n : Nat, Sm g (n + 1) = g 0 + Sm (fun i => g (i + 1)) n := by
  intro n
  induction n with
  | zero =>
    show (0 : Int32) + g 0 = g 0 + 0
    rw [Int32.zero_add, Int32.add_zero]
  | succ n ih =>
    show Sm g (n + 1) + g (n + 1) = g 0 + (Sm (fun i => g (i + 1)) n + g (n + 1))
    rw [ih, Int32.add_assoc]
theorem sm_split (f : Nat → Int32) (a : Nat) : ∀ b : Nat, Sm f (a + b) = Sm f a + Sm (fun i => f (a + i)) b := by
  intro b
  induction b with
  | zero =>
    show Sm f a = Sm f a + 0
    rw [Int32.add_zero]
  | succ b ih =>
    show Sm f (a + b) + f (a + b) = Sm f a + (Sm (fun i => f (a + i)) b + f (a + b))
    rw [ih, Int32.add_assoc]
theorem it_ind {α : Type} {L : Nat → α → α} {P : Nat → α → Prop} {s : α} (h0 : P 0 s) : ∀ n : Nat, (∀ k t, k < n → P k t → P (k + 1) (L k t)) → P n (iter L n 0 s) := by
  intro n
  induction n with
  | zero => intro _; exact h0
  | succ n ih =>
    intro h
    rw [iter_snoc, Nat.zero_add]
    exact h n _ (Nat.lt_succ_self n) (ih (fun k t hk ht => h k t (Nat.lt_succ_of_lt hk) ht))
theorem it_sim {α β : Type} {L : Nat → α → α} {M : Nat → β → β} {P : Nat → α → β → Prop} {s : α} {t : β} (h0 : P 0 s t) : ∀ n : Nat, (∀ k x y, k < n → P k x y → P (k + 1) (L k x) (M k y)) → P n (iter L n 0 s) (iter M n 0 t) := by
  intro n
  induction n with
  | zero => intro _; exact h0
  | succ n ih =>
    intro h
    rw [iter_snoc, iter_snoc, Nat.zero_add]
    exact h n _ _ (Nat.lt_succ_self n) (ih (fun k x y hk ht => h k x y (Nat.lt_succ_of_lt hk) ht))
theorem it_add {L : Nat → Int32 → Int32} {f : Nat → Int32} (h : ∀ k v, L k v = v + f k) (n : Nat) (v : Int32) : iter L n 0 v = v + Sm f n := by
  refine it_ind (P := fun k x => x = v + Sm f k) ?_ n (fun k t _ ht => ?_)
  · show v = v + 0
    rw [Int32.add_zero]
  · rw [h, ht]
    show v + Sm f k + f k = v + (Sm f k + f k)
    rw [Int32.add_assoc]
theorem it_sub {L : Nat → Int32 → Int32} {f : Nat → Int32} (h : ∀ k v, L k v = v - f k) (n : Nat) (v : Int32) : iter L n 0 v = v - Sm f n := by
  refine it_ind (P := fun k x => x = v - Sm f k) ?_ n (fun k t _ ht => ?_)
  · show v = v - 0
    rw [Int32.sub_zero]
  · rw [h, ht]
    show v - Sm f k - f k = v - (Sm f k + f k)
    rw [Int32.sub_sub]
theorem itC_none {α : Type} {L : Nat → α → Option α} (h : ∀ k v, L k v = none) (n k : Nat) (v : α) : iterC L n k v = v := by
  cases n with
  | zero => rfl
  | succ n =>
    show iterC1 L n k v (L k v) = v
    rw [h]
    rfl
theorem itC_sub {L : Nat → Int32 → Option Int32} {f : Nat → Int32} (h : ∀ k v, L k v = some (v - f k)) : ∀ (n k : Nat) (v : Int32), iterC L n k v = v - Sm (fun i => f (k + i)) n := by
  intro n
  induction n with
  | zero =>
    intro k v
    show v = v - 0
    rw [Int32.sub_zero]
  | succ n ih =>
    intro k v
    show iterC1 L n k v (L k v) = _
    rw [h]
    show iterC L n (k + 1) (v - f k) = _
    rw [ih, sm_head, Int32.sub_sub]
    have e : (fun i => f (k + 1 + i)) = (fun i => f (k + (i + 1))) := funext (fun i => by rw [show k + 1 + i = k + (i + 1) by omega])
    rw [e]
    rfl
/-! what is related: fields of the class and of the reference that are the same -/
def RE (σx σm : St) : Prop := σx 811 = σm 2 ∧ σx 812 = σm 3 ∧ σx 813 = σm 4 ∧ σx 814 = σm 5 ∧ σx 815 = σm 6 ∧ σx 816 = σm 1 ∧ σx 803 = σm 21 ∧ σx 0 = σm 25 ∧ σx 1 = σm 27 ∧ σx 2 = σm 28 ∧ σx 3 = σm 29 ∧ σx 5 = σm 31 ∧ σx 6 = σm 26 ∧ σx 8 = σm 33 ∧ σx 200 = σm 35 ∧ σx 201 = σm 36 ∧ σx 202 = σm 37 ∧ σx 203 = σm 38
/-- rights and herds of the reference, as they come about -/
def KR (σ : St) : Prop := (∀ i : Nat, σ 25 i = 1 → vp_in (σ 26 i) (σ 4 0).toNatClampNeg) ∧ (∀ i : Nat, i < (σ 5 0).toNatClampNeg → σ 31 i = -9 ∨ ∃ j : Nat, j < i ∧ σ 31 i = nI j ∧ σ 25 j = 0 ∧ ¬ σ 25 i = 0) ∧ (∀ i : Nat, 0 ≤ (σ 27 i).toInt ∧ (σ 27 i).toInt ≤ 10000) ∧ (∀ i : Nat, σ 25 i = 3 → vp_in (σ 30 i) (σ 2 0).toNatClampNeg) ∧ (∀ h : Nat, h < (σ 6 0).toNatClampNeg → σ 38 h = -1 ∨ vp_in (σ 38 h) (σ 2 0).toNatClampNeg)
theorem fo_eq {σx σm : St} (e : RE σx σm) {k : Nat} (hk : k < 2 ^ 31) : s_X0_isInForce σx k (σx 816 0) = s_X9_isInForce σm (nI k) := by
  obtain ⟨e1, e2, e3, e4, e5, e6, e7, e8, e9, e10, e11, e12, e13, e14, -⟩ := e
  unfold s_X0_isInForce s_X9_isInForce
  rw [nI_clamp hk, e6, e10, e11, e14]
def lent (σ : St) (r : Int32) (k : Nat) : Int32 := if σ 31 k = r then (if s_X9_isInForce σ (nI k) = 0 then 0 else σ 27 k) else 0
theorem pO_sum (σ : St) (r : Int32) : s_X9_partsOf σ r = if s_X9_isInForce σ r = 0 then 0 else σ 27 r.toNatClampNeg - Sm (lent σ r) (σ 5 0).toNatClampNeg := by
  unfold s_X9_partsOf s_X9_partsOf_c19
  rw [Nat.sub_zero]
  try dsimp only
  rw [it_sub (f := lent σ r) (fun k v => ?_)]
  unfold s_X9_partsOf_l19 lent
  try dsimp only
  split
  · split <;> rfl
  · rfl
def lentX (σ : St) (r : Int32) (k : Nat) : Int32 := if σ 5 k = r then (if s_X0_isInForce σ k (σ 816 0) = 0 then 0 else σ 1 k) else 0
theorem cP_sum (σ : St) (r : Int32) : s_X8_countingParts σ r = if s_X0_isInForce σ r.toNatClampNeg (σ 816 0) = 0 then 0 else if σ 0 r.toNatClampNeg = 0 then σ 1 r.toNatClampNeg - Sm (fun i => lentX σ r (r.toNatClampNeg + 1 + i)) ((σ 814 0).toNatClampNeg - (r.toNatClampNeg + 1)) else σ 1 r.toNatClampNeg := by
  unfold s_X8_countingParts s_X8_countingParts_c32
  try dsimp only
  by_cases h : σ 0 r.toNatClampNeg = 0
  · rw [if_pos h]
    rw [itC_sub (f := lentX σ r) (fun k v => ?_)]
    unfold s_X8_countingParts_l32 lentX
    try dsimp only
    rw [if_pos h]
    split
    · split
      · rw [Int32.sub_zero]
      · rfl
    · rw [Int32.sub_zero]
  · rw [if_neg h]
    rw [itC_none (fun k v => ?_)]
    unfold s_X8_countingParts_l32
    try dsimp only
    rw [if_neg h]
theorem nI_inj {a b : Nat} (ha : a < 2 ^ 31) (hb : b < 2 ^ 31) (h : nI a = nI b) : a = b := by
  have := congrArg Int32.toNatClampNeg h
  rwa [nI_clamp ha, nI_clamp hb] at this
theorem nI_ne9 {a : Nat} (ha : a < 2 ^ 31) : ¬ (-9 : Int32) = nI a := by
  intro h
  have h1 := congrArg Int32.toInt h
  rw [nI_toInt ha, show (-9 : Int32).toInt = -9 by decide] at h1
  omega
/-- none is lent out of a right that isn't gross, nor before it was made -/
theorem lent_0 {σ : St} (K : KR σ) {r k : Nat} (hr : r < 2 ^ 31) (hk : k < (σ 5 0).toNatClampNeg) (h : k ≤ r ∨ ¬ σ 25 r = 0) : lent σ (nI r) k = 0 := by
  unfold lent
  rw [if_neg]
  intro e
  rcases K.2.1 k hk with h9 | ⟨j, hj, ej, kj, -⟩
  · exact nI_ne9 hr (h9.symm.trans e)
  · have hk31 := Nat.lt_trans hk (tn_lt (σ 5 0))
    have hjr : j = r := nI_inj (by omega) hr (ej.symm.trans e)
    subst hjr
    rcases h with h | h
    · omega
    · exact h kj
/-- the parts that count: class and reference -/
theorem pt_eq {σx σm : St} (e : RE σx σm) (K : KR σm) {r : Nat} (hr : r < (σm 5 0).toNatClampNeg) : s_X8_countingParts σx (nI r) = s_X9_partsOf σm (nI r) := by
  have hr31 : r < 2 ^ 31 := Nat.lt_trans hr (tn_lt _)
  have hf := fo_eq e hr31
  have hx : ∀ k : Nat, k < 2 ^ 31 → lentX σx (nI r) k = lent σm (nI r) k := by
    intro k hk
    unfold lentX lent
    rw [fo_eq e hk, e.2.2.2.2.2.2.2.2.1, e.2.2.2.2.2.2.2.2.2.2.2.1]
  rw [cP_sum, pO_sum, nI_clamp hr31, hf, e.2.2.2.2.2.2.2.1, e.2.2.2.2.2.2.2.2.1, e.2.2.2.1]
  by_cases h0 : σm 25 r = 0
  · rw [if_pos h0]
    have hn : (σm 5 0).toNatClampNeg = (r + 1) + ((σm 5 0).toNatClampNeg - (r + 1)) := by omega
    have hs : Sm (lent σm (nI r)) (σm 5 0).toNatClampNeg = Sm (fun i => lentX σx (nI r) (r + 1 + i)) ((σm 5 0).toNatClampNeg - (r + 1)) := by
      rw [hn, sm_split, sm_0 (n := r + 1) (fun k hk => lent_0 K hr31 (by omega) (Or.inl (by omega))), Int32.zero_add, ← hn]
      exact sm_ext (fun k hk => (hx _ (by have := tn_lt (σm 5 0); omega)).symm)
    rw [hs]
  · rw [if_neg h0, sm_0 (fun k hk => lent_0 K hr31 hk (Or.inr h0)), Int32.sub_zero]
