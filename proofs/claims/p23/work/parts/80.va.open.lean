/-! turns: pieces that are open, as bits; who refuses -/
theorem tb_1 (i : Nat) : bt 1 i = decide (i = 0) := by
  rcases Nat.lt_or_ge i 32 with h | h
  · exact (by decide +kernel : ∀ i, i < 32 → bt 1 i = decide (i = 0)) i h
  · rw [b_big h, decide_eq_false (by omega)]
theorem tb_t (x : Int32) {j : Nat} (hj : j < 32) : ((x >>> (nI j &&& 31)) &&& (1 : Int32)) = if bt x j = true then 1 else 0 := by
  refine b_ext (fun i hi => ?_)
  rw [b_and, b_sshr j hj x hi, tb_1]
  by_cases h0 : i = 0
  · subst h0
    rw [if_pos (show j + 0 < 32 by omega), Nat.add_zero]
    cases e : bt x j with
    | true => rw [if_pos rfl, tb_1]; rfl
    | false => rw [if_neg (by decide), b_0]; rfl
  · rw [decide_eq_false h0, Bool.and_false]
    cases e : bt x j with
    | true => rw [if_pos rfl, tb_1, decide_eq_false h0]
    | false => rw [if_neg (by decide), b_0]
theorem tb_set (x : Int32) {k i : Nat} (hk : k < 32) (hi : i < 32) : bt (x ||| ((1 : Int32) <<< (nI k &&& 31))) i = (bt x i || decide (i = k)) := by
  rw [b_or, b_shl k hk 1 hi, tb_1]
  congr 1
  by_cases h : i = k
  · rw [decide_eq_true h, decide_eq_true (show k ≤ i by omega), decide_eq_true (show i - k = 0 by omega)]
    rfl
  · rw [decide_eq_false h]
    by_cases h2 : k ≤ i
    · rw [decide_eq_false (show ¬ i - k = 0 by omega), Bool.and_false]
    · rw [decide_eq_false h2, Bool.false_and]
theorem op_bit (σ : St) (d : Int32) (n6 : (σ 811 0).toNatClampNeg ≤ 6) {i : Nat} (hi : i < 32) : bt (s_X8_openPieces σ d) i = decide (i < (σ 811 0).toNatClampNeg ∧ s_X4_restsOn σ i d = 0) := by
  have e : s_X8_openPieces σ d = iter (s_X8_openPieces_l4 σ d) (σ 811 0).toNatClampNeg 0 (0 : Int32) := by
    unfold s_X8_openPieces s_X8_openPieces_c4
    rw [Nat.sub_zero]
  rw [e]
  have key := it_ind (L := s_X8_openPieces_l4 σ d) (P := fun k (v : Int32) => ∀ i, i < 32 → bt v i = decide (i < k ∧ s_X4_restsOn σ i d = 0)) (s := (0 : Int32)) (fun i _ => by rw [b_0, decide_eq_false (fun q => Nat.not_lt_zero i q.1)]) (σ 811 0).toNatClampNeg (fun k v hk ih i hi => by
    unfold s_X8_openPieces_l4
    try dsimp only
    by_cases h1 : s_X4_restsOn σ k d = 0
    · rw [if_pos h1, tb_set v (by omega) hi, ih i hi]
      by_cases h2 : i = k
      · subst h2
        rw [decide_eq_true (show i = i from rfl), Bool.or_true, decide_eq_true (show i < i + 1 ∧ s_X4_restsOn σ i d = 0 from ⟨by omega, h1⟩)]
      · rw [decide_eq_false h2, Bool.or_false]
        by_cases h3 : i < k ∧ s_X4_restsOn σ i d = 0
        · rw [decide_eq_true h3, decide_eq_true (show i < k + 1 ∧ s_X4_restsOn σ i d = 0 from ⟨by omega, h3.2⟩)]
        · rw [decide_eq_false h3, decide_eq_false (show ¬ (i < k + 1 ∧ s_X4_restsOn σ i d = 0) from fun q => h3 ⟨by omega, q.2⟩)]
    · rw [if_neg h1, ih i hi]
      by_cases h3 : i < k ∧ s_X4_restsOn σ i d = 0
      · rw [decide_eq_true h3, decide_eq_true (show i < k + 1 ∧ s_X4_restsOn σ i d = 0 from ⟨by omega, h3.2⟩)]
      · rw [decide_eq_false h3, decide_eq_false (show ¬ (i < k + 1 ∧ s_X4_restsOn σ i d = 0) from fun q => h3 ⟨by
          have : i ≠ k := fun z => h1 (by rw [← z]; exact q.2)
          have := q.1
          omega, q.2⟩)])
  exact key i hi
theorem op_0 (σ : St) (d : Int32) (n6 : (σ 811 0).toNatClampNeg ≤ 6) : s_X8_openPieces σ d = 0 ↔ ∀ p : Nat, p < (σ 811 0).toNatClampNeg → ¬ s_X4_restsOn σ p d = 0 := by
  constructor
  · intro h p hp q
    have b := op_bit σ d n6 (i := p) (by omega)
    rw [h, b_0, decide_eq_true (show p < (σ 811 0).toNatClampNeg ∧ s_X4_restsOn σ p d = 0 from ⟨hp, q⟩)] at b
    cases b
  · intro h
    refine b_ext (fun i hi => ?_)
    rw [op_bit σ d n6 hi, b_0, decide_eq_false (fun q => h i q.1 q.2)]
/-- class and reference: may a piece be taken -/
theorem mt_eq {σx σm : St} (e6 : σx 816 = σm 1) (g6 : σx 404 = σm 16) {p : Nat} (hp : p < 2 ^ 31) (s a4 : Int32) : (s_X4_restsOn σx p (σx 816 0 + 1 + s * a4) = 0) ↔ ¬ s_X9_mayTake σm s (nI p) a4 = 0 := by
  unfold s_X4_restsOn s_X9_mayTake
  rw [nI_clamp hp, e6, g6]
  by_cases h : σm 16 p < σm 1 0 + 1 + s * a4
  · rw [if_pos h, if_neg (Int32.not_le.mpr h)]
    exact ⟨fun _ => by decide, fun _ => rfl⟩
  · rw [if_neg h, if_pos (Int32.not_lt.mp h)]
    exact ⟨fun q => absurd q (by decide), fun q => absurd rfl q⟩
def opn (σ : St) (a4 : Int32) (s : Nat) : Prop := ∃ p : Nat, p < (σ 2 0).toNatClampNeg ∧ ¬ s_X9_mayTake σ (nI s) (nI p) a4 = 0
theorem any_eq {σ : St} {a4 : Int32} {s : Nat} {L : Nat → Int32 → Int32} (hL : ∀ k v, L k v = if v = 0 then (if s_X9_mayTake σ (nI s) (nI k) a4 = 0 then 0 else 1) else 1) (n : Nat) : ¬ iter L n 0 (0 : Int32) = 0 ↔ ∃ p : Nat, p < n ∧ ¬ s_X9_mayTake σ (nI s) (nI p) a4 = 0 := by
  refine it_ind (L := L) (P := fun k (v : Int32) => (¬ v = 0 ↔ ∃ p : Nat, p < k ∧ ¬ s_X9_mayTake σ (nI s) (nI p) a4 = 0)) ⟨fun h => absurd rfl h, fun ⟨p, hp, _⟩ => absurd hp (Nat.not_lt_zero p)⟩ n (fun k v _ ih => ?_)
  rw [hL]
  by_cases h1 : v = 0
  · rw [if_pos h1]
    have no : ∀ p : Nat, p < k → s_X9_mayTake σ (nI s) (nI p) a4 = 0 := fun p hp => Decidable.byContradiction (fun q => ih.mpr ⟨p, hp, q⟩ h1)
    by_cases h2 : s_X9_mayTake σ (nI s) (nI k) a4 = 0
    · rw [if_pos h2]
      refine ⟨fun q => absurd rfl q, fun ⟨p, hp, q⟩ => ?_⟩
      by_cases e : p = k
      · rw [e] at q
        exact absurd h2 q
      · exact absurd (no p (by omega)) q
    · rw [if_neg h2]
      exact ⟨fun _ => ⟨k, by omega, h2⟩, fun _ => by decide⟩
  · rw [if_neg h1]
    obtain ⟨p, hp, q⟩ := ih.mp h1
    exact ⟨fun _ => ⟨p, by omega, q⟩, fun _ => by decide⟩
theorem gd_eq {σ : St} {a4 : Int32} {L : Nat → Int32 → Option Int32} (hL : ∀ k v, (v = 0 → L k v = none) ∧ (¬ v = 0 → ∃ w, L k v = some w ∧ (¬ w = 0 ↔ opn σ a4 k))) : ∀ (n k : Nat) (v : Int32), ¬ iterC L n k v = 0 ↔ (¬ v = 0 ∧ ∀ s : Nat, k ≤ s → s < k + n → opn σ a4 s) := by
  intro n
  induction n with
  | zero =>
    intro k v
    exact ⟨fun h => ⟨h, fun s h1 h2 => by omega⟩, fun h => h.1⟩
  | succ n ih =>
    intro k v
    show ¬ iterC1 L n k v (L k v) = 0 ↔ _
    by_cases h1 : v = 0
    · rw [(hL k v).1 h1]
      exact ⟨fun h => absurd h1 h, fun h => absurd h1 h.1⟩
    · obtain ⟨w, e, hw⟩ := (hL k v).2 h1
      rw [e]
      show ¬ iterC L n (k + 1) w = 0 ↔ _
      rw [ih (k + 1) w]
      constructor
      · rintro ⟨q1, q2⟩
        refine ⟨h1, fun s a b => ?_⟩
        by_cases e2 : s = k
        · rw [e2]
          exact hw.mp q1
        · exact q2 s (by omega) (by omega)
      · rintro ⟨_, q2⟩
        exact ⟨hw.mpr (q2 k (by omega) (by omega)), fun s a b => q2 s (by omega) (by omega)⟩
theorem gx_eq {σx : St} {ρ : Type} {r : ρ} {c : Nat → Prop} {L : Nat → Unit → Sum ρ Unit} (hL : ∀ k, (c k → L k () = Sum.inr ()) ∧ (¬ c k → L k () = Sum.inl r)) : ∀ (n k : Nat), ((∀ s : Nat, k ≤ s → s < k + n → c s) → iterR L n k () = Sum.inr ()) ∧ ((¬ ∀ s : Nat, k ≤ s → s < k + n → c s) → iterR L n k () = Sum.inl r) := by
  intro n
  induction n with
  | zero => intro k; exact ⟨fun _ => rfl, fun h => absurd (fun s a b => by omega) h⟩
  | succ n ih =>
    intro k
    show (_ → iterR1 L n k (L k ()) = Sum.inr ()) ∧ (_ → iterR1 L n k (L k ()) = Sum.inl r)
    by_cases h1 : c k
    · rw [(hL k).1 h1]
      show (_ → iterR L n (k + 1) () = Sum.inr ()) ∧ (_ → iterR L n (k + 1) () = Sum.inl r)
      obtain ⟨i1, i2⟩ := ih (k + 1)
      refine ⟨fun h => i1 (fun s a b => h s (by omega) (by omega)), fun h => i2 (fun g => h (fun s a b => ?_))⟩
      by_cases e : s = k
      · rw [e]
        exact h1
      · exact g s (by omega) (by omega)
    · rw [(hL k).2 h1]
      exact ⟨fun h => absurd (h k (by omega) (by omega)) h1, fun _ => rfl⟩
