/-! turns: the table, a trial's hunger, the next trial -/
theorem sl_w {S : Nat} (h : S ≤ 4) : ((1 : Int32) <<< (nI S &&& 31)).toNatClampNeg = 2 ^ S := (by decide +kernel : ∀ S, S < 5 → ((1 : Int32) <<< (nI S &&& 31)).toNatClampNeg = 2 ^ S) S (by omega)
theorem or_m {k m : Nat} (hk : k < 4) (hm : m < 2 ^ k) : nI m ||| ((1 : Int32) <<< (nI k &&& 31)) = nI (m + 2 ^ k) := by
  have a : ∀ k, k < 4 → ∀ m, m < 16 → m < 2 ^ k → nI m ||| ((1 : Int32) <<< (nI k &&& 31)) = nI (m + 2 ^ k) := by decide +kernel
  have p : 2 ^ k ≤ 2 ^ 4 := Nat.pow_le_pow_right (by decide) (by omega)
  exact a k hk m (by omega) hm
theorem slots_eq {τ : St} {w A : Nat} (h7 : τ 607 0 = nI w) (h8 : τ 608 0 = nI A) (hS : w * A ≤ 4) (w2 : w ≤ 2) (A4 : A ≤ 4) : s_X6_slots τ = nI (w * A) := by
  unfold s_X6_slots
  rw [h7, h8, nI_mu (by omega) (by omega) (by omega)]
  by_cases c : nI (w * A) < 4
  · rw [if_pos c]
  · rw [if_neg c]
    rw [Int32.lt_iff_toInt_lt, nI_toInt (by omega), show (4 : Int32).toInt = 4 by decide] at c
    have : w * A = 4 := by omega
    rw [this]
    decide
theorem prow_at {σ : St} {k i : Nat} {x : Int32} (hk : k < 6) : prow σ k i x (620 + k) = upd (σ (620 + k)) i x := by
  show cond (Nat.ble 620 (620 + k) && Nat.ble (620 + k) 625 && Nat.beq (620 + k) (620 + k)) _ _ = _
  rw [Nat.ble_eq_true_of_le (show 620 ≤ 620 + k by omega), Nat.ble_eq_true_of_le (show 620 + k ≤ 625 by omega), Nat.beq_refl]
  rfl
theorem prow_ot {σ : St} {k q i : Nat} {x : Int32} (h : q ≠ k) : prow σ k i x (620 + q) = σ (620 + q) := by
  have e : Nat.beq (620 + q) (620 + k) = false := by
    cases e : Nat.beq (620 + q) (620 + k) with
    | false => rfl
    | true => exact absurd (Nat.eq_of_beq_eq_true e) (by omega)
  show cond (Nat.ble 620 (620 + q) && Nat.ble (620 + q) 625 && Nat.beq (620 + q) (620 + k)) _ _ = _
  rw [e, Bool.and_false]
  rfl
theorem prow_f {σ : St} {k i f : Nat} {x : Int32} (h : f < 620 ∨ 626 ≤ f) : prow σ k i x f = σ f := prow_fr (by omega) (by omega) (by omega) (by omega) (by omega) (by omega)
/-- the table: what is reckoned of a piece and a set of visits -/
theorem tab_eq {σ1 : St} {P S : Nat} {V : Nat → Nat → Int32} (P6 : P ≤ 6) (S4 : S ≤ 4) (h811 : (σ1 811 0).toNatClampNeg = P) (hsl : ∀ τ : St, τ 607 = σ1 607 → τ 608 = σ1 608 → s_X6_slots τ = nI S) (hV : ∀ (τ : St) (p v : Nat), (∀ f : Nat, (f < 300 ∨ 307 ≤ f) → (f < 620 ∨ 626 ≤ f) → τ f = σ1 f) → p < P → 0 < v → v < 2 ^ S → (s_X8_hungerOfVisits τ (nI p) (nI v)).1 = V p v) : (∀ f : Nat, (f < 300 ∨ 307 ≤ f) → (f < 620 ∨ 626 ≤ f) → s_X8_reckonTurns_c2 σ1 f = σ1 f) ∧ ∀ p v : Nat, p < P → 0 < v → v < 2 ^ S → s_X8_reckonTurns_c2 σ1 (620 + p) v = V p v := by
  have S16 : 2 ^ S ≤ 16 := by
    have : 2 ^ S ≤ 2 ^ 4 := Nat.pow_le_pow_right (by decide) S4
    omega
  have e : s_X8_reckonTurns_c2 σ1 = iter s_X8_reckonTurns_l50 P 0 σ1 := by
    unfold s_X8_reckonTurns_c2 s_X8_reckonTurns_c50
    try dsimp only
    rw [h811, Nat.sub_zero]
  rw [e]
  have key := it_ind (L := s_X8_reckonTurns_l50) (P := fun k (t : St) => (∀ f : Nat, (f < 300 ∨ 307 ≤ f) → (f < 620 ∨ 626 ≤ f) → t f = σ1 f) ∧ ∀ p v : Nat, p < k → 0 < v → v < 2 ^ S → t (620 + p) v = V p v) (s := σ1) ⟨fun _ _ _ => rfl, fun p _ h => absurd h (Nat.not_lt_zero p)⟩ P (fun k t hk ih => by
    obtain ⟨i1, i2⟩ := ih
    have ew : (s_X6_waysToVisit t).toNatClampNeg - 0 = 2 ^ S := by
      unfold s_X6_waysToVisit
      rw [hsl t (i1 607 (by decide) (by decide)) (i1 608 (by decide) (by decide)), sl_w S4, Nat.sub_zero]
    have el : s_X8_reckonTurns_l50 k t = iter (s_X8_reckonTurns_l60 k) (2 ^ S) 0 t := by
      unfold s_X8_reckonTurns_l50 s_X8_reckonTurns_c60
      try dsimp only
      rw [ew]
    rw [el]
    have inner := it_ind (L := s_X8_reckonTurns_l60 k) (P := fun j (y : St) => (∀ f : Nat, (f < 300 ∨ 307 ≤ f) → (f < 620 ∨ 626 ≤ f) → y f = σ1 f) ∧ (∀ p v : Nat, p < k → 0 < v → v < 2 ^ S → y (620 + p) v = V p v) ∧ ∀ v : Nat, 0 < v → v < j → y (620 + k) v = V k v) (s := t) ⟨i1, i2, fun v _ h => absurd h (Nat.not_lt_zero v)⟩ (2 ^ S) (fun j y hj ih => by
      obtain ⟨j1, j2, j3⟩ := ih
      by_cases c : j = 0
      · have e0 : s_X8_reckonTurns_l60 k j y = prow y k j 0 := by
          unfold s_X8_reckonTurns_l60
          try dsimp only
          rw [if_pos (by rw [c]; decide)]
        rw [e0]
        refine ⟨fun f a b => (prow_f b).trans (j1 f a b), fun p v hp a b => ?_, fun v a b => by omega⟩
        rw [prow_ot (by omega)]
        exact j2 p v hp a b
      · have nz : ¬ nI j = 0 := fun z => c (nI_inj (by omega) (by decide) (z.trans (by decide : (0 : Int32) = nI 0)))
        obtain ⟨hv, hhv⟩ : ∃ h, s_X8_hungerOfVisits y (nI k) (nI j) = h := ⟨_, rfl⟩
        have fh : ∀ f : Nat, (f < 300 ∨ 307 ≤ f) → hv.2 f = y f := fun f a => by
          rw [← hhv]
          exact fr_s_X8_hungerOfVisits y (nI k) (nI j) (by omega) (by omega) (by omega) (by omega) (by omega) (by omega) (by omega)
        have e0 : s_X8_reckonTurns_l60 k j y = prow hv.2 k j hv.1 := by
          unfold s_X8_reckonTurns_l60
          try dsimp only
          rw [if_neg nz, hhv]
        have val : hv.1 = V k j := by
          rw [← hhv]
          exact hV y k j j1 hk (by omega) hj
        rw [e0]
        refine ⟨fun f a b => (prow_f b).trans ((fh f a).trans (j1 f a b)), fun p v hp a b => ?_, fun v a b => ?_⟩
        · rw [prow_ot (by omega), fh (620 + p) (by omega)]
          exact j2 p v hp a b
        · rw [prow_at (by omega)]
          by_cases q : v = j
          · rw [q, pk_us, val]
          · rw [pk_un q, fh (620 + k) (by omega)]
            exact j3 v a (by omega))
    obtain ⟨k1, k2, k3⟩ := inner
    refine ⟨k1, fun p v hp a b => ?_⟩
    by_cases q : p = k
    · rw [q]
      exact k3 v a b
    · exact k2 p v (by omega) a b)
  exact key
/-- the visits of a trial: a bit for each slot -/
theorem vis_eq {τ : St} {S : Nat} (S4 : S ≤ 4) (hT : ∀ k, k < S → (τ 602 k).toNatClampNeg < 6) : ∃ (t : St) (m : Nat → Nat), iter s_X6_hungerOfTrial_l23 S 0 (iter s_X6_hungerOfTrial_l2 6 0 τ) = t ∧ (∀ f : Nat, f ≠ 604 → t f = τ f) ∧ ∀ p, p < 6 → t 604 p = nI (m p) ∧ m p < 2 ^ S ∧ ∀ j, j < S → ((m p).testBit j = true ↔ (τ 602 j).toNatClampNeg = p) := by
  have z := it_ind (L := s_X6_hungerOfTrial_l2) (P := fun k (t : St) => (∀ f : Nat, f ≠ 604 → t f = τ f) ∧ ∀ p, p < k → t 604 p = 0) (s := τ) ⟨fun _ _ => rfl, fun p h => absurd h (Nat.not_lt_zero p)⟩ 6 (fun k t _ ih => by
    unfold s_X6_hungerOfTrial_l2
    try dsimp only
    refine ⟨fun f q => (put_fr q).trans (ih.1 f q), fun p hp => ?_⟩
    show upd (t 604) k 0 p = 0
    by_cases q : p = k
    · rw [q, pk_us]
    · rw [pk_un q]
      exact ih.2 p (by omega))
  obtain ⟨t0, ht0⟩ : ∃ t, iter s_X6_hungerOfTrial_l2 6 0 τ = t := ⟨_, rfl⟩
  rw [ht0] at z ⊢
  have key := it_ind (L := s_X6_hungerOfTrial_l23) (P := fun k (t : St) => k ≤ S → (∀ f : Nat, f ≠ 604 → t f = τ f) ∧ ∃ m : Nat → Nat, ∀ p, p < 6 → t 604 p = nI (m p) ∧ m p < 2 ^ k ∧ ∀ j, j < k → ((m p).testBit j = true ↔ (τ 602 j).toNatClampNeg = p)) (s := t0) (fun _ => ⟨z.1, fun _ => 0, fun p hp => ⟨(z.2 p hp).trans (show (0 : Int32) = nI 0 by decide), (show 0 < 2 ^ 0 by decide), fun j hj => absurd hj (Nat.not_lt_zero j)⟩⟩) S (fun k t hk ih hk2 => by
    obtain ⟨i1, m, i2⟩ := ih (by omega)
    have q6 := hT k (by omega)
    obtain ⟨q, hq⟩ : ∃ q, (τ 602 k).toNatClampNeg = q := ⟨_, rfl⟩
    rw [hq] at q6
    have el : s_X6_hungerOfTrial_l23 k t = put t 604 q (nI (m q + 2 ^ k)) := by
      unfold s_X6_hungerOfTrial_l23
      try dsimp only
      rw [i1 602 (by decide), hq, (i2 q q6).1, or_m (by omega) (i2 q q6).2.1]
    rw [el]
    have pw : 2 ^ (k + 1) = 2 ^ k + 2 ^ k := by rw [Nat.pow_succ]; omega
    refine ⟨fun f a => (put_fr a).trans (i1 f a), fun p => if p = q then m q + 2 ^ k else m p, fun p hp => ?_⟩
    show upd (t 604) q (nI (m q + 2 ^ k)) p = nI (if p = q then m q + 2 ^ k else m p) ∧ (if p = q then m q + 2 ^ k else m p) < 2 ^ (k + 1) ∧ _
    by_cases e : p = q
    · subst e
      have b := i2 p hp
      rw [if_pos rfl, pk_us]
      refine ⟨rfl, by have := b.2.1; omega, fun j hj => ?_⟩
      show ((if p = p then m p + 2 ^ k else m p).testBit j = true ↔ _)
      rw [if_pos rfl]
      by_cases ej : j = k
      · subst ej
        rw [Nat.add_comm, Nat.testBit_two_pow_add_eq, Nat.testBit_lt_two_pow b.2.1]
        exact ⟨fun _ => hq, fun _ => rfl⟩
      · rw [Nat.add_comm, Nat.testBit_two_pow_add_gt (show j < k by omega)]
        exact b.2.2 j (by omega)
    · rw [if_neg e, pk_un e]
      have b := i2 p hp
      refine ⟨b.1, by have := b.2.1; omega, fun j hj => ?_⟩
      show ((if p = q then m q + 2 ^ k else m p).testBit j = true ↔ _)
      rw [if_neg e]
      by_cases ej : j = k
      · subst ej
        rw [Nat.testBit_lt_two_pow b.2.1, hq]
        exact ⟨fun z => (by cases z), fun z => absurd z.symm e⟩
      · exact b.2.2 j (by omega))
  obtain ⟨k1, m, k2⟩ := key (Nat.le_refl S)
  exact ⟨_, m, rfl, k1, k2⟩
theorem ht_eq {τ : St} {S : Nat} (S4 : S ≤ 4) (hs : s_X6_slots τ = nI S) (hsl : ∀ t : St, t 607 = τ 607 → t 608 = τ 608 → s_X6_slots t = nI S) (hT : ∀ k, k < S → (τ 602 k).toNatClampNeg < 6) {F : Nat → Int32} (hF : ∀ p m : Nat, p < 6 → m < 2 ^ S → (∀ j, j < S → (m.testBit j = true ↔ (τ 602 j).toNatClampNeg = p)) → (m = 0 → F p = 0) ∧ (0 < m → τ (620 + p) m = F p)) : (s_X6_hungerOfTrial τ).1 = Sm F 6 := by
  obtain ⟨t, m, e, f, v⟩ := vis_eq S4 hT
  have z6 : (6 : Int32).toNatClampNeg - 0 = 6 := by decide
  have fr0 : ∀ f : Nat, f ≠ 604 → iter s_X6_hungerOfTrial_l2 6 0 τ f = τ f := fun f q => iter_fr (P := fun s : St => s f) (L := s_X6_hungerOfTrial_l2) (fun k s => put_fr q) 6 0 τ
  have eh : (s_X6_hungerOfTrial τ).1 = iter (s_X6_hungerOfTrial_l58 t) 6 0 (0 : Int32) := by
    unfold s_X6_hungerOfTrial
    rw [z6]
    unfold s_X6_hungerOfTrial_c2
    try dsimp only
    rw [hsl _ (fr0 607 (by decide)) (fr0 608 (by decide)), nI_clamp (by omega), Nat.sub_zero, e]
    unfold s_X6_hungerOfTrial_c23 s_X6_hungerOfTrial_c58
    try dsimp only
    rw [z6]
  rw [eh, it_addB 6 (f := F) (fun p x hp => ?_), Int32.zero_add]
  obtain ⟨v1, v2, v3⟩ := v p hp
  have S16 : 2 ^ S ≤ 16 := by
    have : 2 ^ S ≤ 2 ^ 4 := Nat.pow_le_pow_right (by decide) S4
    omega
  have h := hF p (m p) hp v2 v3
  unfold s_X6_hungerOfTrial_l58
  try dsimp only
  rw [v1]
  by_cases c : m p = 0
  · rw [if_pos (by rw [c]; decide), h.1 c]
  · rw [if_neg (fun z => c (nI_inj (by omega) (by decide) (z.trans (by decide : (0 : Int32) = nI 0)))), nI_clamp (by omega), f (620 + p) (by omega), h.2 (by omega)]
