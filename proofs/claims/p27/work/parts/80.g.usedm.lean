/-! the reference finds the rights that are used -/
theorem itD_ind {α : Type} {L : Nat → α → α} {P : Nat → α → Prop} : ∀ (n : Nat) (s : α), P n s → (∀ k t, k < n → P (k + 1) t → P k (L k t)) → P 0 (iterD L n s) := by
  intro n
  induction n with
  | zero => exact fun s h _ => h
  | succ n ih => exact fun s h st => ih (L n s) (st n s (Nat.lt_succ_self n) h) (fun k t hk ht => st k t (Nat.lt_succ_of_lt hk) ht)
theorem l42_1 {r : Nat} (k : Nat) (t : St) (hf : ¬ s_X9_isInForce t (nI r) = 0) : ∃ v : Int32, s_X9_lapses_l42 r k t = some (put t 34 r v) ∧ (¬ v = 0 ↔ (¬ t 34 r = 0 ∨ (t 31 k = nI r ∧ ¬ t 34 k = 0))) := by
  unfold s_X9_lapses_l42
  try dsimp only
  rw [if_neg hf]
  by_cases a1 : t 34 r = 0
  · rw [if_pos a1]
    by_cases a2 : t 31 k = nI r
    · rw [if_pos a2]
      by_cases a3 : t 34 k = 0
      · rw [if_pos a3]
        exact ⟨0, rfl, fun q => absurd rfl q, fun q => q.elim (fun w => absurd a1 w) (fun w => absurd a3 w.2)⟩
      · rw [if_neg a3]
        exact ⟨1, rfl, fun _ => Or.inr ⟨a2, a3⟩, fun _ => by decide⟩
    · rw [if_neg a2]
      exact ⟨0, rfl, fun q => absurd rfl q, fun q => q.elim (fun w => absurd a1 w) (fun w => absurd w.1 a2)⟩
  · rw [if_neg a1]
    exact ⟨1, rfl, fun _ => Or.inl a1, fun _ => by decide⟩
theorem l42_eq {r : Nat} : ∀ (c k : Nat) (t : St), r < k → (∀ f : Nat, f ≠ 34 → iterC (s_X9_lapses_l42 r) c k t f = t f) ∧ (∀ j : Nat, j ≠ r → iterC (s_X9_lapses_l42 r) c k t 34 j = t 34 j) ∧ (¬ iterC (s_X9_lapses_l42 r) c k t 34 r = 0 ↔ (¬ t 34 r = 0 ∨ (¬ s_X9_isInForce t (nI r) = 0 ∧ ∃ q : Nat, k ≤ q ∧ q < k + c ∧ t 31 q = nI r ∧ ¬ t 34 q = 0))) := by
  intro c
  induction c with
  | zero => exact fun k t hk => ⟨fun _ _ => rfl, fun _ _ => rfl, fun h => Or.inl h, fun h => h.elim id (fun ⟨_, q, a, b, _⟩ => absurd b (by omega))⟩
  | succ c ih =>
    intro k t hk
    have es : iterC (s_X9_lapses_l42 r) (c + 1) k t = iterC1 (s_X9_lapses_l42 r) c k t (s_X9_lapses_l42 r k t) := rfl
    by_cases hf : s_X9_isInForce t (nI r) = 0
    · have en : s_X9_lapses_l42 r k t = none := by
        unfold s_X9_lapses_l42
        try dsimp only
        rw [if_pos hf]
      rw [es, en]
      exact ⟨fun _ _ => rfl, fun _ _ => rfl, fun h => Or.inl h, fun h => h.elim id (fun w => absurd hf w.1)⟩
    · obtain ⟨v, e1, e2⟩ := l42_1 k t hf
      rw [es, e1]
      show (∀ f : Nat, f ≠ 34 → iterC (s_X9_lapses_l42 r) c (k + 1) (put t 34 r v) f = t f) ∧ (∀ j : Nat, j ≠ r → iterC (s_X9_lapses_l42 r) c (k + 1) (put t 34 r v) 34 j = t 34 j) ∧ (¬ iterC (s_X9_lapses_l42 r) c (k + 1) (put t 34 r v) 34 r = 0 ↔ _)
      obtain ⟨i1, i2, i3⟩ := ih (k + 1) (put t 34 r v) (by omega)
      have ef : s_X9_isInForce (put t 34 r v) (nI r) = s_X9_isInForce t (nI r) := rfl
      refine ⟨fun f q => (i1 f q).trans (put_fr q), fun j q => (i2 j q).trans (put_oth q), i3.trans ?_⟩
      rw [put_same, ef]
      constructor
      · rintro (a | ⟨a, q, b1, b2, b3, b4⟩)
        · rcases e2.mp a with a | ⟨a, b⟩
          · exact Or.inl a
          · exact Or.inr ⟨hf, k, Nat.le_refl k, by omega, a, b⟩
        · have b4 : ¬ put t 34 r v 34 q = 0 := b4
          rw [put_oth (show q ≠ r by omega)] at b4
          exact Or.inr ⟨hf, q, by omega, by omega, b3, b4⟩
      · rintro (a | ⟨a, q, b1, b2, b3, b4⟩)
        · exact Or.inl (e2.mpr (Or.inl a))
        · by_cases hq : q = k
          · subst hq
            exact Or.inl (e2.mpr (Or.inr ⟨b3, b4⟩))
          · exact Or.inr ⟨hf, q, by omega, by omega, b3, by rw [put_oth (show q ≠ r by omega)]; exact b4⟩
section C3
variable {t σ : St}
theorem c3_fo (h : ∀ f : Nat, f ≠ 34 → f ≠ 32 → t f = σ f) (a : Int32) : s_X9_isInForce t a = s_X9_isInForce σ a := by
  unfold s_X9_isInForce
  rw [h 33 (by decide) (by decide), h 1 (by decide) (by decide), h 28 (by decide) (by decide), h 29 (by decide) (by decide)]
theorem c3_pO (h : ∀ f : Nat, f ≠ 34 → f ≠ 32 → t f = σ f) (a : Int32) : s_X9_partsOf t a = s_X9_partsOf σ a := by
  have hl : ∀ k : Nat, lent t a k = lent σ a k := by
    intro k
    unfold lent
    rw [c3_fo h, h 31 (by decide) (by decide), h 27 (by decide) (by decide)]
  rw [pO_sum, pO_sum, c3_fo h, h 27 (by decide) (by decide), h 5 (by decide) (by decide), sm_ext (fun k _ => hl k)]
theorem c3_as (h : ∀ f : Nat, f ≠ 34 → f ≠ 32 → t f = σ f) (a : Int32) : s_X9_isAsked t a = s_X9_isAsked σ a := by
  have e : s_X9_isAsked_l11 t a = s_X9_isAsked_l11 σ a := by
    funext k x
    unfold s_X9_isAsked_l11 s_X9_isOut s_X9_ownerOfRight
    rw [h 41 (by decide) (by decide), h 38 (by decide) (by decide), h 35 (by decide) (by decide), h 25 (by decide) (by decide), h 21 (by decide) (by decide), h 26 (by decide) (by decide), h 36 (by decide) (by decide), h 30 (by decide) (by decide)]
  unfold s_X9_isAsked
  rw [e, h 6 (by decide) (by decide)]
end C3
def usd (σ : St) (r : Nat) : Prop := act σ r ∨ (¬ s_X9_isInForce σ (nI r) = 0 ∧ ∃ q : Nat, r < q ∧ q < (σ 5 0).toNatClampNeg ∧ σ 31 q = nI r ∧ act σ q)
/-- out of a lent right nothing is lent -/
theorem us_l {σ : St} (K : KR σ) {r q : Nat} (hr : r < 2 ^ 31) (hq : q < (σ 5 0).toNatClampNeg) (e : σ 31 q = nI r) : usd σ q ↔ act σ q := by
  refine ⟨fun h => ?_, fun h => Or.inl h⟩
  rcases h with h | ⟨-, w, w1, w2, w3, -⟩
  · exact h
  · have n31 := tn_lt (σ 5 0)
    rcases K.2.1 w w2 with h9 | ⟨j, j1, j2, j3, -⟩
    · exact absurd (h9.symm.trans w3) (nI_ne9 (by omega))
    · have ejq : j = q := nI_inj (by omega) (by omega) (j2.symm.trans w3)
      subst ejq
      rcases K.2.1 j hq with h9 | ⟨_, _, _, _, j4⟩
      · exact absurd (h9.symm.trans e) (nI_ne9 hr)
      · exact absurd j3 j4
theorem lu_eq (σ : St) (K : KR σ) : (∀ f : Nat, f ≠ 34 → f ≠ 32 → iterD s_X9_lapses_l7 (σ 5 0).toNatClampNeg σ f = σ f) ∧ (∀ j : Nat, ((j < (σ 5 0).toNatClampNeg ∧ usd σ j) → iterD s_X9_lapses_l7 (σ 5 0).toNatClampNeg σ 32 j = σ 1 0) ∧ (¬ (j < (σ 5 0).toNatClampNeg ∧ usd σ j) → iterD s_X9_lapses_l7 (σ 5 0).toNatClampNeg σ 32 j = σ 32 j)) := by
  have n31 := tn_lt (σ 5 0)
  have key := itD_ind (L := s_X9_lapses_l7) (P := fun r (t : St) => (∀ f : Nat, f ≠ 34 → f ≠ 32 → t f = σ f) ∧ (∀ j : Nat, r ≤ j → j < (σ 5 0).toNatClampNeg → (¬ t 34 j = 0 ↔ usd σ j)) ∧ (∀ j : Nat, ((r ≤ j ∧ j < (σ 5 0).toNatClampNeg ∧ usd σ j) → t 32 j = σ 1 0) ∧ (¬ (r ≤ j ∧ j < (σ 5 0).toNatClampNeg ∧ usd σ j) → t 32 j = σ 32 j))) (σ 5 0).toNatClampNeg σ ⟨fun _ _ _ => rfl, fun j a b => absurd b (by omega), fun j => ⟨fun a => absurd a.2.1 (by omega), fun _ => rfl⟩⟩ (fun r t hr ih => ?_)
  · exact ⟨key.1, fun j => ⟨fun a => (key.2.2 j).1 ⟨Nat.zero_le j, a⟩, fun a => (key.2.2 j).2 (fun w => a w.2)⟩⟩
  obtain ⟨hf, h34, h32⟩ := ih
  have go : ∀ y0 : Int32, (¬ y0 = 0 ↔ act σ r) → (∀ f : Nat, f ≠ 34 → f ≠ 32 → s_X9_lapses_j37 r t y0 f = σ f) ∧ (∀ j : Nat, r ≤ j → j < (σ 5 0).toNatClampNeg → (¬ s_X9_lapses_j37 r t y0 34 j = 0 ↔ usd σ j)) ∧ (∀ j : Nat, ((r ≤ j ∧ j < (σ 5 0).toNatClampNeg ∧ usd σ j) → s_X9_lapses_j37 r t y0 32 j = σ 1 0) ∧ (¬ (r ≤ j ∧ j < (σ 5 0).toNatClampNeg ∧ usd σ j) → s_X9_lapses_j37 r t y0 32 j = σ 32 j)) := by
    intro y0 hy
    have f5 : t 5 0 = σ 5 0 := congrFun (hf 5 (by decide) (by decide)) 0
    obtain ⟨i1, i2, i3⟩ := l42_eq (r := r) ((σ 5 0).toNatClampNeg - (r + 1)) (r + 1) (put t 34 r y0) (by omega)
    have ej : s_X9_lapses_j37 r t y0 = s_X9_lapses_c42 r (iterC (s_X9_lapses_l42 r) ((σ 5 0).toNatClampNeg - (r + 1)) (r + 1) (put t 34 r y0)) := by
      unfold s_X9_lapses_j37
      rw [f5]
    rw [ej]
    obtain ⟨t', ht'⟩ : ∃ t', iterC (s_X9_lapses_l42 r) ((σ 5 0).toNatClampNeg - (r + 1)) (r + 1) (put t 34 r y0) = t' := ⟨_, rfl⟩
    rw [ht'] at i1 i2 i3 ⊢
    have u : ¬ t' 34 r = 0 ↔ usd σ r := by
      rw [i3, put_same, hy]
      have ef : s_X9_isInForce (put t 34 r y0) (nI r) = s_X9_isInForce σ (nI r) := by
        have e0 : s_X9_isInForce (put t 34 r y0) (nI r) = s_X9_isInForce t (nI r) := rfl
        rw [e0, c3_fo hf]
      rw [ef]
      unfold usd
      constructor
      · rintro (a | ⟨a, q, b1, b2, b3, b4⟩)
        · exact Or.inl a
        · have b3 : σ 31 q = nI r := (congrFun (hf 31 (by decide) (by decide)) q).symm.trans b3
          rw [put_oth (show q ≠ r by omega)] at b4
          exact Or.inr ⟨a, q, by omega, by omega, b3, (us_l K (by omega) (by omega) b3).mp ((h34 q (by omega) (by omega)).mp b4)⟩
      · rintro (a | ⟨a, q, b1, b2, b3, b4⟩)
        · exact Or.inl a
        · refine Or.inr ⟨a, q, by omega, by omega, (congrFun (hf 31 (by decide) (by decide)) q).trans b3, ?_⟩
          rw [put_oth (show q ≠ r by omega)]
          exact (h34 q (by omega) b2).mpr (Or.inl b4)
    have f' : ∀ f : Nat, f ≠ 34 → f ≠ 32 → t' f = σ f := fun f a b => (i1 f a).trans ((put_fr a).trans (hf f a b))
    have g32 : t' 32 = t 32 := (i1 32 (by decide)).trans (put_fr (by decide))
    have g34 : ∀ j : Nat, r ≤ j → j < (σ 5 0).toNatClampNeg → (¬ t' 34 j = 0 ↔ usd σ j) := by
      intro j a b
      by_cases hq : j = r
      · rw [hq]
        exact u
      · rw [i2 j hq, put_oth hq]
        exact h34 j (by omega) b
    unfold s_X9_lapses_c42
    try dsimp only
    by_cases z : t' 34 r = 0
    · rw [if_pos z]
      refine ⟨f', g34, fun j => ?_⟩
      rw [g32]
      refine ⟨fun a => (h32 j).1 ⟨?_, a.2⟩, fun a => (h32 j).2 (fun w => a ⟨by omega, w.2⟩)⟩
      have : j ≠ r := fun e => u.mpr (e ▸ a.2.2) z
      omega
    · rw [if_neg z]
      have f1 : t' 1 0 = σ 1 0 := congrFun (f' 1 (by decide) (by decide)) 0
      refine ⟨fun f a b => (put_fr b).trans (f' f a b), fun j a b => ?_, fun j => ?_⟩
      · show ¬ t' 34 j = 0 ↔ usd σ j
        exact g34 j a b
      · show ((r ≤ j ∧ j < (σ 5 0).toNatClampNeg ∧ usd σ j) → upd (t' 32) r (t' 1 0) j = σ 1 0) ∧ (¬ (r ≤ j ∧ j < (σ 5 0).toNatClampNeg ∧ usd σ j) → upd (t' 32) r (t' 1 0) j = σ 32 j)
        by_cases hq : j = r
        · subst hq
          rw [pk_us, f1]
          exact ⟨fun _ => rfl, fun a => absurd ⟨Nat.le_refl j, hr, u.mp z⟩ a⟩
        · rw [pk_un hq, g32]
          exact ⟨fun a => (h32 j).1 ⟨by omega, a.2⟩, fun a => (h32 j).2 (fun w => a ⟨by omega, w.2⟩)⟩
  unfold s_X9_lapses_l7
  try dsimp only
  rw [c3_pO hf, c3_as hf]
  by_cases a1 : s_X9_partsOf σ (nI r) ≤ 0
  · rw [if_pos a1]
    exact go 0 ⟨fun q => absurd rfl q, fun q => absurd a1 q.1⟩
  · rw [if_neg a1]
    by_cases a2 : s_X9_isAsked σ (nI r) = 0
    · rw [if_pos a2]
      exact go 0 ⟨fun q => absurd rfl q, fun q => absurd a2 q.2⟩
    · rw [if_neg a2]
      exact go 1 ⟨fun _ => ⟨a1, a2⟩, fun _ => by decide⟩
