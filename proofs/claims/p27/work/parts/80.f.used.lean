/-! a right is used: a herd is out for it -/
theorem itR_find {L : Nat → Unit → Sum Int32 Unit} {c : Nat → Prop} (h1 : ∀ k, c k → L k () = .inl 1) (h0 : ∀ k, ¬ c k → L k () = .inr ()) : ∀ n k : Nat, (iterR L n k () = .inl 1 ∧ ∃ j, k ≤ j ∧ j < k + n ∧ c j) ∨ (iterR L n k () = .inr () ∧ ∀ j, k ≤ j → j < k + n → ¬ c j) := by
  intro n
  induction n with
  | zero => exact fun k => Or.inr ⟨rfl, fun j h1 h2 => by omega⟩
  | succ n ih =>
    intro k
    by_cases hc : c k
    · refine Or.inl ⟨?_, k, Nat.le_refl k, by omega, hc⟩
      show iterR1 L n k (L k ()) = .inl 1
      rw [h1 k hc]
      rfl
    · rcases ih (k + 1) with ⟨a, j, b1, b2, b3⟩ | ⟨a, b⟩
      · refine Or.inl ⟨?_, j, by omega, by omega, b3⟩
        show iterR1 L n k (L k ()) = .inl 1
        rw [h0 k hc]
        exact a
      · refine Or.inr ⟨?_, fun j p q => ?_⟩
        · show iterR1 L n k (L k ()) = .inr ()
          rw [h0 k hc]
          exact a
        · by_cases e : j = k
          · rw [e]
            exact hc
          · exact b j (by omega) (by omega)
theorem itC_find {L : Nat → Int32 → Option Int32} {c : Nat → Prop} (h1 : ∀ k, c k → L k 0 = some 1) (h0 : ∀ k, ¬ c k → L k 0 = some 0) (hn : ∀ k, L k 1 = none) : ∀ n k : Nat, (iterC L n k 0 = 1 ∧ ∃ j, k ≤ j ∧ j < k + n ∧ c j) ∨ (iterC L n k 0 = 0 ∧ ∀ j, k ≤ j → j < k + n → ¬ c j) := by
  intro n
  induction n with
  | zero => exact fun k => Or.inr ⟨rfl, fun j h1 h2 => by omega⟩
  | succ n ih =>
    intro k
    by_cases hc : c k
    · refine Or.inl ⟨?_, k, Nat.le_refl k, by omega, hc⟩
      show iterC1 L n k 0 (L k 0) = 1
      rw [h1 k hc]
      show iterC L n (k + 1) 1 = 1
      cases n with
      | zero => rfl
      | succ n =>
        show iterC1 L n (k + 1) 1 (L (k + 1) 1) = 1
        rw [hn]
        rfl
    · rcases ih (k + 1) with ⟨a, j, b1, b2, b3⟩ | ⟨a, b⟩
      · refine Or.inl ⟨?_, j, by omega, by omega, b3⟩
        show iterC1 L n k 0 (L k 0) = 1
        rw [h0 k hc]
        exact a
      · refine Or.inr ⟨?_, fun j p q => ?_⟩
        · show iterC1 L n k 0 (L k 0) = 0
          rw [h0 k hc]
          exact a
        · by_cases e : j = k
          · rw [e]
            exact hc
          · exact b j (by omega) (by omega)
def ask (σ : St) (r h : Nat) : Prop := ¬ s_X9_isOut σ (nI h) = 0 ∧ σ 35 h = s_X9_ownerOfRight σ (nI r) ∧ (σ 25 r = 2 → σ 36 h = 2) ∧ (σ 25 r = 3 → σ 38 h = σ 30 r)
theorem as_eq (σ : St) {r : Nat} (hr : r < 2 ^ 31) : (¬ s_X9_isAsked σ (nI r) = 0) ↔ ∃ h : Nat, h < (σ 6 0).toNatClampNeg ∧ ask σ r h := by
  have hn : ∀ k, s_X9_isAsked_l11 σ (nI r) k 1 = none := fun k => by
    unfold s_X9_isAsked_l11
    try dsimp only
    rw [if_neg (by decide)]
  have h1 : ∀ k, ask σ r k → s_X9_isAsked_l11 σ (nI r) k 0 = some 1 := by
    intro k hc
    obtain ⟨a1, a2, a3, a4⟩ := hc
    unfold s_X9_isAsked_l11
    try dsimp only
    rw [nI_clamp hr, if_pos rfl, if_neg a1, if_pos a2]
    by_cases k2 : σ 25 r = 2
    · have n3 : ¬ σ 25 r = 3 := fun e => by rw [e] at k2; exact absurd k2 (by decide)
      rw [if_pos k2, if_pos (a3 k2), if_neg n3]
    · rw [if_neg k2]
      by_cases k3 : σ 25 r = 3
      · rw [if_pos k3, if_pos (a4 k3)]
      · rw [if_neg k3]
  have h0 : ∀ k, ¬ ask σ r k → s_X9_isAsked_l11 σ (nI r) k 0 = some 0 := by
    intro k hc
    unfold s_X9_isAsked_l11
    try dsimp only
    rw [nI_clamp hr, if_pos rfl]
    by_cases a1 : s_X9_isOut σ (nI k) = 0
    · rw [if_pos a1]
    · rw [if_neg a1]
      by_cases a2 : σ 35 k = s_X9_ownerOfRight σ (nI r)
      · rw [if_pos a2]
        by_cases k2 : σ 25 r = 2
        · have n3 : ¬ σ 25 r = 3 := fun e => by rw [e] at k2; exact absurd k2 (by decide)
          have q : ¬ σ 36 k = 2 := fun e => hc ⟨a1, a2, fun _ => e, fun e3 => absurd e3 n3⟩
          rw [if_pos k2, if_neg q]
        · rw [if_neg k2]
          by_cases k3 : σ 25 r = 3
          · have q : ¬ σ 38 k = σ 30 r := fun e => hc ⟨a1, a2, fun e2 => absurd e2 k2, fun _ => e⟩
            rw [if_pos k3, if_neg q]
          · exact absurd ⟨a1, a2, fun e2 => absurd e2 k2, fun e3 => absurd e3 k3⟩ hc
      · rw [if_neg a2]
  have e : s_X9_isAsked σ (nI r) = iterC (s_X9_isAsked_l11 σ (nI r)) (σ 6 0).toNatClampNeg 0 0 := by
    unfold s_X9_isAsked s_X9_isAsked_c11
    rw [Nat.sub_zero]
  rw [e]
  rcases itC_find h1 h0 hn (σ 6 0).toNatClampNeg 0 with ⟨a, j, -, b2, b3⟩ | ⟨a, b⟩
  · rw [a]
    exact ⟨fun _ => ⟨j, by omega, b3⟩, fun _ => by decide⟩
  · rw [a]
    exact ⟨fun h => absurd rfl h, fun ⟨j, h1, h2⟩ => absurd h2 (b j (Nat.zero_le j) (by omega))⟩
theorem hh_eq (σ : St) (r : Nat) : (¬ s_X8_hasHerdFor σ r = 0) ↔ ∃ h : Nat, h < (σ 815 0).toNatClampNeg ∧ (σ 200 h = s_X8_holder σ r ∧ ¬ s_X0_fits σ r h = 0) := by
  have h1 : ∀ k, (σ 200 k = s_X8_holder σ r ∧ ¬ s_X0_fits σ r k = 0) → s_X8_hasHerdFor_l8 σ r k () = .inl 1 := by
    intro k hc
    unfold s_X8_hasHerdFor_l8
    try dsimp only
    rw [if_pos hc.1, if_neg hc.2]
  have h0 : ∀ k, ¬ (σ 200 k = s_X8_holder σ r ∧ ¬ s_X0_fits σ r k = 0) → s_X8_hasHerdFor_l8 σ r k () = .inr () := by
    intro k hc
    unfold s_X8_hasHerdFor_l8
    try dsimp only
    by_cases a1 : σ 200 k = s_X8_holder σ r
    · rw [if_pos a1]
      by_cases a2 : s_X0_fits σ r k = 0
      · rw [if_pos a2]
      · exact absurd ⟨a1, a2⟩ hc
    · rw [if_neg a1]
  have e : s_X8_hasHerdFor σ r = s_X8_hasHerdFor_c8r (iterR (s_X8_hasHerdFor_l8 σ r) (σ 815 0).toNatClampNeg 0 ()) := by
    unfold s_X8_hasHerdFor
    rw [Nat.sub_zero]
  rw [e]
  rcases itR_find h1 h0 (σ 815 0).toNatClampNeg 0 with ⟨a, j, -, b2, b3⟩ | ⟨a, b⟩
  · rw [a]
    exact ⟨fun _ => ⟨j, by omega, b3⟩, fun _ => by show ¬ (1 : Int32) = 0; decide⟩
  · rw [a]
    exact ⟨fun h => absurd rfl h, fun ⟨j, h1, h2⟩ => absurd h2 (b j (Nat.zero_le j) (by omega))⟩
def act (σ : St) (r : Nat) : Prop := ¬ s_X9_partsOf σ (nI r) ≤ 0 ∧ ¬ s_X9_isAsked σ (nI r) = 0
def actX (σ : St) (r : Nat) : Prop := ¬ s_X0_isInForce σ r (σ 816 0) = 0 ∧ ¬ s_X8_hasHerdFor σ r = 0 ∧ ¬ s_X8_countingParts σ (nI r) ≤ 0
theorem act_f {σ : St} {r : Nat} (h : act σ r) : ¬ s_X9_isInForce σ (nI r) = 0 := by
  intro e
  apply h.1
  rw [pO_sum, if_pos e]
  decide
theorem ac_eq {σx σm : St} (e : RE σx σm) (K : KR σm) (hpc : ∀ i : Nat, σm 25 i = 3 → σx 4 i = σm 30 i) (J4 : ∀ h : Nat, h < (σm 6 0).toNatClampNeg → ¬ σm 41 h = 0 → σm 38 h < 0) {r : Nat} (hr : r < (σm 5 0).toNatClampNeg) : actX σx r ↔ act σm r := by
  have hr31 : r < 2 ^ 31 := Nat.lt_trans hr (tn_lt _)
  have h1 := fo_eq e hr31
  have h2 := pt_eq e K hr
  have h3 := ho_eq e K hr31
  have ha : (¬ s_X8_hasHerdFor σx r = 0) ↔ (¬ s_X9_isAsked σm (nI r) = 0) := by
    rw [hh_eq, as_eq σm hr31, h3]
    obtain ⟨e1, e2, e3, e4, e5, e6, e7, e8, e9, e10, e11, e12, e13, e14, e15, e16, e17, e18⟩ := e
    rw [e5, e15]
    have one : ∀ h : Nat, h < (σm 6 0).toNatClampNeg → (¬ s_X0_fits σx r h = 0 ↔ (¬ s_X9_isOut σm (nI h) = 0 ∧ (σm 25 r = 2 → σm 36 h = 2) ∧ (σm 25 r = 3 → σm 38 h = σm 30 r))) := by
      intro h hh
      have h31 : h < 2 ^ 31 := Nat.lt_trans hh (tn_lt _)
      unfold s_X0_fits
      rw [e8, e16, e18]
      by_cases m1 : σm 38 h = -1
      · rw [if_pos m1]
        have lt0 : σm 38 h < 0 := by rw [m1]; decide
        have out : s_X9_isOut σm (nI h) = 0 := by
          unfold s_X9_isOut
          rw [nI_clamp h31, if_pos lt0, ite_self]
        exact ⟨fun q => absurd rfl q, fun q => absurd out q.1⟩
      · rw [if_neg m1]
        have n0 : ¬ σm 38 h < 0 := by
          rcases K.2.2.2.2 h hh with hb | hb
          · exact absurd hb m1
          · rw [vp_in_iff] at hb
            rw [Int32.lt_iff_toInt_lt, show (0 : Int32).toInt = 0 by decide]
            omega
        have s0 : σm 41 h = 0 := Decidable.byContradiction (fun hc => n0 (J4 h hh hc))
        have out : ¬ s_X9_isOut σm (nI h) = 0 := by
          unfold s_X9_isOut
          rw [nI_clamp h31, if_pos s0, if_neg n0]
          decide
        by_cases k2 : σm 25 r = 2
        · have n3 : ¬ σm 25 r = 3 := fun q => by rw [q] at k2; exact absurd k2 (by decide)
          rw [if_pos k2]
          by_cases s2 : σm 36 h = 2
          · rw [if_pos s2]
            exact ⟨fun _ => ⟨out, fun _ => s2, fun q => absurd q n3⟩, fun _ => by decide⟩
          · rw [if_neg s2]
            exact ⟨fun q => absurd rfl q, fun q => absurd (q.2.1 k2) s2⟩
        · rw [if_neg k2]
          by_cases k3 : σm 25 r = 3
          · rw [if_pos k3, hpc r k3]
            by_cases s2 : σm 38 h = σm 30 r
            · rw [if_pos s2]
              exact ⟨fun _ => ⟨out, fun q => absurd q k2, fun _ => s2⟩, fun _ => by decide⟩
            · rw [if_neg s2]
              exact ⟨fun q => absurd rfl q, fun q => absurd (q.2.2 k3) s2⟩
          · rw [if_neg k3]
            exact ⟨fun _ => ⟨out, fun q => absurd q k2, fun q => absurd q k3⟩, fun _ => by decide⟩
    constructor
    · rintro ⟨h, hh, a1, a2⟩
      have b := (one h hh).mp a2
      exact ⟨h, hh, b.1, a1, b.2⟩
    · rintro ⟨h, hh, a1, a2, a3⟩
      exact ⟨h, hh, a2, (one h hh).mpr ⟨a1, a3⟩⟩
  unfold actX
  rw [h1, h2, ha]
  exact ⟨fun q => ⟨q.2.2, q.2.1⟩, fun q => ⟨act_f q, q.2, q.1⟩⟩
/-! the class finds the rights that are used -/
section C7
variable {t σ : St}
theorem c7_fo (h : ∀ f : Nat, f ≠ 7 → t f = σ f) (k : Nat) (d : Int32) : s_X0_isInForce t k d = s_X0_isInForce σ k d := by
  unfold s_X0_isInForce
  rw [h 8 (by decide), h 2 (by decide), h 3 (by decide)]
theorem c7_ho (h : ∀ f : Nat, f ≠ 7 → t f = σ f) (k : Nat) : s_X8_holder t k = s_X8_holder σ k := by
  unfold s_X8_holder s_X8_isHouse
  rw [h 0 (by decide), h 6 (by decide), h 803 (by decide), h 813 (by decide)]
theorem c7_cp (h : ∀ f : Nat, f ≠ 7 → t f = σ f) (r : Int32) : s_X8_countingParts t r = s_X8_countingParts σ r := by
  have hl : ∀ k : Nat, lentX t r k = lentX σ r k := by
    intro k
    unfold lentX
    rw [c7_fo h, h 816 (by decide), h 5 (by decide), h 1 (by decide)]
  rw [cP_sum, cP_sum, c7_fo h, h 816 (by decide), h 0 (by decide), h 1 (by decide), h 814 (by decide)]
  rw [sm_ext (f := fun i => lentX t r (r.toNatClampNeg + 1 + i)) (g := fun i => lentX σ r (r.toNatClampNeg + 1 + i)) (fun k _ => hl _)]
theorem c7_hh (h : ∀ f : Nat, f ≠ 7 → t f = σ f) (r : Nat) : s_X8_hasHerdFor t r = s_X8_hasHerdFor σ r := by
  have e : s_X8_hasHerdFor_l8 t r = s_X8_hasHerdFor_l8 σ r := by
    funext k x
    unfold s_X8_hasHerdFor_l8 s_X0_fits
    rw [c7_ho h, h 200 (by decide), h 203 (by decide), h 0 (by decide), h 201 (by decide), h 4 (by decide)]
  unfold s_X8_hasHerdFor
  rw [e, h 815 (by decide)]
end C7
def usX (σ : St) (j i : Nat) : Prop := (i < j ∧ actX σ i) ∨ ∃ q : Nat, q < j ∧ actX σ q ∧ σ 5 q = nI i ∧ i < q
theorem fu_eq (σ : St) (hso : ∀ q : Nat, q < (σ 814 0).toNatClampNeg → σ 5 q = -9 ∨ ∃ j : Nat, j < q ∧ σ 5 q = nI j) : (∀ f : Nat, f ≠ 7 → s_X8_findUsed σ f = σ f) ∧ ∀ i : Nat, (usX σ (σ 814 0).toNatClampNeg i → s_X8_findUsed σ 7 i = σ 816 0) ∧ (¬ usX σ (σ 814 0).toNatClampNeg i → s_X8_findUsed σ 7 i = σ 7 i) := by
  have n31 := tn_lt (σ 814 0)
  have e : s_X8_findUsed σ = iter s_X8_findUsed_l2 (σ 814 0).toNatClampNeg 0 σ := by
    unfold s_X8_findUsed s_X8_findUsed_c2
    rw [Nat.sub_zero]
  rw [e]
  refine it_ind (L := s_X8_findUsed_l2) (P := fun j (t : St) => (∀ f : Nat, f ≠ 7 → t f = σ f) ∧ ∀ i : Nat, (usX σ j i → t 7 i = σ 816 0) ∧ (¬ usX σ j i → t 7 i = σ 7 i)) ⟨fun _ _ => rfl, fun i => ⟨fun h => ?_, fun _ => rfl⟩⟩ (σ 814 0).toNatClampNeg (fun k t hk ih => ?_)
  · rcases h with ⟨h, -⟩ | ⟨q, h, -⟩
    · exact absurd h (Nat.not_lt_zero i)
    · exact absurd h (Nat.not_lt_zero q)
  obtain ⟨hf, hu⟩ := ih
  have stay : ¬ actX σ k → (∀ f : Nat, f ≠ 7 → t f = σ f) ∧ ∀ i : Nat, (usX σ (k + 1) i → t 7 i = σ 816 0) ∧ (¬ usX σ (k + 1) i → t 7 i = σ 7 i) := by
    intro na
    have iff : ∀ i, usX σ (k + 1) i ↔ usX σ k i := by
      intro i
      constructor
      · rintro (⟨a, b⟩ | ⟨q, a, b, c⟩)
        · by_cases hq : i = k
          · exact absurd (hq ▸ b) na
          · exact Or.inl ⟨by omega, b⟩
        · by_cases hq : q = k
          · exact absurd (hq ▸ b) na
          · exact Or.inr ⟨q, by omega, b, c⟩
      · rintro (⟨a, b⟩ | ⟨q, a, b, c⟩)
        · exact Or.inl ⟨by omega, b⟩
        · exact Or.inr ⟨q, by omega, b, c⟩
    exact ⟨hf, fun i => ⟨fun q => (hu i).1 ((iff i).mp q), fun q => (hu i).2 (fun w => q ((iff i).mpr w))⟩⟩
  have f816 : t 816 0 = σ 816 0 := congrFun (hf 816 (by decide)) 0
  have f5 : t 5 k = σ 5 k := congrFun (hf 5 (by decide)) k
  unfold s_X8_findUsed_l2
  try dsimp only
  rw [f816, f5, c7_fo hf, c7_hh hf, c7_cp hf]
  by_cases a1 : s_X0_isInForce σ k (σ 816 0) = 0
  · rw [if_pos a1]
    exact stay (fun q => q.1 a1)
  · rw [if_neg a1]
    by_cases a2 : s_X8_hasHerdFor σ k = 0
    · rw [if_pos a2]
      exact stay (fun q => q.2.1 a2)
    · rw [if_neg a2]
      by_cases a3 : s_X8_countingParts σ (nI k) ≤ 0
      · rw [if_pos a3]
        exact stay (fun q => q.2.2 a3)
      · rw [if_neg a3]
        have ac : actX σ k := ⟨a1, a2, a3⟩
        have er : s_X8_isRight (put t 7 k (σ 816 0)) (σ 5 k) = s_X9_isIn (σ 5 k) (σ 814 0) := by
          show s_X9_isIn (σ 5 k) (t 814 0) = _
          rw [hf 814 (by decide)]
        rw [er]
        rcases hso k hk with h9 | ⟨j, hj, ej⟩
        · rw [h9, if_pos (show s_X9_isIn (-9) (σ 814 0) = 0 by unfold s_X9_isIn; rw [if_pos (by decide)])]
          refine ⟨fun f q => (put_fr q).trans (hf f q), fun i => ?_⟩
          show (usX σ (k + 1) i → upd (t 7) k (σ 816 0) i = σ 816 0) ∧ (¬ usX σ (k + 1) i → upd (t 7) k (σ 816 0) i = σ 7 i)
          by_cases hq : i = k
          · subst hq
            rw [pk_us]
            exact ⟨fun _ => rfl, fun q => absurd (Or.inl ⟨by omega, ac⟩) q⟩
          · rw [pk_un hq]
            refine ⟨fun q => (hu i).1 ?_, fun q => (hu i).2 (fun w => q ?_)⟩
            · rcases q with ⟨a, b⟩ | ⟨q, a, b, c, d⟩
              · exact Or.inl ⟨by omega, b⟩
              · by_cases hk2 : q = k
                · subst hk2
                  exact absurd (h9.symm.trans c) (nI_ne9 (by omega))
                · exact Or.inr ⟨q, by omega, b, c, d⟩
            · rcases w with ⟨a, b⟩ | ⟨q, a, b, c⟩
              · exact Or.inl ⟨by omega, b⟩
              · exact Or.inr ⟨q, by omega, b, c⟩
        · have hin : ¬ s_X9_isIn (σ 5 k) (σ 814 0) = 0 := by
            rw [ej]
            refine in_vp.mp ?_
            rw [vp_in_iff, nI_toInt (by omega)]
            omega
          rw [if_neg hin, ej, nI_clamp (by omega)]
          refine ⟨fun f q => (put_fr q).trans ((put_fr q).trans (hf f q)), fun i => ?_⟩
          show (usX σ (k + 1) i → upd (upd (t 7) k (σ 816 0)) j (σ 816 0) i = σ 816 0) ∧ (¬ usX σ (k + 1) i → upd (upd (t 7) k (σ 816 0)) j (σ 816 0) i = σ 7 i)
          by_cases hqj : i = j
          · subst hqj
            rw [pk_us]
            exact ⟨fun _ => rfl, fun q => absurd (Or.inr ⟨k, by omega, ac, ej, hj⟩) q⟩
          · rw [pk_un hqj]
            by_cases hq : i = k
            · subst hq
              rw [pk_us]
              exact ⟨fun _ => rfl, fun q => absurd (Or.inl ⟨by omega, ac⟩) q⟩
            · rw [pk_un hq]
              refine ⟨fun q => (hu i).1 ?_, fun q => (hu i).2 (fun w => q ?_)⟩
              · rcases q with ⟨a, b⟩ | ⟨q, a, b, c, d⟩
                · exact Or.inl ⟨by omega, b⟩
                · by_cases hk2 : q = k
                  · subst hk2
                    exact absurd (nI_inj (by omega) (by omega) (c.symm.trans ej)) hqj
                  · exact Or.inr ⟨q, by omega, b, c, d⟩
              · rcases w with ⟨a, b⟩ | ⟨q, a, b, c⟩
                · exact Or.inl ⟨by omega, b⟩
                · exact Or.inr ⟨q, by omega, b, c⟩
