/-! hunger is shared out, in the class -/
def dQ (lack all x : Int32) : Int32 := (lack * x) / all
def dR (lack all x : Int32) : Int32 := lack * x - (lack * x) / all * all
theorem dq_ti {lack all x : Int32} (hl : 0 ≤ lack.toInt ∧ lack.toInt ≤ all.toInt) (ha : 0 < all.toInt ∧ all.toInt ≤ 90000) (hx : 0 ≤ x.toInt ∧ x.toInt ≤ 4500) : (lack * x).toInt = lack.toInt * x.toInt ∧ (dQ lack all x).toInt = lack.toInt * x.toInt / all.toInt ∧ (dR lack all x).toInt = lack.toInt * x.toInt % all.toInt ∧ 0 ≤ lack.toInt * x.toInt ∧ lack.toInt * x.toInt ≤ 405000000 ∧ ((lack * x) / all * all).toInt = lack.toInt * x.toInt / all.toInt * all.toInt := by
  have p0 : 0 ≤ lack.toInt * x.toInt := Int.mul_nonneg hl.1 hx.1
  have p1 : lack.toInt * x.toInt ≤ 90000 * 4500 := Int.mul_le_mul (by omega) hx.2 hx.1 (by decide)
  have em : (lack * x).toInt = lack.toInt * x.toInt := mul_ti (by omega) (by omega)
  have ed : (lack * x / all).toInt = lack.toInt * x.toInt / all.toInt := by rw [div_ti (by omega) ha.1, em]
  have q1 : lack.toInt * x.toInt / all.toInt * all.toInt ≤ lack.toInt * x.toInt := Int.ediv_mul_le _ (by omega)
  have q0 : 0 ≤ lack.toInt * x.toInt / all.toInt * all.toInt := Int.mul_nonneg (Int.ediv_nonneg p0 (by omega)) (by omega)
  have ep : ((lack * x) / all * all).toInt = lack.toInt * x.toInt / all.toInt * all.toInt := by rw [mul_ti (by rw [ed]; omega) (by rw [ed]; omega), ed]
  refine ⟨em, ed, ?_, p0, by omega, ep⟩
  unfold dR
  rw [sub_ti (by rw [em, ep]; omega) (by rw [em, ep]; omega), em, ep, Int.emod_def, Int.mul_comm all.toInt]
theorem sh1 (τ : St) (lack : Int32) (s : Nat) (hA : ¬ τ 305 0 ≤ 0) : (iterC (s_X3_shareHunger_l4 lack) s 0 (lack, τ)).1 = lack - Sm (fun i => dQ lack (τ 305 0) (τ 301 i)) s ∧ (∀ f : Nat, f ≠ 302 → f ≠ 303 → (iterC (s_X3_shareHunger_l4 lack) s 0 (lack, τ)).2 f = τ f) ∧ ∀ i : Nat, i < s → (iterC (s_X3_shareHunger_l4 lack) s 0 (lack, τ)).2 302 i = dQ lack (τ 305 0) (τ 301 i) ∧ (iterC (s_X3_shareHunger_l4 lack) s 0 (lack, τ)).2 303 i = dR lack (τ 305 0) (τ 301 i) := by
  have key := itC_ind (L := s_X3_shareHunger_l4 lack) (P := fun k (p : Int32 × St) => p.1 = lack - Sm (fun i => dQ lack (τ 305 0) (τ 301 i)) k ∧ (∀ f : Nat, f ≠ 302 → f ≠ 303 → p.2 f = τ f) ∧ ∀ i : Nat, i < k → p.2 302 i = dQ lack (τ 305 0) (τ 301 i) ∧ p.2 303 i = dR lack (τ 305 0) (τ 301 i)) s 0 (lack, τ) ⟨by show lack = lack - 0; rw [Int32.sub_zero], fun _ _ _ => rfl, fun i h => absurd h (Nat.not_lt_zero i)⟩ (fun j p _ ih => by
    obtain ⟨v, t⟩ := p
    obtain ⟨i1, i2, i3⟩ := ih
    have i1 : v = lack - Sm (fun i => dQ lack (τ 305 0) (τ 301 i)) j := i1
    have e5 : t 305 0 = τ 305 0 := congrFun (i2 305 (by decide) (by decide)) 0
    have e1 : t 301 j = τ 301 j := congrFun (i2 301 (by decide) (by decide)) j
    refine ⟨(v - dQ lack (τ 305 0) (τ 301 j), put (put t 302 j (dQ lack (τ 305 0) (τ 301 j))) 303 j (dR lack (τ 305 0) (τ 301 j))), ?_, ?_, ?_, ?_⟩
    · unfold s_X3_shareHunger_l4
      try dsimp only
      rw [e5, if_neg hA, put_same, e1]
      rfl
    · show v - dQ lack (τ 305 0) (τ 301 j) = lack - (Sm (fun i => dQ lack (τ 305 0) (τ 301 i)) j + dQ lack (τ 305 0) (τ 301 j))
      rw [i1, Int32.sub_sub]
    · intro f p q
      exact (put_fr q).trans ((put_fr p).trans (i2 f p q))
    · intro i hi
      by_cases hq : i = j
      · subst hq
        refine ⟨?_, ?_⟩
        · show upd (t 302) i _ i = _
          rw [pk_us]
        · show upd (t 303) i _ i = _
          rw [pk_us]
      · have a := i3 i (by omega)
        refine ⟨?_, ?_⟩
        · show upd (t 302) j _ i = _
          rw [pk_un hq]
          exact a.1
        · show upd (t 303) j _ i = _
          rw [pk_un hq]
          exact a.2)
  rw [Nat.zero_add] at key
  exact key
theorem gr_spec (τ : St) : ∀ m : Nat, m < 1000 → ∃ g : Nat, iter (s_X3_greatestRemainder_l4 τ) m 1 0 = nI g ∧ g ≤ m ∧ ∀ i : Nat, i ≤ m → (τ 303 i).toInt ≤ (τ 303 g).toInt ∧ ((τ 303 i).toInt = (τ 303 g).toInt → g ≤ i) := by
  intro m
  induction m with
  | zero =>
    intro _
    refine ⟨0, rfl, Nat.le_refl 0, fun i hi => ?_⟩
    have : i = 0 := by omega
    subst this
    exact ⟨Int.le_refl _, fun _ => Nat.le_refl 0⟩
  | succ m ih =>
    intro hm
    obtain ⟨g, e, hg, hi⟩ := ih (by omega)
    rw [iter_snoc, e]
    unfold s_X3_greatestRemainder_l4
    try dsimp only
    rw [nI_clamp (by omega), show 1 + m = m + 1 by omega]
    by_cases h : τ 303 (m + 1) ≤ τ 303 g
    · rw [if_pos h]
      rw [Int32.le_iff_toInt_le] at h
      refine ⟨g, rfl, by omega, fun i hi2 => ?_⟩
      by_cases hq : i = m + 1
      · subst hq
        exact ⟨h, fun _ => by omega⟩
      · exact hi i (by omega)
    · rw [if_neg h]
      rw [Int32.le_iff_toInt_le] at h
      refine ⟨m + 1, rfl, by omega, fun i hi2 => ?_⟩
      by_cases hq : i = m + 1
      · subst hq
        exact ⟨Int.le_refl _, fun _ => Nat.le_refl _⟩
      · have := hi i (by omega)
        exact ⟨by omega, fun z => by omega⟩
theorem kl_next {k : Nat} {left v : Int} (h : v = left - (k : Int)) (h1 : ¬ v ≤ 0) : ((k + 1 : Nat) : Int) ≤ left := by omega
theorem sel (q : Nat → Int32) (R : Nat → Int) (A left : Int) (s : Nat) (hs : s ≤ 20) (hA : 0 < A) (hR : ∀ i, i < s → 0 ≤ R i ∧ R i < A) (hls : left ≤ (s : Int)) : ∀ (f k : Nat) (v : Int32) (τ : St) (S : Nat → Bool), k + f = s → v.toInt = left - (k : Int) → (k : Int) ≤ left → (τ 304 0).toNatClampNeg = s → UP R s k S → (∀ i, i < s → τ 302 i = q i + cond (S i) 1 0 ∧ (τ 303 i).toInt = cond (S i) 0 (R i)) → left * A ≤ sI (fun i => (τ 303 i).toInt) s + (k : Int) * A → ∃ S2 : Nat → Bool, UP R s left.toNat S2 ∧ (∀ i, i < s → (iterC s_X3_shareHunger_l72 f k (v, τ)).2 302 i = q i + cond (S2 i) 1 0) ∧ (∀ f2 : Nat, f2 ≠ 302 → f2 ≠ 303 → (iterC s_X3_shareHunger_l72 f k (v, τ)).2 f2 = τ f2) := by
  intro f
  induction f with
  | zero =>
    intro k v τ S hk hv hkl h4 hU hq hsum
    have : left.toNat = k := by omega
    exact ⟨S, by rw [this]; exact hU, fun i hi => (hq i hi).1, fun _ _ _ => rfl⟩
  | succ f ih =>
    intro k v τ S hk hv hkl h4 hU hq hsum
    have z : (0 : Int32).toInt = 0 := by decide
    have eI : iterC s_X3_shareHunger_l72 (f + 1) k (v, τ) = iterC1 s_X3_shareHunger_l72 f k (v, τ) (s_X3_shareHunger_l72 k (v, τ)) := rfl
    rw [eI]
    by_cases h1 : v ≤ 0
    · have e : s_X3_shareHunger_l72 k (v, τ) = none := by
        unfold s_X3_shareHunger_l72
        try dsimp only
        rw [if_pos h1]
      rw [e]
      rw [Int32.le_iff_toInt_le, z] at h1
      have : left.toNat = k := by omega
      exact ⟨S, by rw [this]; exact hU, fun i hi => (hq i hi).1, fun _ _ _ => rfl⟩
    · have h1' := h1
      rw [Int32.le_iff_toInt_le, z] at h1'
      obtain ⟨g, eg, hg, hmax⟩ := gr_spec τ (s - 1) (by omega)
      have egr : s_X3_greatestRemainder τ = nI g := by
        unfold s_X3_greatestRemainder s_X3_greatestRemainder_c4
        try dsimp only
        rw [h4]
        exact eg
      have hg : g < s := by omega
      have e : s_X3_shareHunger_l72 k (v, τ) = some (v + -1, put (put τ 302 g (τ 302 g + 1)) 303 g 0) := by
        unfold s_X3_shareHunger_l72
        try dsimp only
        rw [if_neg h1, egr, nI_clamp (by omega)]
      rw [e]
      have kA : (k : Int) * A + A ≤ left * A := by
        have : ((k : Int) + 1) * A ≤ left * A := Int.mul_le_mul_of_nonneg_right (by omega) (by omega)
        rw [Int.add_mul, Int.one_mul] at this
        exact this
      have pos : 0 < (τ 303 g).toInt := by
        refine Int.not_le.mp (fun np => ?_)
        have := sI_bdd (f := fun i => (τ 303 i).toInt) (c := 0) (n := s) (fun i hi => by
          have := (hmax i (by omega)).1
          show (τ 303 i).toInt ≤ 0
          omega)
        rw [Int.zero_mul] at this
        omega
      have hSg : S g = false := by
        cases e2 : S g with
        | false => rfl
        | true =>
          have := (hq g hg).2
          rw [e2] at this
          have this : (τ 303 g).toInt = 0 := this
          omega
      have hrg : (τ 303 g).toInt = R g := by
        have := (hq g hg).2
        rw [hSg] at this
        exact this
      have hU2 := up_step hU hg hSg (fun o ho w => by
        have a := (hq o ho).2
        rw [w] at a
        have a : (τ 303 o).toInt = R o := a
        have b := hmax o (by omega)
        rw [a, hrg] at b
        exact b)
      have v1 : (v + -1).toInt = left - ((k + 1 : Nat) : Int) := by
        have m1 : (-1 : Int32).toInt = -1 := by decide
        have := v.toInt_lt
        rw [add_ti (by rw [m1]; omega) (by rw [m1]; omega), m1]
        omega
      have b1 : Nat.beq g g = true := Nat.beq_refl g
      have b2 : ∀ i, i ≠ g → Nat.beq i g = false := fun i hi => by
        cases e3 : Nat.beq i g with
        | false => rfl
        | true => exact absurd (Nat.eq_of_beq_eq_true e3) hi
      have hk1 : k + 1 + f = s := by omega
      have hkl1 : ((k + 1 : Nat) : Int) ≤ left := kl_next hv h1'
      have h41 : (put (put τ 302 g (τ 302 g + 1)) 303 g 0 304 0).toNatClampNeg = s := by
        rw [show put (put τ 302 g (τ 302 g + 1)) 303 g 0 304 = τ 304 from (put_fr (by decide)).trans (put_fr (by decide))]
        exact h4
      have hv2 : ∀ i, i < s → put (put τ 302 g (τ 302 g + 1)) 303 g 0 302 i = q i + cond (cond (Nat.beq i g) true (S i)) 1 0 ∧ (put (put τ 302 g (τ 302 g + 1)) 303 g 0 303 i).toInt = cond (cond (Nat.beq i g) true (S i)) 0 (R i) := fun i hi => by
        have a := hq i hi
        by_cases hi2 : i = g
        · subst hi2
          show upd (τ 302) i (τ 302 i + 1) i = q i + cond (cond (Nat.beq i i) true (S i)) 1 0 ∧ (upd (τ 303) i 0 i).toInt = cond (cond (Nat.beq i i) true (S i)) 0 (R i)
          rw [pk_us, pk_us, b1, a.1, hSg]
          refine ⟨?_, z⟩
          show q i + 0 + 1 = q i + 1
          rw [Int32.add_zero]
        · show upd (τ 302) g (τ 302 g + 1) i = q i + cond (cond (Nat.beq i g) true (S i)) 1 0 ∧ (upd (τ 303) g 0 i).toInt = cond (cond (Nat.beq i g) true (S i)) 0 (R i)
          rw [pk_un hi2, pk_un hi2, b2 i hi2]
          exact a
      have hs2 : left * A ≤ sI (fun i => (put (put τ 302 g (τ 302 g + 1)) 303 g 0 303 i).toInt) s + ((k + 1 : Nat) : Int) * A := by
        have dr := sI_drop (f := fun i => (τ 303 i).toInt) (g := fun i => (upd (τ 303) g 0 i).toInt) (j := g) (n := s) (fun i hi => by
          by_cases hi2 : i = g
          · rw [if_pos hi2, hi2, pk_us]
            exact z
          · rw [if_neg hi2, pk_un hi2])
        rw [if_pos hg] at dr
        show left * A ≤ sI (fun i => (upd (τ 303) g 0 i).toInt) s + ((k + 1 : Nat) : Int) * A
        have hRg := (hR g hg).2
        have k1 : ((k + 1 : Nat) : Int) * A = (k : Int) * A + A := by rw [show ((k + 1 : Nat) : Int) = (k : Int) + 1 by omega, Int.add_mul, Int.one_mul]
        rw [k1]
        omega
      have st := ih (k + 1) (v + -1) (put (put τ 302 g (τ 302 g + 1)) 303 g 0) (fun i => cond (Nat.beq i g) true (S i)) hk1 v1 hkl1 h41 hU2 hv2 hs2
      obtain ⟨S2, u1, u2, u3⟩ := st
      exact ⟨S2, u1, u2, fun f2 p1 p2 => (u3 f2 p1 p2).trans ((put_fr p2).trans (put_fr p1))⟩
