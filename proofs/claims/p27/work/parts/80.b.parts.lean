theorem in_vp {a n : Int32} : vp_in a n.toNatClampNeg ↔ ¬ s_X9_isIn a n = 0 := by
  have z : (0 : Int32).toInt = 0 := by decide
  unfold s_X9_isIn
  rw [vp_in_iff, tn_toInt]
  by_cases h1 : a < 0
  · rw [if_pos h1]
    rw [Int32.lt_iff_toInt_lt, z] at h1
    exact ⟨fun h => by omega, fun h => absurd rfl h⟩
  · rw [if_neg h1]
    rw [Int32.lt_iff_toInt_lt, z] at h1
    by_cases h2 : n ≤ a
    · rw [if_pos h2]
      rw [Int32.le_iff_toInt_le] at h2
      exact ⟨fun h => by omega, fun h => absurd rfl h⟩
    · rw [if_neg h2]
      rw [Int32.le_iff_toInt_le] at h2
      exact ⟨fun _ => by decide, fun _ => by omega⟩
theorem ho_eq {σx σm : St} (e : RE σx σm) (K : KR σm) {r : Nat} (hr : r < 2 ^ 31) : s_X8_holder σx r = s_X9_ownerOfRight σm (nI r) := by
  obtain ⟨e1, e2, e3, e4, e5, e6, e7, e8, e9, e10, e11, e12, e13, e14, -⟩ := e
  unfold s_X8_holder s_X9_ownerOfRight
  rw [nI_clamp hr, e8, e13, e7]
  by_cases h : σm 25 r = 1
  · rw [if_pos h, if_pos h, if_neg]
    show ¬ s_X9_isIn (σm 26 r) (σx 813 0) = 0
    rw [e3]
    exact in_vp.mp (K.1 r h)
  · rw [if_neg h, if_neg h]
theorem pp_eq {σx σm : St} (e : RE σx σm) {h : Nat} (hs : 0 ≤ (σm 36 h).toInt ∧ (σm 36 h).toInt < 3) (hh : h < 2 ^ 31) : s_X2_parts σx h = s_X9_partsOfHerd σm (nI h) := by
  obtain ⟨e1, e2, e3, e4, e5, e6, e7, e8, e9, e10, e11, e12, e13, e14, e15, e16, e17, e18⟩ := e
  unfold s_X2_parts s_X9_partsOfHerd
  rw [nI_clamp hh, e16, e17]
  obtain ⟨j, hj, ej⟩ := vp_in_of (n := 3) (vp_in_iff.mpr ⟨hs.1, by omega⟩) (by decide)
  rw [ej]
  rcases (show j = 0 ∨ j = 1 ∨ j = 2 by omega) with rfl | rfl | rfl
  · rw [if_neg (by decide), if_neg (by decide)]
    rfl
  · rw [if_neg (by decide), if_neg (by decide)]
    rfl
  · rw [if_neg (by decide), if_neg (by decide)]
    rfl
theorem ph_bd {σ : St} (J : IR σ) {h : Nat} (hh : h < 2 ^ 31) : 0 ≤ (s_X9_partsOfHerd σ (nI h)).toInt ∧ (s_X9_partsOfHerd σ (nI h)).toInt ≤ 4500 := by
  unfold s_X9_partsOfHerd
  rw [nI_clamp hh]
  have hs := ir_36 J h
  have hm := ir_37 J h
  have e30 : (30 : Int32).toInt = 30 := by decide
  have e45 : (45 : Int32).toInt = 45 := by decide
  have e6 : (6 : Int32).toInt = 6 := by decide
  obtain ⟨j, hj, ej⟩ := vp_in_of (n := 3) (vp_in_iff.mpr ⟨hs.1, by omega⟩) (by decide)
  rw [ej]
  rcases (show j = 0 ∨ j = 1 ∨ j = 2 by omega) with rfl | rfl | rfl
  · rw [show s_X9_partsOfSort (nI 0) = 30 by decide, mul_ti (by rw [e30]; omega) (by rw [e30]; omega), e30]
    omega
  · rw [show s_X9_partsOfSort (nI 1) = 45 by decide, mul_ti (by rw [e45]; omega) (by rw [e45]; omega), e45]
    omega
  · rw [show s_X9_partsOfSort (nI 2) = 6 by decide, mul_ti (by rw [e6]; omega) (by rw [e6]; omega), e6]
    omega
theorem sm_bd {f : Nat → Int32} {B N : Nat} (hN : N * B < 2147483648) : ∀ {n : Nat}, n ≤ N → (∀ k, k < n → 0 ≤ (f k).toInt ∧ (f k).toInt ≤ (B : Int)) → 0 ≤ (Sm f n).toInt ∧ (Sm f n).toInt ≤ ((n * B : Nat) : Int) := by
  intro n
  induction n with
  | zero => intro _ _; show 0 ≤ (0 : Int32).toInt ∧ (0 : Int32).toInt ≤ _; rw [show (0 : Int32).toInt = 0 by decide]; omega
  | succ n ih =>
    intro hn h
    have h1 := ih (by omega) (fun k hk => h k (by omega))
    have h2 := h n (by omega)
    have h3 : (n + 1) * B ≤ N * B := Nat.mul_le_mul_right B hn
    have h4 : (n + 1) * B = n * B + B := Nat.succ_mul n B
    show 0 ≤ (Sm f n + f n).toInt ∧ (Sm f n + f n).toInt ≤ _
    rw [add_ti (by omega) (by omega)]
    omega
theorem mm_1 {l o : Int32} (hl : 0 ≤ l.toInt) (ho : 0 ≤ o.toInt) : o - (if o < l then o else l) = (if 0 < (o - l) then (o - l) else 0) := by
  have z : (0 : Int32).toInt = 0 := by decide
  have b1 := Int32.toInt_lt l
  have b2 := Int32.toInt_lt o
  have ed : (o - l).toInt = o.toInt - l.toInt := sub_ti (by omega) (by omega)
  by_cases h : o < l
  · rw [if_pos h, Int32.sub_self, if_neg]
    rw [Int32.lt_iff_toInt_lt] at h ⊢
    rw [z, ed]
    omega
  · rw [if_neg h]
    by_cases h2 : 0 < o - l
    · rw [if_pos h2]
    · rw [if_neg h2, ← Int32.toInt_inj, ed, z]
      rw [Int32.lt_iff_toInt_lt] at h h2
      rw [z, ed] at h2
      omega
theorem mm_2 {l o : Int32} (hl : 0 ≤ l.toInt) (ho : 0 ≤ o.toInt) : l - (if o < l then o else l) = (if 0 < (l - o) then (l - o) else 0) := by
  have z : (0 : Int32).toInt = 0 := by decide
  have b1 := Int32.toInt_lt l
  have b2 := Int32.toInt_lt o
  have ed : (l - o).toInt = l.toInt - o.toInt := sub_ti (by omega) (by omega)
  by_cases h : o < l
  · rw [if_pos h, if_pos]
    rw [Int32.lt_iff_toInt_lt] at h ⊢
    rw [z, ed]
    omega
  · rw [if_neg h, Int32.sub_self, if_neg]
    rw [Int32.lt_iff_toInt_lt] at h ⊢
    rw [z, ed]
    omega
theorem mm_b {l o : Int32} (hl : 0 ≤ l.toInt) (ho : 0 ≤ o.toInt) : 0 ≤ (if 0 < (l - o) then (l - o) else 0 : Int32).toInt := by
  have z : (0 : Int32).toInt = 0 := by decide
  by_cases h : 0 < l - o
  · rw [if_pos h]
    rw [Int32.lt_iff_toInt_lt, z] at h
    omega
  · rw [if_neg h, z]
    omega
theorem nI_q {x : Int32} {p : Nat} (h : ¬ x < 0) (hp : p < 2 ^ 31) : (x = nI p) ↔ (p = x.toNatClampNeg) := by
  have z : (0 : Int32).toInt = 0 := by decide
  rw [Int32.lt_iff_toInt_lt, z] at h
  constructor
  · intro e
    rw [e, nI_clamp hp]
  · intro e
    rw [← Int32.toInt_inj, nI_toInt hp, e, tn_toInt]
    omega
theorem put_add {σ : St} {f q p : Nat} {x : Int32} : put σ f q (σ f q + x) f p = σ f p + (if p = q then x else 0) := by
  by_cases h : p = q
  · subst h
    rw [put_same, if_pos rfl]
  · rw [put_oth h, if_neg h, Int32.add_zero]
theorem nI_n0 {p : Nat} (hp : p < 2 ^ 31) : ¬ nI p < 0 := by
  rw [Int32.lt_iff_toInt_lt, nI_toInt hp, show (0 : Int32).toInt = 0 by decide]
  omega
/-! the cover of an owner, in the class -/
theorem cl_eq (σ : St) : (∀ p : Nat, p < 6 → s_X1_clear σ 100 p = 0 ∧ s_X1_clear σ 101 p = 0 ∧ s_X1_clear σ 102 p = 0) ∧ s_X1_clear σ 103 0 = 0 ∧ s_X1_clear σ 104 0 = 0 := by
  have h := it_ind (L := s_X1_clear_l2) (P := fun k (t : St) => ∀ p : Nat, p < k → t 100 p = 0 ∧ t 101 p = 0 ∧ t 102 p = 0) (s := σ) (fun p hp => absurd hp (Nat.not_lt_zero p)) 6 (fun k t _ ih p hp => by
    show upd (t 100) k 0 p = 0 ∧ upd (t 101) k 0 p = 0 ∧ upd (t 102) k 0 p = 0
    by_cases hk : p = k
    · subst hk
      exact ⟨pk_us, pk_us, pk_us⟩
    · rw [pk_un hk, pk_un hk, pk_un hk]
      exact ih p (by omega))
  exact ⟨fun p hp => h p hp, rfl, rfl⟩
def shx (σ : St) (a : Int32) (p h : Nat) : Int32 := if σ 200 h = a then (if σ 203 h = nI p then (if σ 201 h = 2 then s_X2_parts σ h else 0) else 0) else 0
def owx (σ : St) (a : Int32) (p h : Nat) : Int32 := if σ 200 h = a then (if σ 203 h = nI p then (if σ 201 h = 2 then 0 else s_X2_parts σ h) else 0) else 0
theorem ap_cg {t σ : St} (h : ∀ f : Nat, f ≠ 100 → f ≠ 101 → t f = σ f) (k : Nat) : s_X2_parts t k = s_X2_parts σ k := by
  unfold s_X2_parts
  rw [h 201 (by decide) (by decide), h 202 (by decide) (by decide)]
theorem hl_eq (σ : St) (a : Int32) (h0 : ∀ p : Nat, p < 6 → σ 100 p = 0 ∧ σ 101 p = 0) (n : Nat) : (∀ f : Nat, f ≠ 100 → f ≠ 101 → iter (s_X8_coverOf_l9 a) n 0 σ f = σ f) ∧ ∀ p : Nat, p < 6 → iter (s_X8_coverOf_l9 a) n 0 σ 100 p = Sm (shx σ a p) n ∧ iter (s_X8_coverOf_l9 a) n 0 σ 101 p = Sm (owx σ a p) n := by
  refine it_ind (L := s_X8_coverOf_l9 a) (P := fun k (t : St) => (∀ f : Nat, f ≠ 100 → f ≠ 101 → t f = σ f) ∧ ∀ p : Nat, p < 6 → t 100 p = Sm (shx σ a p) k ∧ t 101 p = Sm (owx σ a p) k) ⟨fun _ _ _ => rfl, h0⟩ n (fun k t _ ih => ?_)
  obtain ⟨hf, hs⟩ := ih
  have f200 := congrFun (hf 200 (by decide) (by decide)) k
  have f201 := congrFun (hf 201 (by decide) (by decide)) k
  have f203 := congrFun (hf 203 (by decide) (by decide)) k
  have fp := ap_cg hf k
  have stay : (∀ p : Nat, p < 6 → shx σ a p k = 0 ∧ owx σ a p k = 0) → (∀ f : Nat, f ≠ 100 → f ≠ 101 → t f = σ f) ∧ ∀ p : Nat, p < 6 → t 100 p = Sm (shx σ a p) (k + 1) ∧ t 101 p = Sm (owx σ a p) (k + 1) := by
    intro hz
    refine ⟨hf, fun p hp => ?_⟩
    show t 100 p = Sm (shx σ a p) k + shx σ a p k ∧ t 101 p = Sm (owx σ a p) k + owx σ a p k
    rw [(hz p hp).1, (hz p hp).2, Int32.add_zero, Int32.add_zero]
    exact hs p hp
  unfold s_X8_coverOf_l9
  try dsimp only
  rw [f200]
  by_cases ho : σ 200 k = a
  · rw [if_pos ho]
    unfold s_X1_addHerd
    rw [f203, f201, fp]
    by_cases h1 : σ 203 k < 0
    · rw [if_pos h1]
      refine stay (fun p hp => ?_)
      have hn : ¬ σ 203 k = nI p := fun e => nI_n0 (p := p) (by omega) (e ▸ h1)
      unfold shx owx
      rw [if_pos ho, if_neg hn, if_pos ho, if_neg hn]
      exact ⟨rfl, rfl⟩
    · rw [if_neg h1]
      by_cases h2 : σ 203 k < 6
      · rw [if_pos h2]
        by_cases h3 : σ 201 k = 2
        · rw [if_pos h3]
          refine ⟨fun f ha hb => (put_fr ha).trans (hf f ha hb), fun p hp => ?_⟩
          show put t 100 _ _ 100 p = Sm (shx σ a p) k + shx σ a p k ∧ t 101 p = Sm (owx σ a p) k + owx σ a p k
          rw [put_add, (hs p hp).1, (hs p hp).2]
          unfold shx owx
          rw [if_pos ho, if_pos ho, if_pos h3, if_pos h3]
          by_cases hq : p = (σ 203 k).toNatClampNeg
          · rw [if_pos hq, if_pos ((nI_q h1 (by omega)).mpr hq), if_pos ((nI_q h1 (by omega)).mpr hq)]
            exact ⟨by first | rfl | rw [Int32.add_zero], by first | rfl | rw [Int32.add_zero]⟩
          · have hq2 : ¬ σ 203 k = nI p := fun e => hq ((nI_q h1 (by omega)).mp e)
            rw [if_neg hq, if_neg hq2, if_neg hq2]
            exact ⟨by first | rfl | rw [Int32.add_zero] | rw [Int32.add_zero, Int32.add_zero], by first | rfl | rw [Int32.add_zero] | rw [Int32.add_zero, Int32.add_zero]⟩
        · rw [if_neg h3]
          refine ⟨fun f ha hb => (put_fr hb).trans (hf f ha hb), fun p hp => ?_⟩
          show t 100 p = Sm (shx σ a p) k + shx σ a p k ∧ put t 101 _ _ 101 p = Sm (owx σ a p) k + owx σ a p k
          rw [put_add, (hs p hp).1, (hs p hp).2]
          unfold shx owx
          rw [if_pos ho, if_pos ho, if_neg h3, if_neg h3]
          by_cases hq : p = (σ 203 k).toNatClampNeg
          · rw [if_pos hq, if_pos ((nI_q h1 (by omega)).mpr hq), if_pos ((nI_q h1 (by omega)).mpr hq)]
            exact ⟨by first | rfl | rw [Int32.add_zero], by first | rfl | rw [Int32.add_zero]⟩
          · have hq2 : ¬ σ 203 k = nI p := fun e => hq ((nI_q h1 (by omega)).mp e)
            rw [if_neg hq, if_neg hq2, if_neg hq2]
            exact ⟨by first | rfl | rw [Int32.add_zero] | rw [Int32.add_zero, Int32.add_zero], by first | rfl | rw [Int32.add_zero] | rw [Int32.add_zero, Int32.add_zero]⟩
      · rw [if_neg h2]
        refine stay (fun p hp => ?_)
        have hn : ¬ σ 203 k = nI p := by
          intro e
          apply h2
          rw [e, Int32.lt_iff_toInt_lt, nI_toInt (by omega), show (6 : Int32).toInt = 6 by decide]
          omega
        unfold shx owx
        rw [if_pos ho, if_neg hn, if_pos ho, if_neg hn]
        exact ⟨rfl, rfl⟩
  · rw [if_neg ho]
    refine stay (fun p hp => ?_)
    unfold shx owx
    rw [if_neg ho, if_neg ho]
    exact ⟨rfl, rfl⟩
