/-! parts that are out, parts that are held, parts for hay -/
theorem sm_pick {y : Int32} {q : Nat} : ∀ {m : Nat}, m < 2 ^ 31 → q < m → Sm (fun p => if nI q = nI p then y else 0) m = y := by
  intro m
  induction m with
  | zero => intro _ h; exact absurd h (Nat.not_lt_zero q)
  | succ m ih =>
    intro hm hq
    show Sm (fun p => if nI q = nI p then y else 0) m + (if nI q = nI m then y else 0) = y
    by_cases e : q = m
    · subst e
      rw [if_pos rfl, sm_0 (fun k hk => if_neg (fun z => by
        have := nI_inj (by omega) (by omega) z
        omega)), Int32.zero_add]
    · rw [if_neg (fun z => e (nI_inj (by omega) (by omega) z)), ih (by omega) (by omega), Int32.add_zero]
theorem po_sum (τ : St) : s_X1_partsOut τ = Sm (fun p => τ 100 p + τ 101 p) 6 := by
  unfold s_X1_partsOut s_X1_partsOut_c4
  try dsimp only
  rw [show (6 : Int32).toNatClampNeg - 0 = 6 by decide, it_add (L := s_X1_partsOut_l4 τ) (f := fun p => τ 100 p + τ 101 p) (fun k v => rfl), Int32.zero_add]
theorem hd_sum (τ : St) : s_X1_partsHeld τ = τ 103 0 + τ 104 0 + Sm (fun p => τ 102 p) 6 := by
  unfold s_X1_partsHeld s_X1_partsHeld_c12
  try dsimp only
  rw [show (6 : Int32).toNatClampNeg - 0 = 6 by decide, it_add (L := s_X1_partsHeld_l12 τ) (f := fun p => τ 102 p) (fun k v => rfl)]
theorem out_eq {σx σm : St} (E : RE σx σm) (K : KR σm) (J : IR σm) (JJ : ∀ h : Nat, h < (σm 6 0).toNatClampNeg → ¬ σm 41 h = 0 → σm 38 h < 0) (a : Int32) : s_X1_partsOut (s_X8_coverOf σx a) = Sm (fun h => if s_X9_isOut σm (nI h) = 0 then 0 else if σm 35 h = a then s_X9_partsOfHerd σm (nI h) else 0) (σm 6 0).toNatClampNeg := by
  obtain ⟨-, c1, -⟩ := cv_eq σx a
  have e5 : σx 815 = σm 6 := E.2.2.2.2.1
  have p6 : (σm 2 0).toNatClampNeg ≤ 6 := cnt_le (ir_2 J)
  rw [po_sum, sm_ext (g := fun p => Sm (fun h => shm σm a p h + owm σm a p h) (σm 6 0).toNatClampNeg) (fun p hp => by
    rw [(c1 p hp).1, (c1 p hp).2.1, e5, sm_plus]
    exact sm_ext (fun h hh => by rw [(sh_eq E J JJ a (by omega) hh).1, (sh_eq E J JJ a (by omega) hh).2])), sm_swap]
  refine sm_ext (fun h hh => ?_)
  have h31 : h < 2 ^ 31 := Nat.lt_trans hh (tn_lt _)
  by_cases ho : s_X9_isOut σm (nI h) = 0
  · rw [if_pos ho]
    exact sm_0 (fun p _ => by
      unfold shm owm
      rw [if_pos ho, if_pos ho, Int32.add_zero])
  · rw [if_neg ho]
    by_cases h2 : σm 35 h = a
    · rw [if_pos h2]
      obtain ⟨q, hq, eq⟩ : ∃ q, q < 6 ∧ σm 38 h = nI q := by
        have n0 := (isOut_oP h31 ho).2
        rcases K.2.2.2.2 h hh with w | w
        · exact absurd (by rw [w]; decide) n0
        · obtain ⟨q, hq, e⟩ := vp_in_of w (tn_lt _)
          exact ⟨q, by omega, e⟩
      rw [sm_ext (g := fun p => if nI q = nI p then s_X9_partsOfHerd σm (nI h) else 0) (fun p _ => by
        unfold shm owm
        rw [if_neg ho, if_neg ho, if_pos h2, if_pos h2, eq]
        by_cases c : nI q = nI p
        · rw [if_pos c, if_pos c, if_pos c]
          by_cases d : σm 36 h = 2
          · rw [if_pos d, if_pos d, Int32.add_zero]
          · rw [if_neg d, if_neg d, Int32.zero_add]
        · rw [if_neg c, if_neg c, if_neg c, Int32.add_zero]), sm_pick (by decide) hq]
    · rw [if_neg h2]
      exact sm_0 (fun p _ => by
        unfold shm owm
        rw [if_neg ho, if_neg ho, if_neg h2, if_neg h2, Int32.add_zero])
theorem held_eq {σx σm : St} (E : RE σx σm) (K : KR σm) (J : IR σm) (hpc : ∀ i : Nat, σm 25 i = 3 → σx 4 i = σm 30 i) (a : Int32) : s_X1_partsHeld (s_X8_coverOf σx a) = Sm (fun r => if s_X9_ownerOfRight σm (nI r) = a then s_X9_partsOf σm (nI r) else 0) (σm 5 0).toNatClampNeg := by
  obtain ⟨-, c1, c2, c3⟩ := cv_eq σx a
  have e4 : σx 814 = σm 5 := E.2.2.2.1
  have p6 : (σm 2 0).toNatClampNeg ≤ 6 := cnt_le (ir_2 J)
  rw [hd_sum, c2, c3, e4, sm_ext (f := fun p => s_X8_coverOf σx a 102 p) (g := fun p => Sm (fun r => lzm σm a p r) (σm 5 0).toNatClampNeg) (fun p hp => by
    show s_X8_coverOf σx a 102 p = _
    rw [(c1 p hp).2.2, e4]
    exact sm_ext (fun r hr => (lz_eq E K hpc a hr).1 p)), sm_swap, sm_plus, sm_plus]
  refine sm_ext (fun r hr => ?_)
  show wkx σx a r + anx σx a r + Sm (fun p => lzm σm a p r) 6 = _
  obtain ⟨-, l2, l3⟩ := lz_eq E K hpc a hr
  rw [l2, l3]
  unfold wkm anm lzm
  by_cases h1 : s_X9_ownerOfRight σm (nI r) = a
  · simp only [if_pos h1]
    by_cases h2 : σm 25 r = 2
    · have h3 : ¬ σm 25 r = 3 := fun e => by rw [e] at h2; exact absurd h2 (by decide)
      rw [if_pos h2, if_pos h2, Int32.add_zero, sm_0 (fun p _ => if_neg h3), Int32.add_zero]
    · rw [if_neg h2, if_neg h2, Int32.zero_add]
      by_cases h3 : σm 25 r = 3
      · obtain ⟨q, hq, e⟩ := vp_in_of (K.2.2.2.1 r h3) (tn_lt _)
        rw [if_pos h3, Int32.zero_add]
        simp only [if_pos h3, e]
        exact sm_pick (by decide) (by omega)
      · rw [if_neg h3, sm_0 (fun p _ => if_neg h3), Int32.add_zero]
  · simp only [if_neg h1, Int32.zero_add]
    exact sm_0 (fun p _ => by (repeat' split) <;> rfl)
def cts (σ : St) (p r : Nat) : Int32 := s_X9_counts σ (nI r) (nI p)
def ownS (σ : St) (p o : Nat) : Int32 := Sm (fun r => if s_X9_ownerOfRight σ (nI r) = nI o then cts σ p r else 0) (σ 5 0).toNatClampNeg
def allS (σ : St) (p : Nat) : Int32 := Sm (cts σ p) (σ 5 0).toNatClampNeg
theorem pfh_eq {τ σm : St} (E : RE τ σm) (K : KR σm) (hpc : ∀ i : Nat, σm 25 i = 3 → τ 4 i = σm 30 i) {p o : Nat} (hp : p < 6) : s_X1_partsForHay (s_X8_coverOf τ (nI o)) (nI p) = ownS σm p o := by
  obtain ⟨-, c1, c2, c3⟩ := cv_eq τ (nI o)
  have e4 : τ 814 = σm 5 := E.2.2.2.1
  have n6 : ¬ (6 : Int32) ≤ nI p := by
    rw [Int32.le_iff_toInt_le, nI_toInt (by omega), show (6 : Int32).toInt = 6 by decide]
    omega
  unfold s_X1_partsForHay ownS
  rw [if_neg (nI_n0 (by omega)), if_neg n6, nI_clamp (by omega), c3, (c1 p hp).2.2, e4, sm_plus]
  refine sm_ext (fun r hr => ?_)
  have r31 : r < 2 ^ 31 := Nat.lt_trans hr (tn_lt _)
  obtain ⟨l1, -, l3⟩ := lz_eq E K hpc (nI o) hr
  rw [l1 p, l3]
  unfold anm lzm cts s_X9_counts
  rw [nI_clamp r31]
  by_cases h1 : s_X9_ownerOfRight σm (nI r) = nI o
  · simp only [if_pos h1]
    by_cases h2 : σm 25 r = 2
    · have h3 : ¬ σm 25 r = 3 := fun e => by rw [e] at h2; exact absurd h2 (by decide)
      rw [if_pos h2, if_pos h2, if_neg h3, Int32.add_zero]
    · rw [if_neg h2, if_neg h2]
      by_cases h3 : σm 25 r = 3
      · rw [if_pos h3, if_pos h3, if_pos h3, Int32.zero_add]
      · rw [if_neg h3, if_neg h3, if_neg h3, Int32.add_zero]
  · simp only [if_neg h1, Int32.zero_add]
    (repeat' split) <;> rfl
/-- owners of houses and of rights are owners -/
def KW (σ : St) : Prop := (∀ i : Nat, i < (σ 4 0).toNatClampNeg → vp_in (σ 21 i) (σ 3 0).toNatClampNeg) ∧ (∀ i : Nat, i < (σ 5 0).toNatClampNeg → ¬ σ 25 i = 1 → vp_in (σ 26 i) (σ 3 0).toNatClampNeg)
theorem kw_own {σ : St} (K : KR σ) (W : KW σ) {r : Nat} (hr : r < (σ 5 0).toNatClampNeg) : vp_in (s_X9_ownerOfRight σ (nI r)) (σ 3 0).toNatClampNeg := by
  have r31 : r < 2 ^ 31 := Nat.lt_trans hr (tn_lt _)
  unfold s_X9_ownerOfRight
  rw [nI_clamp r31]
  by_cases h1 : σ 25 r = 1
  · rw [if_pos h1]
    obtain ⟨q, hq, e⟩ := vp_in_of (K.1 r h1) (tn_lt _)
    rw [e, nI_clamp (Nat.lt_trans hq (tn_lt _))]
    exact W.1 q hq
  · rw [if_neg h1]
    exact W.2 r hr h1
theorem all_eq {σ : St} (K : KR σ) (W : KW σ) (p : Nat) : Sm (fun o => ownS σ p o) (σ 3 0).toNatClampNeg = allS σ p := by
  unfold ownS allS
  rw [sm_swap]
  refine sm_ext (fun r hr => ?_)
  obtain ⟨q, hq, e⟩ := vp_in_of (kw_own K W hr) (tn_lt _)
  rw [e]
  exact sm_pick (tn_lt _) hq
theorem i64_add {a b : Int32} (h1 : -2147483648 ≤ a.toInt + b.toInt) (h2 : a.toInt + b.toInt < 2147483648) : a.toInt64 + b.toInt64 = (a + b).toInt64 := by
  rw [← Int64.toInt_inj, add64 (by rw [ti64, ti64]; omega) (by rw [ti64, ti64]; omega), ti64, ti64, ti64, add_ti h1 h2]
theorem s64 {L : Nat → Int64 → Int64} {f : Nat → Int32} {n : Nat} (hn : n ≤ 60) (hf : ∀ k, k < n → -600000 ≤ (f k).toInt ∧ (f k).toInt ≤ 600000) (hL : ∀ k v, k < n → L k v = v + (f k).toInt64) : iter L n 0 (0 : Int64) = (Sm f n).toInt64 := by
  have key := it_ind (L := L) (P := fun k (v : Int64) => v = (Sm f k).toInt64 ∧ -600000 * (k : Int) ≤ (Sm f k).toInt ∧ (Sm f k).toInt ≤ 600000 * (k : Int)) (s := (0 : Int64)) ⟨by show (0 : Int64) = (0 : Int32).toInt64; decide, by show -600000 * ((0 : Nat) : Int) ≤ (0 : Int32).toInt; decide, by show (0 : Int32).toInt ≤ 600000 * ((0 : Nat) : Int); decide⟩ n (fun k v hk ih => by
    obtain ⟨i1, i2, i3⟩ := ih
    have b := hf k hk
    have ea : (Sm f k + f k).toInt = (Sm f k).toInt + (f k).toInt := add_ti (by omega) (by omega)
    refine ⟨?_, ?_, ?_⟩
    · show L k v = (Sm f k + f k).toInt64
      rw [hL k v hk, i1, i64_add (by omega) (by omega)]
    · show -600000 * ((k + 1 : Nat) : Int) ≤ (Sm f k + f k).toInt
      rw [ea]
      omega
    · show (Sm f k + f k).toInt ≤ 600000 * ((k + 1 : Nat) : Int)
      rw [ea]
      omega)
  exact key.1
theorem cts_b {σ : St} (K : KR σ) (n60 : (σ 5 0).toNatClampNeg ≤ 60) (p : Nat) {r : Nat} (hr : r < 2 ^ 31) : -600000 ≤ (cts σ p r).toInt ∧ (cts σ p r).toInt ≤ 600000 := by
  have z : (0 : Int32).toInt = 0 := by decide
  have pb : -600000 ≤ (s_X9_partsOf σ (nI r)).toInt ∧ (s_X9_partsOf σ (nI r)).toInt ≤ 600000 := by
    rw [pO_sum, nI_clamp hr]
    by_cases c : s_X9_isInForce σ (nI r) = 0
    · rw [if_pos c, z]
      omega
    · rw [if_neg c]
      have a := K.2.2.1 r
      have b := sm_bd (f := lent σ (nI r)) (B := 10000) (N := 60) (by decide) n60 (fun k _ => by
        unfold lent
        have := K.2.2.1 k
        (repeat' split) <;> first | (rw [z]; omega) | omega)
      have := b.2
      rw [sub_ti (by omega) (by omega)]
      omega
  unfold cts s_X9_counts
  (repeat' split) <;> first | exact pb | (rw [z]; omega)
