/-- the cells of the cover alone differ -/
def HF (t σ : St) : Prop := ∀ f : Nat, f ≠ 100 → f ≠ 101 → f ≠ 102 → f ≠ 103 → f ≠ 104 → t f = σ f
theorem hf_at {t σ : St} (h : HF t σ) {f : Nat} (h0 : f ≠ 100) (h1 : f ≠ 101) (h2 : f ≠ 102) (h3 : f ≠ 103) (h4 : f ≠ 104) : t f = σ f := h f h0 h1 h2 h3 h4
theorem ho_cg {t σ : St} (h : HF t σ) (k : Nat) : s_X8_holder t k = s_X8_holder σ k := by
  unfold s_X8_holder s_X8_isHouse
  rw [hf_at h (f := 0) (by decide) (by decide) (by decide) (by decide) (by decide), hf_at h (f := 6) (by decide) (by decide) (by decide) (by decide) (by decide), hf_at h (f := 803) (by decide) (by decide) (by decide) (by decide) (by decide), hf_at h (f := 813) (by decide) (by decide) (by decide) (by decide) (by decide)]
theorem fo_cg {t σ : St} (h : HF t σ) (k : Nat) (d : Int32) : s_X0_isInForce t k d = s_X0_isInForce σ k d := by
  unfold s_X0_isInForce
  rw [hf_at h (f := 8) (by decide) (by decide) (by decide) (by decide) (by decide), hf_at h (f := 2) (by decide) (by decide) (by decide) (by decide) (by decide), hf_at h (f := 3) (by decide) (by decide) (by decide) (by decide) (by decide)]
theorem cp_cg {t σ : St} (h : HF t σ) (r : Int32) : s_X8_countingParts t r = s_X8_countingParts σ r := by
  have hl : ∀ k : Nat, lentX t r k = lentX σ r k := by
    intro k
    unfold lentX
    rw [fo_cg h, hf_at h (f := 816) (by decide) (by decide) (by decide) (by decide) (by decide), hf_at h (f := 5) (by decide) (by decide) (by decide) (by decide) (by decide), hf_at h (f := 1) (by decide) (by decide) (by decide) (by decide) (by decide)]
  rw [cP_sum, cP_sum, fo_cg h, hf_at h (f := 816) (by decide) (by decide) (by decide) (by decide) (by decide), hf_at h (f := 0) (by decide) (by decide) (by decide) (by decide) (by decide), hf_at h (f := 1) (by decide) (by decide) (by decide) (by decide) (by decide), hf_at h (f := 814) (by decide) (by decide) (by decide) (by decide) (by decide)]
  rw [sm_ext (f := fun i => lentX t r (r.toNatClampNeg + 1 + i)) (g := fun i => lentX σ r (r.toNatClampNeg + 1 + i)) (fun k _ => hl _)]
def lzx (σ : St) (a : Int32) (p r : Nat) : Int32 := if s_X8_holder σ r = a then (if σ 0 r = 3 then (if σ 4 r = nI p then s_X8_countingParts σ (nI r) else 0) else 0) else 0
def wkx (σ : St) (a : Int32) (r : Nat) : Int32 := if s_X8_holder σ r = a then (if σ 0 r = 2 then s_X8_countingParts σ (nI r) else 0) else 0
def anx (σ : St) (a : Int32) (r : Nat) : Int32 := if s_X8_holder σ r = a then (if σ 0 r = 2 then 0 else if σ 0 r = 3 then 0 else s_X8_countingParts σ (nI r)) else 0
theorem rlB_eq (σ : St) (a : Int32) (h0 : ∀ p : Nat, p < 6 → σ 102 p = 0) (h3 : σ 103 0 = 0) (h4 : σ 104 0 = 0) (n : Nat) : (∀ f : Nat, f ≠ 102 → f ≠ 103 → f ≠ 104 → iter (s_X8_coverOf_l51 a) n 0 σ f = σ f) ∧ (∀ p : Nat, p < 6 → iter (s_X8_coverOf_l51 a) n 0 σ 102 p = Sm (lzx σ a p) n) ∧ iter (s_X8_coverOf_l51 a) n 0 σ 103 0 = Sm (wkx σ a) n ∧ iter (s_X8_coverOf_l51 a) n 0 σ 104 0 = Sm (anx σ a) n := by
  refine it_ind (L := s_X8_coverOf_l51 a) (P := fun k (t : St) => (∀ f : Nat, f ≠ 102 → f ≠ 103 → f ≠ 104 → t f = σ f) ∧ (∀ p : Nat, p < 6 → t 102 p = Sm (lzx σ a p) k) ∧ t 103 0 = Sm (wkx σ a) k ∧ t 104 0 = Sm (anx σ a) k) ⟨fun _ _ _ _ => rfl, h0, h3, h4⟩ n (fun k t _ ih => ?_)
  obtain ⟨hf, hs, hw, hn⟩ := ih
  have hF : HF t σ := fun f a0 a1 a2 a3 a4 => hf f a2 a3 a4
  have f0 := congrFun (hf 0 (by decide) (by decide) (by decide)) k
  have f4 := congrFun (hf 4 (by decide) (by decide) (by decide)) k
  have add0 : ∀ x : Int32, x + 0 = x := Int32.add_zero
  unfold s_X8_coverOf_l51
  try dsimp only
  rw [ho_cg hF, cp_cg hF]
  by_cases ho : s_X8_holder σ k = a
  · rw [if_pos ho]
    unfold s_X1_addRight
    rw [f0, f4]
    by_cases k2 : σ 0 k = 2
    · have n3 : ¬ σ 0 k = 3 := fun e => by rw [e] at k2; exact absurd k2 (by decide)
      rw [if_pos k2]
      refine ⟨fun f a2 a3 a4 => (put_fr a3).trans (hf f a2 a3 a4), fun p hp => ?_, ?_, ?_⟩
      · show t 102 p = Sm (lzx σ a p) k + lzx σ a p k
        rw [hs p hp]
        unfold lzx
        rw [if_pos ho, if_neg n3, add0]
      · show put t 103 0 _ 103 0 = Sm (wkx σ a) k + wkx σ a k
        rw [put_same, hw]
        unfold wkx
        rw [if_pos ho, if_pos k2]
      · show t 104 0 = Sm (anx σ a) k + anx σ a k
        rw [hn]
        unfold anx
        rw [if_pos ho, if_pos k2, add0]
    · rw [if_neg k2]
      by_cases k3 : σ 0 k = 3
      · rw [if_pos k3]
        have same : (∀ p : Nat, p < 6 → ¬ σ 4 k = nI p) → (∀ f : Nat, f ≠ 102 → f ≠ 103 → f ≠ 104 → t f = σ f) ∧ (∀ p : Nat, p < 6 → t 102 p = Sm (lzx σ a p) (k + 1)) ∧ t 103 0 = Sm (wkx σ a) (k + 1) ∧ t 104 0 = Sm (anx σ a) (k + 1) := by
          intro hz
          refine ⟨hf, fun p hp => ?_, ?_, ?_⟩
          · show t 102 p = Sm (lzx σ a p) k + lzx σ a p k
            rw [hs p hp]
            unfold lzx
            rw [if_pos ho, if_pos k3, if_neg (hz p hp), add0]
          · show t 103 0 = Sm (wkx σ a) k + wkx σ a k
            rw [hw]
            unfold wkx
            rw [if_pos ho, if_neg k2, add0]
          · show t 104 0 = Sm (anx σ a) k + anx σ a k
            rw [hn]
            unfold anx
            rw [if_pos ho, if_neg k2, if_pos k3, add0]
        by_cases p1 : σ 4 k < 0
        · rw [if_pos p1]
          exact same (fun p hp e => nI_n0 (p := p) (by omega) (e ▸ p1))
        · rw [if_neg p1]
          by_cases p2 : (6 : Int32) ≤ σ 4 k
          · rw [if_pos p2]
            refine same (fun p hp e => ?_)
            rw [e, Int32.le_iff_toInt_le, nI_toInt (by omega), show (6 : Int32).toInt = 6 by decide] at p2
            omega
          · rw [if_neg p2]
            refine ⟨fun f a2 a3 a4 => (put_fr a2).trans (hf f a2 a3 a4), fun p hp => ?_, ?_, ?_⟩
            · show put t 102 _ _ 102 p = Sm (lzx σ a p) k + lzx σ a p k
              rw [put_add, hs p hp]
              unfold lzx
              rw [if_pos ho, if_pos k3]
              by_cases hq : p = (σ 4 k).toNatClampNeg
              · rw [if_pos hq, if_pos ((nI_q p1 (by omega)).mpr hq)]
              · rw [if_neg hq, if_neg (fun e => hq ((nI_q p1 (by omega)).mp e))]
            · show t 103 0 = Sm (wkx σ a) k + wkx σ a k
              rw [hw]
              unfold wkx
              rw [if_pos ho, if_neg k2, add0]
            · show t 104 0 = Sm (anx σ a) k + anx σ a k
              rw [hn]
              unfold anx
              rw [if_pos ho, if_neg k2, if_pos k3, add0]
      · rw [if_neg k3]
        refine ⟨fun f a2 a3 a4 => (put_fr a4).trans (hf f a2 a3 a4), fun p hp => ?_, ?_, ?_⟩
        · show t 102 p = Sm (lzx σ a p) k + lzx σ a p k
          rw [hs p hp]
          unfold lzx
          rw [if_pos ho, if_neg k3, add0]
        · show t 103 0 = Sm (wkx σ a) k + wkx σ a k
          rw [hw]
          unfold wkx
          rw [if_pos ho, if_neg k2, add0]
        · show put t 104 0 _ 104 0 = Sm (anx σ a) k + anx σ a k
          rw [put_same, hn]
          unfold anx
          rw [if_pos ho, if_neg k2, if_neg k3]
  · rw [if_neg ho]
    refine ⟨hf, fun p hp => ?_, ?_, ?_⟩
    · show t 102 p = Sm (lzx σ a p) k + lzx σ a p k
      rw [hs p hp]
      unfold lzx
      rw [if_neg ho, add0]
    · show t 103 0 = Sm (wkx σ a) k + wkx σ a k
      rw [hw]
      unfold wkx
      rw [if_neg ho, add0]
    · show t 104 0 = Sm (anx σ a) k + anx σ a k
      rw [hn]
      unfold anx
      rw [if_neg ho, add0]
/-- the cover of an owner: sums over herds and rights; nothing else is touched -/
theorem cv_eq (σ : St) (a : Int32) : HF (s_X8_coverOf σ a) σ ∧ (∀ p : Nat, p < 6 → s_X8_coverOf σ a 100 p = Sm (shx σ a p) (σ 815 0).toNatClampNeg ∧ s_X8_coverOf σ a 101 p = Sm (owx σ a p) (σ 815 0).toNatClampNeg ∧ s_X8_coverOf σ a 102 p = Sm (lzx σ a p) (σ 814 0).toNatClampNeg) ∧ s_X8_coverOf σ a 103 0 = Sm (wkx σ a) (σ 814 0).toNatClampNeg ∧ s_X8_coverOf σ a 104 0 = Sm (anx σ a) (σ 814 0).toNatClampNeg := by
  obtain ⟨hc1, hc3, hc4⟩ := cl_eq σ
  have hcf : HF (s_X1_clear σ) σ := fun f a0 a1 a2 a3 a4 => fr_s_X1_clear σ a0 a1 a2 a3 a4
  obtain ⟨c0, hc0⟩ : ∃ c, s_X1_clear σ = c := ⟨_, rfl⟩
  rw [hc0] at hc1 hc3 hc4 hcf
  obtain ⟨hh1, hh2⟩ := hl_eq c0 a (fun p hp => ⟨(hc1 p hp).1, (hc1 p hp).2.1⟩) (σ 815 0).toNatClampNeg
  have ec : s_X8_coverOf σ a = iter (s_X8_coverOf_l51 a) ((iter (s_X8_coverOf_l9 a) (σ 815 0).toNatClampNeg 0 c0) 814 0).toNatClampNeg 0 (iter (s_X8_coverOf_l9 a) (σ 815 0).toNatClampNeg 0 c0) := by
    unfold s_X8_coverOf s_X8_coverOf_c9 s_X8_coverOf_c51
    try dsimp only
    rw [hc0, Nat.sub_zero, Nat.sub_zero, hf_at hcf (f := 815) (by decide) (by decide) (by decide) (by decide) (by decide)]
  obtain ⟨d0, hd0⟩ : ∃ d, iter (s_X8_coverOf_l9 a) (σ 815 0).toNatClampNeg 0 c0 = d := ⟨_, rfl⟩
  rw [hd0] at hh1 hh2 ec
  have hdf : HF d0 σ := fun f a0 a1 a2 a3 a4 => (hh1 f a0 a1).trans (hcf f a0 a1 a2 a3 a4)
  obtain ⟨hr1, hr2, hr3, hr4⟩ := rlB_eq d0 a (fun p hp => (congrFun (hh1 102 (by decide) (by decide)) p).trans (hc1 p hp).2.2) ((congrFun (hh1 103 (by decide) (by decide)) 0).trans hc3) ((congrFun (hh1 104 (by decide) (by decide)) 0).trans hc4) (d0 814 0).toNatClampNeg
  rw [← ec] at hr1 hr2 hr3 hr4
  have g814 := congrFun (hf_at hdf (f := 814) (by decide) (by decide) (by decide) (by decide) (by decide)) 0
  rw [g814] at hr2 hr3 hr4
  have xs : ∀ p h : Nat, shx c0 a p h = shx σ a p h ∧ owx c0 a p h = owx σ a p h := by
    intro p h
    have hp : s_X2_parts c0 h = s_X2_parts σ h := by
      unfold s_X2_parts
      rw [hf_at hcf (f := 201) (by decide) (by decide) (by decide) (by decide) (by decide), hf_at hcf (f := 202) (by decide) (by decide) (by decide) (by decide) (by decide)]
    unfold shx owx
    rw [hp, hf_at hcf (f := 200) (by decide) (by decide) (by decide) (by decide) (by decide), hf_at hcf (f := 201) (by decide) (by decide) (by decide) (by decide) (by decide), hf_at hcf (f := 203) (by decide) (by decide) (by decide) (by decide) (by decide)]
    exact ⟨rfl, rfl⟩
  have xr : ∀ r : Nat, (∀ p : Nat, lzx d0 a p r = lzx σ a p r) ∧ wkx d0 a r = wkx σ a r ∧ anx d0 a r = anx σ a r := by
    intro r
    have e0 := congrFun (hf_at hdf (f := 0) (by decide) (by decide) (by decide) (by decide) (by decide)) r
    have e4 := congrFun (hf_at hdf (f := 4) (by decide) (by decide) (by decide) (by decide) (by decide)) r
    refine ⟨fun p => ?_, ?_, ?_⟩
    · unfold lzx
      rw [ho_cg hdf, cp_cg hdf, e0, e4]
    · unfold wkx
      rw [ho_cg hdf, cp_cg hdf, e0]
    · unfold anx
      rw [ho_cg hdf, cp_cg hdf, e0]
  refine ⟨fun f a0 a1 a2 a3 a4 => (hr1 f a2 a3 a4).trans (hdf f a0 a1 a2 a3 a4), fun p hp => ⟨?_, ?_, ?_⟩, ?_, ?_⟩
  · rw [congrFun (hr1 100 (by decide) (by decide) (by decide)) p, (hh2 p hp).1]
    exact sm_ext (fun k _ => (xs p k).1)
  · rw [congrFun (hr1 101 (by decide) (by decide) (by decide)) p, (hh2 p hp).2]
    exact sm_ext (fun k _ => (xs p k).2)
  · rw [hr2 p hp]
    exact sm_ext (fun k _ => (xr k).1 p)
  · rw [hr3]
    exact sm_ext (fun k _ => (xr k).2.1)
  · rw [hr4]
    exact sm_ext (fun k _ => (xr k).2.2)
