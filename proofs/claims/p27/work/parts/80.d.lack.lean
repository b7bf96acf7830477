/-! what an owner lacks, in the reference -/
def shm (σ : St) (a : Int32) (p h : Nat) : Int32 := if s_X9_isOut σ (nI h) = 0 then 0 else if σ 35 h = a then (if σ 38 h = nI p then (if σ 36 h = 2 then s_X9_partsOfHerd σ (nI h) else 0) else 0) else 0
def owm (σ : St) (a : Int32) (p h : Nat) : Int32 := if s_X9_isOut σ (nI h) = 0 then 0 else if σ 35 h = a then (if σ 38 h = nI p then (if σ 36 h = 2 then 0 else s_X9_partsOfHerd σ (nI h)) else 0) else 0
def lzm (σ : St) (a : Int32) (p r : Nat) : Int32 := if σ 25 r = 3 then (if σ 30 r = nI p then (if s_X9_ownerOfRight σ (nI r) = a then s_X9_partsOf σ (nI r) else 0) else 0) else 0
def wkm (σ : St) (a : Int32) (r : Nat) : Int32 := if s_X9_ownerOfRight σ (nI r) = a then (if σ 25 r = 2 then s_X9_partsOf σ (nI r) else 0) else 0
def anm (σ : St) (a : Int32) (r : Nat) : Int32 := if s_X9_ownerOfRight σ (nI r) = a then (if σ 25 r = 2 then 0 else if σ 25 r = 3 then 0 else s_X9_partsOf σ (nI r)) else 0
def oth (O L : Int32) : Int32 := O - (if O < L then O else L)
def she (S O L : Int32) : Int32 := S - (if S < (L - (if O < L then O else L)) then S else (L - (if O < L then O else L)))
theorem l100_eq (σ : St) (a : Int32) (p n : Nat) : iter (s_X9_lacksOf_l100 σ a p) n 0 (0, 0) = (Sm (shm σ a p) n, Sm (owm σ a p) n) := by
  refine it_ind (L := s_X9_lacksOf_l100 σ a p) (P := fun k (x : Int32 × Int32) => x = (Sm (shm σ a p) k, Sm (owm σ a p) k)) rfl n (fun k t _ ih => ?_)
  rw [ih]
  show s_X9_lacksOf_l100 σ a p k (Sm (shm σ a p) k, Sm (owm σ a p) k) = (Sm (shm σ a p) k + shm σ a p k, Sm (owm σ a p) k + owm σ a p k)
  unfold s_X9_lacksOf_l100 shm owm
  try dsimp only
  by_cases h1 : s_X9_isOut σ (nI k) = 0
  · simp only [if_pos h1, Int32.add_zero]
  · by_cases h2 : σ 35 k = a
    · by_cases h3 : σ 38 k = nI p
      · by_cases h4 : σ 36 k = 2
        · simp only [if_neg h1, if_pos h2, if_pos h3, if_pos h4, Int32.add_zero]
        · simp only [if_neg h1, if_pos h2, if_pos h3, if_neg h4, Int32.add_zero]
      · simp only [if_neg h1, if_pos h2, if_neg h3, Int32.add_zero]
    · simp only [if_neg h1, if_neg h2, Int32.add_zero]
theorem l34_eq (σ : St) (a : Int32) (p n : Nat) : iter (s_X9_lacksOf_l34 σ a p) n 0 0 = Sm (lzm σ a p) n := by
  rw [it_add (f := lzm σ a p) (fun k v => ?_), Int32.zero_add]
  unfold s_X9_lacksOf_l34 lzm
  try dsimp only
  by_cases h1 : σ 25 k = 3
  · by_cases h2 : σ 30 k = nI p
    · by_cases h3 : s_X9_ownerOfRight σ (nI k) = a
      · simp only [if_pos h1, if_pos h2, if_pos h3]
      · simp only [if_pos h1, if_pos h2, if_neg h3]
    · simp only [if_pos h1, if_neg h2]
  · simp only [if_neg h1]
theorem l232_eq (σ : St) (a : Int32) (n : Nat) : iter (s_X9_lacksOf_l232 σ a) n 0 (0, 0) = (Sm (wkm σ a) n, Sm (anm σ a) n) := by
  refine it_ind (L := s_X9_lacksOf_l232 σ a) (P := fun k (x : Int32 × Int32) => x = (Sm (wkm σ a) k, Sm (anm σ a) k)) rfl n (fun k t _ ih => ?_)
  rw [ih]
  show s_X9_lacksOf_l232 σ a k (Sm (wkm σ a) k, Sm (anm σ a) k) = (Sm (wkm σ a) k + wkm σ a k, Sm (anm σ a) k + anm σ a k)
  unfold s_X9_lacksOf_l232 wkm anm
  try dsimp only
  by_cases h1 : s_X9_ownerOfRight σ (nI k) = a
  · by_cases h2 : σ 25 k = 2
    · simp only [if_pos h1, if_pos h2, Int32.add_zero]
    · by_cases h3 : σ 25 k = 3
      · simp only [if_pos h1, if_neg h2, if_pos h3, Int32.add_zero]
      · simp only [if_pos h1, if_neg h2, if_neg h3, Int32.add_zero]
  · simp only [if_neg h1, Int32.add_zero]
def othM (σ : St) (a : Int32) (p : Nat) : Int32 := oth (Sm (owm σ a p) (σ 6 0).toNatClampNeg) (Sm (lzm σ a p) (σ 5 0).toNatClampNeg)
def sheM (σ : St) (a : Int32) (p : Nat) : Int32 := she (Sm (shm σ a p) (σ 6 0).toNatClampNeg) (Sm (owm σ a p) (σ 6 0).toNatClampNeg) (Sm (lzm σ a p) (σ 5 0).toNatClampNeg)
theorem l13_eq (σ : St) (a : Int32) (n : Nat) : iter (s_X9_lacksOf_l13 σ a) n 0 (0, 0) = (Sm (othM σ a) n, Sm (sheM σ a) n) := by
  refine it_ind (L := s_X9_lacksOf_l13 σ a) (P := fun k (x : Int32 × Int32) => x = (Sm (othM σ a) k, Sm (sheM σ a) k)) rfl n (fun k t _ ih => ?_)
  rw [ih]
  show s_X9_lacksOf_l13 σ a k (Sm (othM σ a) k, Sm (sheM σ a) k) = (Sm (othM σ a) k + othM σ a k, Sm (sheM σ a) k + sheM σ a k)
  unfold s_X9_lacksOf_l13 s_X9_lacksOf_c34
  try dsimp only
  rw [Nat.sub_zero, Nat.sub_zero, l34_eq, l100_eq]
  rfl
def lackF (V5 V4 wk an : Int32) : Int32 := (if 0 < ((V5 + (if 0 < (V4 - wk) then (V4 - wk) else 0)) - an) then ((V5 + (if 0 < (V4 - wk) then (V4 - wk) else 0)) - an) else 0)
theorem lm_eq (σ : St) (a : Int32) : s_X9_lacksOf σ a = lackF (Sm (othM σ a) (σ 2 0).toNatClampNeg) (Sm (sheM σ a) (σ 2 0).toNatClampNeg) (Sm (wkm σ a) (σ 5 0).toNatClampNeg) (Sm (anm σ a) (σ 5 0).toNatClampNeg) := by
  unfold s_X9_lacksOf s_X9_lacksOf_c13
  rw [Nat.sub_zero, l13_eq]
  try dsimp only
  rw [Nat.sub_zero, l232_eq]
  rfl
def ltm (a b : Int32) : Int32 := if 0 < (a - b) then (a - b) else 0
theorem l6_eq (τ : St) (n : Nat) : iter (s_X1_lack_l6 τ) n 0 (0, 0) = (Sm (fun p => ltm (τ 100 p) (ltm (τ 102 p) (τ 101 p))) n, Sm (fun p => ltm (τ 101 p) (τ 102 p)) n) := by
  refine it_ind (L := s_X1_lack_l6 τ) (P := fun k (x : Int32 × Int32) => x = (Sm (fun p => ltm (τ 100 p) (ltm (τ 102 p) (τ 101 p))) k, Sm (fun p => ltm (τ 101 p) (τ 102 p)) k)) rfl n (fun k t _ ih => ?_)
  rw [ih]
  rfl
theorem lx_eq (τ : St) : s_X1_lack τ = lackF (Sm (fun p => ltm (τ 101 p) (τ 102 p)) 6) (Sm (fun p => ltm (τ 100 p) (ltm (τ 102 p) (τ 101 p))) 6) (τ 103 0) (τ 104 0) := by
  unfold s_X1_lack s_X1_lack_c6
  rw [show ((6 : Int32).toNatClampNeg - 0) = 6 by decide, l6_eq]
  rfl
theorem out_1 {σ : St} {h p : Nat} (J : ∀ h : Nat, h < (σ 6 0).toNatClampNeg → ¬ σ 41 h = 0 → σ 38 h < 0) (hh : h < (σ 6 0).toNatClampNeg) (hp : p < 2 ^ 31) (e : σ 38 h = nI p) : ¬ s_X9_isOut σ (nI h) = 0 := by
  have h31 : h < 2 ^ 31 := Nat.lt_trans hh (tn_lt _)
  have n0 : ¬ σ 38 h < 0 := by rw [e]; exact nI_n0 hp
  have s0 : σ 41 h = 0 := Decidable.byContradiction (fun hc => n0 (J h hh hc))
  unfold s_X9_isOut
  rw [nI_clamp h31, if_pos s0, if_neg n0]
  decide
theorem sh_eq {σx σm : St} (e : RE σx σm) (J : IR σm) (JJ : ∀ h : Nat, h < (σm 6 0).toNatClampNeg → ¬ σm 41 h = 0 → σm 38 h < 0) (a : Int32) {p h : Nat} (hp : p < 2 ^ 31) (hh : h < (σm 6 0).toNatClampNeg) : shx σx a p h = shm σm a p h ∧ owx σx a p h = owm σm a p h := by
  have h31 : h < 2 ^ 31 := Nat.lt_trans hh (tn_lt _)
  have hpp := pp_eq e (ir_36 J h) h31
  obtain ⟨e1, e2, e3, e4, e5, e6, e7, e8, e9, e10, e11, e12, e13, e14, e15, e16, e17, e18⟩ := e
  unfold shx owx shm owm
  rw [hpp, e15, e16, e18]
  by_cases h3 : σm 38 h = nI p
  · have ho := out_1 JJ hh hp h3
    simp only [if_neg ho]
    exact ⟨trivial, trivial⟩
  · by_cases ho : s_X9_isOut σm (nI h) = 0
    · simp only [if_pos ho, if_neg h3, ite_self]
      exact ⟨trivial, trivial⟩
    · simp only [if_neg ho, if_neg h3, ite_self]
      exact ⟨trivial, trivial⟩
theorem lz_eq {σx σm : St} (e : RE σx σm) (K : KR σm) (hpc : ∀ i : Nat, σm 25 i = 3 → σx 4 i = σm 30 i) (a : Int32) {r : Nat} (hr : r < (σm 5 0).toNatClampNeg) : (∀ p : Nat, lzx σx a p r = lzm σm a p r) ∧ wkx σx a r = wkm σm a r ∧ anx σx a r = anm σm a r := by
  have hr31 : r < 2 ^ 31 := Nat.lt_trans hr (tn_lt _)
  have h1 := ho_eq e K hr31
  have h2 := pt_eq e K hr
  have e8 := e.2.2.2.2.2.2.2.1
  refine ⟨fun p => ?_, ?_, ?_⟩
  · unfold lzx lzm
    rw [h1, h2, e8]
    by_cases h3 : σm 25 r = 3
    · rw [hpc r h3]
      by_cases h4 : σm 30 r = nI p
      · simp only [if_pos h3, if_pos h4]
      · simp only [if_pos h3, if_neg h4, ite_self]
    · simp only [if_neg h3, ite_self]
  · unfold wkx wkm
    rw [h1, h2, e8]
  · unfold anx anm
    rw [h1, h2, e8]
theorem cnt_le {x : Int32} {N : Nat} (h : 0 ≤ x.toInt ∧ x.toInt ≤ (N : Int)) : x.toNatClampNeg ≤ N := by
  rw [tn_toInt]
  omega
theorem z_bd {N : Nat} : 0 ≤ (0 : Int32).toInt ∧ (0 : Int32).toInt ≤ (N : Int) := by
  rw [show (0 : Int32).toInt = 0 by decide]
  omega
theorem hm_bd {σ : St} (J : IR σ) (a : Int32) (p : Nat) {h : Nat} (hh : h < 2 ^ 31) : (0 ≤ (shm σ a p h).toInt ∧ (shm σ a p h).toInt ≤ ((4500 : Nat) : Int)) ∧ (0 ≤ (owm σ a p h).toInt ∧ (owm σ a p h).toInt ≤ ((4500 : Nat) : Int)) := by
  have hb : 0 ≤ (s_X9_partsOfHerd σ (nI h)).toInt ∧ (s_X9_partsOfHerd σ (nI h)).toInt ≤ ((4500 : Nat) : Int) := ph_bd J hh
  unfold shm owm
  constructor
  · repeat' split
    all_goals first | exact hb | exact z_bd
  · repeat' split
    all_goals first | exact hb | exact z_bd
theorem lz_bd {σ : St} (K : KR σ) (a : Int32) (p : Nat) {r : Nat} (hr : r < (σ 5 0).toNatClampNeg) : 0 ≤ (lzm σ a p r).toInt ∧ (lzm σ a p r).toInt ≤ ((10000 : Nat) : Int) := by
  have hr31 : r < 2 ^ 31 := Nat.lt_trans hr (tn_lt _)
  unfold lzm
  by_cases h3 : σ 25 r = 3
  · rw [if_pos h3]
    have hb : 0 ≤ (s_X9_partsOf σ (nI r)).toInt ∧ (s_X9_partsOf σ (nI r)).toInt ≤ ((10000 : Nat) : Int) := by
      rw [pO_sum, sm_0 (fun k hk => lent_0 K hr31 hk (Or.inr (fun e => by rw [e] at h3; exact absurd h3 (by decide)))), Int32.sub_zero, nI_clamp hr31]
      split
      · exact z_bd
      · exact K.2.2.1 r
    repeat' split
    all_goals first | exact hb | exact z_bd
  · rw [if_neg h3]
    exact z_bd
theorem lo_1 (σ : St) (a : Int32) : (s_X8_lackOf σ a).1 = s_X1_lack (s_X8_coverOf σ a) := by simp only [s_X8_lackOf]
/-- what an owner lacks: class and reference -/
theorem lk_eq {σx σm : St} (e : RE σx σm) (K : KR σm) (hpc : ∀ i : Nat, σm 25 i = 3 → σx 4 i = σm 30 i) (J : IR σm) (JJ : ∀ h : Nat, h < (σm 6 0).toNatClampNeg → ¬ σm 41 h = 0 → σm 38 h < 0) (a : Int32) : (s_X8_lackOf σx a).1 = s_X9_lacksOf σm a := by
  rw [lo_1]
  obtain ⟨-, hc, hw, hn⟩ := cv_eq σx a
  have e814 : σx 814 0 = σm 5 0 := congrFun e.2.2.2.1 0
  have e815 : σx 815 0 = σm 6 0 := congrFun e.2.2.2.2.1 0
  rw [e814] at hc hw hn
  rw [e815] at hc
  have n5 : (σm 5 0).toNatClampNeg ≤ 60 := cnt_le (ir_5 J)
  have n6 : (σm 6 0).toNatClampNeg ≤ 20 := cnt_le (ir_6 J)
  have n2 : (σm 2 0).toNatClampNeg ≤ 6 := cnt_le (ir_2 J)
  rw [lx_eq, lm_eq, hw, hn]
  have hs : ∀ p : Nat, p < 6 → s_X8_coverOf σx a 100 p = Sm (shm σm a p) (σm 6 0).toNatClampNeg ∧ s_X8_coverOf σx a 101 p = Sm (owm σm a p) (σm 6 0).toNatClampNeg ∧ s_X8_coverOf σx a 102 p = Sm (lzm σm a p) (σm 5 0).toNatClampNeg := by
    intro p hp
    obtain ⟨h1, h2, h3⟩ := hc p hp
    rw [h1, h2, h3]
    exact ⟨sm_ext (fun k hk => (sh_eq e J JJ a (by omega) hk).1), sm_ext (fun k hk => (sh_eq e J JJ a (by omega) hk).2), sm_ext (fun k hk => (lz_eq e K hpc a hk).1 p)⟩
  rw [sm_ext (f := wkx σx a) (g := wkm σm a) (fun k hk => (lz_eq e K hpc a hk).2.1), sm_ext (f := anx σx a) (g := anm σm a) (fun k hk => (lz_eq e K hpc a hk).2.2)]
  have bO : ∀ p : Nat, 0 ≤ (Sm (owm σm a p) (σm 6 0).toNatClampNeg).toInt := fun p => (sm_bd (B := 4500) (N := 20) (by decide) n6 (fun k hk => (hm_bd J a p (by omega)).2)).1
  have bS : ∀ p : Nat, 0 ≤ (Sm (shm σm a p) (σm 6 0).toNatClampNeg).toInt := fun p => (sm_bd (B := 4500) (N := 20) (by decide) n6 (fun k hk => (hm_bd J a p (by omega)).1)).1
  have bL : ∀ p : Nat, 0 ≤ (Sm (lzm σm a p) (σm 5 0).toNatClampNeg).toInt := fun p => (sm_bd (B := 10000) (N := 60) (by decide) n5 (fun k hk => lz_bd K a p hk)).1
  have ho : ∀ p : Nat, p < 6 → ltm (s_X8_coverOf σx a 101 p) (s_X8_coverOf σx a 102 p) = othM σm a p := by
    intro p hp
    rw [(hs p hp).2.1, (hs p hp).2.2]
    exact (mm_1 (bL p) (bO p)).symm
  have hh : ∀ p : Nat, p < 6 → ltm (s_X8_coverOf σx a 100 p) (ltm (s_X8_coverOf σx a 102 p) (s_X8_coverOf σx a 101 p)) = sheM σm a p := by
    intro p hp
    rw [(hs p hp).1, (hs p hp).2.1, (hs p hp).2.2]
    unfold sheM she
    rw [mm_2 (bL p) (bO p)]
    exact (mm_1 (mm_b (bL p) (bO p)) (bS p)).symm
  have zp : ∀ p : Nat, (σm 2 0).toNatClampNeg ≤ p → p < 6 → othM σm a p = 0 ∧ sheM σm a p = 0 := by
    intro p h1 h2
    have z1 : ∀ h : Nat, h < (σm 6 0).toNatClampNeg → ¬ σm 38 h = nI p := by
      intro h hh eq
      rcases K.2.2.2.2 h hh with hb | hb
      · rw [eq] at hb
        exact nI_n0 (p := p) (by omega) (by rw [hb]; decide)
      · rw [eq, vp_in_iff, nI_toInt (by omega)] at hb
        omega
    have z2 : ∀ r : Nat, σm 25 r = 3 → ¬ σm 30 r = nI p := by
      intro r h3 eq
      have hb := K.2.2.2.1 r h3
      rw [eq, vp_in_iff, nI_toInt (by omega)] at hb
      omega
    have s1 : Sm (owm σm a p) (σm 6 0).toNatClampNeg = 0 := sm_0 (fun k hk => by
      unfold owm
      simp only [if_neg (z1 k hk), ite_self])
    have s2 : Sm (shm σm a p) (σm 6 0).toNatClampNeg = 0 := sm_0 (fun k hk => by
      unfold shm
      simp only [if_neg (z1 k hk), ite_self])
    have s3 : Sm (lzm σm a p) (σm 5 0).toNatClampNeg = 0 := sm_0 (fun k _ => by
      unfold lzm
      by_cases h3 : σm 25 k = 3
      · rw [if_pos h3, if_neg (z2 k h3)]
      · rw [if_neg h3])
    unfold othM sheM
    rw [s1, s2, s3]
    exact ⟨by decide, by decide⟩
  have six : (6 : Nat) = (σm 2 0).toNatClampNeg + (6 - (σm 2 0).toNatClampNeg) := by omega
  rw [sm_ext (n := 6) ho, sm_ext (n := 6) hh]
  rw [six, sm_split, sm_split, sm_0 (f := fun i => othM σm a ((σm 2 0).toNatClampNeg + i)) (fun k hk => (zp _ (by omega) (by omega)).1), sm_0 (f := fun i => sheM σm a ((σm 2 0).toNatClampNeg + i)) (fun k hk => (zp _ (by omega) (by omega)).2), Int32.add_zero, Int32.add_zero]
