theorem k_up {x : Int} {k : Nat} (h : x ≤ (k : Int)) : x ≤ ((k + 1 : Nat) : Int) := by omega
theorem ra_u {f g : Nat → Int32} (e : f = g) (i : Nat) (x : Int32) : upd f i x = upd g i x := by rw [e]
theorem ra_lt {x n : Int32} {N : Nat} (h : 0 ≤ x.toInt ∧ x.toInt ≤ (N : Int)) (hn : n.toInt = (N : Int)) : (x < n) = ¬ (x = n) := by
  rw [Int32.lt_iff_toInt_lt, ← Int32.toInt_inj]
  exact propext ⟨fun h1 => by omega, fun h1 => by omega⟩
theorem ra_10 : ((1 : Int32) = 0) = False := eq_false (by decide)
theorem ra_mc (x y : Int32) : x * 10 + y = 10 * x + y := by rw [Int32.mul_comm]
theorem ra_io (σ : St) (a : Int32) : s_X8_isOwner σ a = s_X9_isIn a (σ 812 0) := rfl
theorem ra_ih (σ : St) (a : Int32) : s_X8_isHouse σ a = s_X9_isIn a (σ 813 0) := rfl
theorem ra_ip (σ : St) (a : Int32) : s_X8_isPiece σ a = s_X9_isIn a (σ 811 0) := rfl
theorem ra_ir (σ : St) (a : Int32) : s_X8_isRight σ a = s_X9_isIn a (σ 814 0) := rfl
theorem ra_ie (σ : St) (a : Int32) : s_X8_isHerd σ a = s_X9_isIn a (σ 815 0) := rfl
theorem ra_iw (a b : Int32) : s_X7_isWeather a b = if s_X9_isIn a 10 = 0 then 0 else if s_X9_isIn b 10 = 0 then 0 else 1 := by
  unfold s_X7_isWeather s_X9_isIn
  by_cases h1 : a < 0 <;> by_cases h2 : (10 : Int32) ≤ a <;> by_cases h3 : b < 0 <;> by_cases h4 : (10 : Int32) ≤ b <;> simp [h1, h2, h3, h4]
theorem upd_id {f : Nat → Int32} {i : Nat} {x : Int32} (h : f i = x) : upd f i x = f := by
  funext j
  by_cases hj : j = i
  · subst hj
    rw [pk_us, h]
  · rw [pk_un hj]
theorem vpm_9 {x : Int32} {n m : Nat} (h : vp_in x n) (hn : n ≤ m) : vp_in x m := by
  rw [vp_in_iff] at h ⊢
  omega
theorem inc_n9 {x : Int32} {N : Nat} (h : 0 ≤ x.toInt ∧ x.toInt ≤ (N : Int)) (hN : N < 1000000) : (x + 1).toNatClampNeg = x.toNatClampNeg + 1 := by
  have e1 : (1 : Int32).toInt = 1 := by decide
  rw [tn_toInt, tn_toInt, add_ti (by rw [e1]; omega) (by rw [e1]; omega), e1]
  omega
def RG (σx σm : St) : Prop := σx 206 = σm 41 ∧ σx 207 = σm 42 ∧ σx 400 = σm 14 ∧ σx 401 = σm 15 ∧ σx 402 = σm 18 ∧ σx 404 = σm 16 ∧ σx 500 = σm 19 ∧ σx 590 = σm 8 ∧ σx 818 = σm 12 ∧ σx 700 = σm 22
def RP (σx σm : St) : Prop := ∀ i : Nat, σm 25 i = 3 → σx 4 i = σm 30 i
def RU (σx σm : St) : Prop := ∀ i : Nat, σm 33 i = 0 → σx 7 i = σm 32 i
/-- the orders of the herds that are out: class and reference count them otherwise, but alike -/
def RO (k : Nat) (σx σm : St) : Prop := (0 ≤ (σx 817 0).toInt ∧ (σx 817 0).toInt ≤ (k : Int)) ∧ (∀ h : Nat, h < (σm 6 0).toNatClampNeg → ¬ σm 38 h < 0 → 0 < (σx 204 h).toInt ∧ (σx 204 h).toInt ≤ (σx 817 0).toInt) ∧ (∀ h j : Nat, h < (σm 6 0).toNatClampNeg → j < (σm 6 0).toNatClampNeg → ¬ σm 38 h < 0 → ¬ σm 38 j < 0 → ((σx 204 h).toInt < (σx 204 j).toInt ↔ (σm 39 h).toInt < (σm 39 j).toInt))
def KQ (σ : St) : Prop := (∀ h : Nat, (σ 6 0).toNatClampNeg ≤ h → σ 41 h = 0 ∧ σ 42 h = 0) ∧ (∀ i : Nat, (σ 5 0).toNatClampNeg ≤ i → σ 33 i = 0) ∧ (∀ i j : Nat, i < (σ 5 0).toNatClampNeg → j < i → σ 31 i = nI j → σ 28 j ≤ σ 28 i ∧ σ 29 i ≤ σ 29 j) ∧ (∀ h : Nat, h < (σ 6 0).toNatClampNeg → σ 41 h = 1 → 0 ≤ (σ 42 h).toInt ∧ (σ 42 h).toInt ≤ (σ 1 0).toInt ∧ (σ 1 0).toInt - (σ 42 h).toInt + 1 ≤ 30) ∧ (∀ i : Nat, (0 ≤ (σ 28 i).toInt ∧ (σ 28 i).toInt ≤ 720) ∧ (-9 ≤ (σ 32 i).toInt ∧ (σ 32 i).toInt ≤ 720))
def RelB (k : Nat) (σx σm : St) : Prop := RE σx σm ∧ RG σx σm ∧ RP σx σm ∧ RU σx σm ∧ RO k σx σm ∧ KR σm ∧ KQ σm
theorem ro_mono {k : Nat} {σx σm : St} (h : RO k σx σm) : RO (k + 1) σx σm := ⟨⟨h.1.1, by have := h.1.2; omega⟩, h.2⟩
theorem rlB_mono {k : Nat} {σx σm : St} (h : RelB k σx σm) : RelB (k + 1) σx σm := ⟨h.1, h.2.1, h.2.2.1, h.2.2.2.1, ro_mono h.2.2.2.2.1, h.2.2.2.2.2⟩
theorem relB_0 : RelB 0 sx0 (fun _ _ => 0) := by
  have z : ((0 : Int32)).toNatClampNeg = 0 := by decide
  refine ⟨⟨rfl, rfl, rfl, rfl, rfl, rfl, rfl, rfl, rfl, rfl, rfl, rfl, rfl, rfl, rfl, rfl, rfl, rfl⟩, ⟨rfl, rfl, rfl, rfl, rfl, rfl, rfl, rfl, rfl, rfl⟩, fun i h => ?_, fun i h => rfl, ⟨⟨by decide, by decide⟩, fun h hh => ?_, fun h j hh => ?_⟩, ⟨fun i h => ?_, fun i h => ?_, fun i => ⟨by dsimp only; decide, by dsimp only; decide⟩, fun i h => ?_, fun h hh => ?_⟩, ⟨fun h _ => ⟨rfl, rfl⟩, fun i _ => rfl, fun i j h => ?_, fun h hh => ?_, fun i => ⟨⟨by dsimp only; decide, by dsimp only; decide⟩, by dsimp only; decide, by dsimp only; decide⟩⟩⟩
  · exact absurd h (by dsimp only; decide)
  · exact absurd (show h < (0 : Int32).toNatClampNeg from hh) (by rw [z]; omega)
  · exact absurd (show h < (0 : Int32).toNatClampNeg from hh) (by rw [z]; omega)
  · exact absurd h (by dsimp only; decide)
  · exact absurd (show i < (0 : Int32).toNatClampNeg from h) (by rw [z]; omega)
  · exact absurd h (by dsimp only; decide)
  · exact absurd (show h < (0 : Int32).toNatClampNeg from hh) (by rw [z]; omega)
  · exact absurd (show i < (0 : Int32).toNatClampNeg from h) (by rw [z]; omega)
  · exact absurd (show h < (0 : Int32).toNatClampNeg from hh) (by rw [z]; omega)
def FXl : List Nat := [811, 812, 813, 814, 815, 816, 803, 0, 1, 2, 3, 5, 6, 8, 200, 201, 202, 203, 206, 207, 400, 401, 402, 404, 500, 590, 818, 700, 4, 7, 204, 817]
def FMl : List Nat := [2, 3, 4, 5, 6, 1, 21, 25, 27, 28, 29, 31, 26, 33, 35, 36, 37, 38, 41, 42, 14, 15, 18, 16, 19, 8, 12, 22, 30, 32, 39]
set_option maxRecDepth 20000 in
theorem rel_cast {k : Nat} {σx σm τx τm : St} (R : RelB k σx σm) (x : ∀ f : Nat, f ∈ FXl → τx f = σx f) (m : ∀ f : Nat, f ∈ FMl → τm f = σm f) : RelB (k + 1) τx τm := by
  have x811 := x 811 (by decide)
  have x812 := x 812 (by decide)
  have x813 := x 813 (by decide)
  have x814 := x 814 (by decide)
  have x815 := x 815 (by decide)
  have x816 := x 816 (by decide)
  have x803 := x 803 (by decide)
  have x0 := x 0 (by decide)
  have x1 := x 1 (by decide)
  have x2 := x 2 (by decide)
  have x3 := x 3 (by decide)
  have x5 := x 5 (by decide)
  have x6 := x 6 (by decide)
  have x8 := x 8 (by decide)
  have x200 := x 200 (by decide)
  have x201 := x 201 (by decide)
  have x202 := x 202 (by decide)
  have x203 := x 203 (by decide)
  have x206 := x 206 (by decide)
  have x207 := x 207 (by decide)
  have x400 := x 400 (by decide)
  have x401 := x 401 (by decide)
  have x402 := x 402 (by decide)
  have x404 := x 404 (by decide)
  have x500 := x 500 (by decide)
  have x590 := x 590 (by decide)
  have x818 := x 818 (by decide)
  have x700 := x 700 (by decide)
  have x4 := x 4 (by decide)
  have x7 := x 7 (by decide)
  have x204 := x 204 (by decide)
  have x817 := x 817 (by decide)
  have m2 := m 2 (by decide)
  have m3 := m 3 (by decide)
  have m4 := m 4 (by decide)
  have m5 := m 5 (by decide)
  have m6 := m 6 (by decide)
  have m1 := m 1 (by decide)
  have m21 := m 21 (by decide)
  have m25 := m 25 (by decide)
  have m27 := m 27 (by decide)
  have m28 := m 28 (by decide)
  have m29 := m 29 (by decide)
  have m31 := m 31 (by decide)
  have m26 := m 26 (by decide)
  have m33 := m 33 (by decide)
  have m35 := m 35 (by decide)
  have m36 := m 36 (by decide)
  have m37 := m 37 (by decide)
  have m38 := m 38 (by decide)
  have m41 := m 41 (by decide)
  have m42 := m 42 (by decide)
  have m14 := m 14 (by decide)
  have m15 := m 15 (by decide)
  have m18 := m 18 (by decide)
  have m16 := m 16 (by decide)
  have m19 := m 19 (by decide)
  have m8 := m 8 (by decide)
  have m12 := m 12 (by decide)
  have m22 := m 22 (by decide)
  have m30 := m 30 (by decide)
  have m32 := m 32 (by decide)
  have m39 := m 39 (by decide)
  obtain ⟨h1, h2, h3, h4, h5, h6, h7⟩ := R
  refine ⟨?_, ?_, ?_, ?_, ro_mono ?_, ?_, ?_⟩
  · unfold RE at h1 ⊢
    simp only [x811, x812, x813, x814, x815, x816, x803, x0, x1, x2, x3, x5, x6, x8, x200, x201, x202, x203, m2, m3, m4, m5, m6, m1, m21, m25, m27, m28, m29, m31, m26, m33, m35, m36, m37, m38]
    exact h1
  · unfold RG at h2 ⊢
    simp only [x206, x207, x400, x401, x402, x404, x500, x590, x818, x700, m41, m42, m14, m15, m18, m16, m19, m8, m12, m22]
    exact h2
  · unfold RP at h3 ⊢
    simp only [x4, m25, m30]
    exact h3
  · unfold RU at h4 ⊢
    simp only [x7, m33, m32]
    exact h4
  · unfold RO at h5 ⊢
    simp only [x817, x204, m6, m38, m39]
    exact h5
  · unfold KR at h6 ⊢
    simp only [m25, m26, m4, m5, m31, m27, m30, m2, m6, m38]
    exact h6
  · unfold KQ at h7 ⊢
    simp only [m6, m41, m42, m5, m33, m31, m28, m29, m1, m32]
    exact h7
theorem rel_ref {k : Nat} {σx σm : St} (R : RelB k σx σm) (c d : Int32) : RelB (k + 1) (s_X8_refuse σx c).2 (s_X9_refuse σm d).2 := rel_cast R (fun f hf => fr_s_X8_refuse σx c (fun e => absurd (e ▸ hf) (by decide))) (fun f hf => fr_s_X9_refuse σm d (fun e => absurd (e ▸ hf) (by decide)))
theorem rlB_weather {k : Nat} {σx σm : St} (hk : k ≤ 511) (hI : IX σx) (hJ : IR σm) (hJR : JR σm) (hR : RelB k σx σm) (a1 a2 a3 : Int32) : RelB (k + 1) (s_X8_weather σx a1 a2 a3).2 (s_X9_weather σm a1 a2 a3).2 := rel_cast hR (fun f hf => fr_s_X8_weather σx a1 a2 a3 (fun e => absurd (e ▸ hf) (by decide)) (fun e => absurd (e ▸ hf) (by decide))) (fun f hf => fr_s_X9_weather σm a1 a2 a3 (fun e => absurd (e ▸ hf) (by decide)) (fun e => absurd (e ▸ hf) (by decide)) (fun e => absurd (e ▸ hf) (by decide)))
theorem rlB_covered {k : Nat} {σx σm : St} (hk : k ≤ 511) (hI : IX σx) (hJ : IR σm) (hJR : JR σm) (hR : RelB k σx σm) (a1 : Int32) : RelB (k + 1) (s_X8_covered σx a1).2 (s_X9_covered σm a1).2 := rel_cast hR (fun f hf => fr_s_X8_covered σx a1 (fun e => absurd (e ▸ hf) (by decide)) (fun e => absurd (e ▸ hf) (by decide)) (fun e => absurd (e ▸ hf) (by decide)) (fun e => absurd (e ▸ hf) (by decide)) (fun e => absurd (e ▸ hf) (by decide)) (fun e => absurd (e ▸ hf) (by decide))) (fun f hf => fr_s_X9_covered σm a1 (fun e => absurd (e ▸ hf) (by decide)))
theorem rlB_lacks {k : Nat} {σx σm : St} (hk : k ≤ 511) (hI : IX σx) (hJ : IR σm) (hJR : JR σm) (hR : RelB k σx σm) (a1 : Int32) : RelB (k + 1) (s_X8_lacks σx a1).2 (s_X9_lacks σm a1).2 := rel_cast hR (fun f hf => fr_s_X8_lacks σx a1 (fun e => absurd (e ▸ hf) (by decide)) (fun e => absurd (e ▸ hf) (by decide)) (fun e => absurd (e ▸ hf) (by decide)) (fun e => absurd (e ▸ hf) (by decide)) (fun e => absurd (e ▸ hf) (by decide)) (fun e => absurd (e ▸ hf) (by decide))) (fun f hf => fr_s_X9_lacks σm a1 (fun e => absurd (e ▸ hf) (by decide)))
theorem rlB_over {k : Nat} {σx σm : St} (hk : k ≤ 511) (hI : IX σx) (hJ : IR σm) (hJR : JR σm) (hR : RelB k σx σm) (a1 a2 : Int32) : RelB (k + 1) (s_X8_over σx a1 a2).2 (s_X9_over σm a1 a2).2 := rel_cast hR (fun f hf => fr_s_X8_over σx a1 a2 (fun e => absurd (e ▸ hf) (by decide))) (fun f hf => fr_s_X9_over σm a1 a2 (fun e => absurd (e ▸ hf) (by decide)))
theorem rlB_plan {k : Nat} {σx σm : St} (hk : k ≤ 511) (hI : IX σx) (hJ : IR σm) (hJR : JR σm) (hR : RelB k σx σm) (a1 a2 a3 a4 : Int32) : RelB (k + 1) (s_X8_plan σx a1 a2 a3 a4).2 (s_X9_plan σm a1 a2 a3 a4).2 := rel_cast hR (fun f hf => fr_s_X8_plan σx a1 a2 a3 a4 (fun e => absurd (e ▸ hf) (by decide)) (fun e => absurd (e ▸ hf) (by decide)) (fun e => absurd (e ▸ hf) (by decide)) (fun e => absurd (e ▸ hf) (by decide)) (fun e => absurd (e ▸ hf) (by decide)) (fun e => absurd (e ▸ hf) (by decide)) (fun e => absurd (e ▸ hf) (by decide)) (fun e => absurd (e ▸ hf) (by decide)) (fun e => absurd (e ▸ hf) (by decide)) (fun e => absurd (e ▸ hf) (by decide)) (fun e => absurd (e ▸ hf) (by decide)) (fun e => absurd (e ▸ hf) (by decide)) (fun e => absurd (e ▸ hf) (by decide)) (fun e => absurd (e ▸ hf) (by decide)) (fun e => absurd (e ▸ hf) (by decide)) (fun e => absurd (e ▸ hf) (by decide)) (fun e => absurd (e ▸ hf) (by decide)) (fun e => absurd (e ▸ hf) (by decide)) (fun e => absurd (e ▸ hf) (by decide)) (fun e => absurd (e ▸ hf) (by decide)) (fun e => absurd (e ▸ hf) (by decide)) (fun e => absurd (e ▸ hf) (by decide)) (fun e => absurd (e ▸ hf) (by decide))) (fun f hf => fr_s_X9_plan σm a1 a2 a3 a4 (fun e => absurd (e ▸ hf) (by decide)) (fun e => absurd (e ▸ hf) (by decide)) (fun e => absurd (e ▸ hf) (by decide)) (fun e => absurd (e ▸ hf) (by decide)) (fun e => absurd (e ▸ hf) (by decide)) (fun e => absurd (e ▸ hf) (by decide)) (fun e => absurd (e ▸ hf) (by decide)) (fun e => absurd (e ▸ hf) (by decide)) (fun e => absurd (e ▸ hf) (by decide)))
theorem rlB_pieceOf {k : Nat} {σx σm : St} (hk : k ≤ 511) (hI : IX σx) (hJ : IR σm) (hJR : JR σm) (hR : RelB k σx σm) (a1 a2 : Int32) : RelB (k + 1) (s_X8_pieceOf σx a1 a2).2 (s_X9_pieceOf σm a1 a2).2 := rel_cast hR (fun f hf => fr_s_X8_pieceOf σx a1 a2 (fun e => absurd (e ▸ hf) (by decide))) (fun f hf => fr_s_X9_pieceOf σm a1 a2 (fun e => absurd (e ▸ hf) (by decide)))
theorem rlB_rightOf {k : Nat} {σx σm : St} (hk : k ≤ 511) (hI : IX σx) (hJ : IR σm) (hJR : JR σm) (hR : RelB k σx σm) (a1 a2 : Int32) : RelB (k + 1) (s_X8_rightOf σx a1 a2).2 (s_X9_rightOf σm a1 a2).2 := rel_cast hR (fun f hf => fr_s_X8_rightOf σx a1 a2 (fun e => absurd (e ▸ hf) (by decide))) (fun f hf => fr_s_X9_rightOf σm a1 a2 (fun e => absurd (e ▸ hf) (by decide)))
theorem rlB_herdOf {k : Nat} {σx σm : St} (hk : k ≤ 511) (hI : IX σx) (hJ : IR σm) (hJR : JR σm) (hR : RelB k σx σm) (a1 a2 : Int32) : RelB (k + 1) (s_X8_herdOf σx a1 a2).2 (s_X9_herdOf σm a1 a2).2 := rel_cast hR (fun f hf => fr_s_X8_herdOf σx a1 a2 (fun e => absurd (e ▸ hf) (by decide))) (fun f hf => fr_s_X9_herdOf σm a1 a2 (fun e => absurd (e ▸ hf) (by decide)))
theorem rlB_ownerOf {k : Nat} {σx σm : St} (hk : k ≤ 511) (hI : IX σx) (hJ : IR σm) (hJR : JR σm) (hR : RelB k σx σm) (a1 a2 : Int32) : RelB (k + 1) (s_X8_ownerOf σx a1 a2).2 (s_X9_ownerOf σm a1 a2).2 := rel_cast hR (fun f hf => fr_s_X8_ownerOf σx a1 a2 (fun e => absurd (e ▸ hf) (by decide)) (fun e => absurd (e ▸ hf) (by decide)) (fun e => absurd (e ▸ hf) (by decide)) (fun e => absurd (e ▸ hf) (by decide)) (fun e => absurd (e ▸ hf) (by decide)) (fun e => absurd (e ▸ hf) (by decide))) (fun f hf => fr_s_X9_ownerOf σm a1 a2 (fun e => absurd (e ▸ hf) (by decide)))
set_option maxRecDepth 20000 in
theorem b_piece {k : Nat} {σx σm : St} (hk : k ≤ 511) (hI : IX σx) (hJ : IR σm) (hJR : JR σm) (hR : RelB k σx σm) (a1 a2 a3 a4 : Int32) (h4 : a4 = 0 ∨ a4 = 1) : (s_X8_piece σx a1 a2 a3 a4).1 = (s_X9_piece σm a1 a2 a3 a4).1 ∧ RelB (k + 1) (s_X8_piece σx a1 a2 a3 a4).2 (s_X9_piece σm a1 a2 a3 a4).2 := by
  have hR0 := hR
  obtain ⟨E, G, HP, HU, HO, K, K2⟩ := hR
  obtain ⟨e1, e2, e3, e4, e5, e6, e7, e8, e9, e10, e11, e12, e13, e14, e15, e16, e17, e18⟩ := id E
  obtain ⟨g1, g2, g3, g4, g5, g6, g7, g8, g9, g10⟩ := id G
  unfold s_X8_piece s_X9_piece
  have hc : (σm 2 0 < 6) = ¬ (σm 2 0 = 6) := ra_lt (N := 6) (ir_2 hJ) (by decide)
  simp only [hc, ite_not, ra_io, ra_ih, ra_ip, ra_ir, ra_ie, ra_iw, ra_mc, e1, e2, e3, e4, e5, e6, e7, e8, e9, e10, e11, e12, e13, e14, e15, e16, e17, e18, g1, g2, g3, g4, g5, g6, g7, g8, g9, g10]
  by_cases h_1 : a1 < 0
  · simp only [if_pos h_1, ra_10, not_true_eq_false, not_false_eq_true, ↓reduceIte]
    exact ⟨rfl, rel_ref hR0 _ _⟩
  · simp only [if_neg h_1, ra_10, not_true_eq_false, not_false_eq_true, ↓reduceIte]
    by_cases h_2 : a3 < 0
    · simp only [if_pos h_2, ra_10, not_true_eq_false, not_false_eq_true, ↓reduceIte]
      exact ⟨rfl, rel_ref hR0 _ _⟩
    · simp only [if_neg h_2, ra_10, not_true_eq_false, not_false_eq_true, ↓reduceIte]
      by_cases h_3 : 1 ≤ a2
      case neg => simp only [if_neg h_3, ra_10, not_true_eq_false, not_false_eq_true, ↓reduceIte]; exact ⟨rfl, rel_ref hR0 _ _⟩
      case pos =>
        simp only [if_pos h_3, ra_10, not_true_eq_false, not_false_eq_true, ↓reduceIte]
        by_cases h_4 : 100000 < a2
        · simp only [if_pos h_4, ra_10, not_true_eq_false, not_false_eq_true, ↓reduceIte]
          exact ⟨rfl, rel_ref hR0 _ _⟩
        · simp only [if_neg h_4, ra_10, not_true_eq_false, not_false_eq_true, ↓reduceIte]
          by_cases h_5 : a2 < a1
          · simp only [if_pos h_5, ra_10, not_true_eq_false, not_false_eq_true, ↓reduceIte]
            exact ⟨rfl, rel_ref hR0 _ _⟩
          · simp only [if_neg h_5, ra_10, not_true_eq_false, not_false_eq_true, ↓reduceIte]
            by_cases h_6 : 10000 < a3
            · simp only [if_pos h_6, ra_10, not_true_eq_false, not_false_eq_true, ↓reduceIte]
              exact ⟨rfl, rel_ref hR0 _ _⟩
            · simp only [if_neg h_6, ra_10, not_true_eq_false, not_false_eq_true, ↓reduceIte]
              by_cases h_7 : σm 2 0 = 6
              · simp only [if_pos h_7, ra_10, not_true_eq_false, not_false_eq_true, ↓reduceIte]
                exact ⟨rfl, rel_ref hR0 _ _⟩
              · simp only [if_neg h_7, ra_10, not_true_eq_false, not_false_eq_true, ↓reduceIte]
                have hle : (σm 2 0).toNatClampNeg ≤ (σm 2 0 + 1).toNatClampNeg := by rw [inc_n9 (N := 6) (ir_2 hJ) (by decide)]; omega
                exact ⟨by first | rfl | trivial, ⟨ra_u e1 _ _, e2, e3, e4, e5, e6, e7, e8, e9, e10, e11, e12, e13, e14, e15, e16, e17, e18⟩, ⟨g1, g2, ra_u g3 _ _, ra_u g4 _ _, ra_u g5 _ _, ra_u g6 _ _, g7, g8, g9, g10⟩, HP, HU, ro_mono HO, ⟨K.1, K.2.1, K.2.2.1, fun i h => vpm_9 (K.2.2.2.1 i h) hle, fun h hh => (K.2.2.2.2 h hh).imp id (fun v => vpm_9 v hle)⟩, K2⟩
theorem rlB_piece {k : Nat} {σx σm : St} (hk : k ≤ 511) (hI : IX σx) (hJ : IR σm) (hJR : JR σm) (hR : RelB k σx σm) (a1 a2 a3 a4 : Int32) (h4 : a4 = 0 ∨ a4 = 1) : RelB (k + 1) (s_X8_piece σx a1 a2 a3 a4).2 (s_X9_piece σm a1 a2 a3 a4).2 := (b_piece hk hI hJ hJR hR a1 a2 a3 a4 h4).2
theorem eqB_piece {k : Nat} {σx σm : St} (hk : k ≤ 511) (hI : IX σx) (hJ : IR σm) (hJR : JR σm) (hR : RelB k σx σm) (a1 a2 a3 a4 : Int32) (h4 : a4 = 0 ∨ a4 = 1) : (s_X8_piece σx a1 a2 a3 a4).1 = (s_X9_piece σm a1 a2 a3 a4).1 := (b_piece hk hI hJ hJR hR a1 a2 a3 a4 h4).1
set_option maxRecDepth 20000 in
theorem b_owner {k : Nat} {σx σm : St} (hk : k ≤ 511) (hI : IX σx) (hJ : IR σm) (hJR : JR σm) (hR : RelB k σx σm) (a1 : Int32) : (s_X8_owner σx a1).1 = (s_X9_owner σm a1).1 ∧ RelB (k + 1) (s_X8_owner σx a1).2 (s_X9_owner σm a1).2 := by
  have hR0 := hR
  obtain ⟨E, G, HP, HU, HO, K, K2⟩ := hR
  obtain ⟨e1, e2, e3, e4, e5, e6, e7, e8, e9, e10, e11, e12, e13, e14, e15, e16, e17, e18⟩ := id E
  obtain ⟨g1, g2, g3, g4, g5, g6, g7, g8, g9, g10⟩ := id G
  unfold s_X8_owner s_X9_owner
  have hc : (σm 3 0 < 10) = ¬ (σm 3 0 = 10) := ra_lt (N := 10) (ir_3 hJ) (by decide)
  simp only [hc, ite_not, ra_io, ra_ih, ra_ip, ra_ir, ra_ie, ra_iw, ra_mc, e1, e2, e3, e4, e5, e6, e7, e8, e9, e10, e11, e12, e13, e14, e15, e16, e17, e18, g1, g2, g3, g4, g5, g6, g7, g8, g9, g10]
  by_cases h_1 : 0 ≤ a1
  case neg => simp only [if_neg h_1, ra_10, not_true_eq_false, not_false_eq_true, ↓reduceIte]; exact ⟨rfl, rel_ref hR0 _ _⟩
  case pos =>
    simp only [if_pos h_1, ra_10, not_true_eq_false, not_false_eq_true, ↓reduceIte]
    by_cases h_2 : 100000 < a1
    · simp only [if_pos h_2, ra_10, not_true_eq_false, not_false_eq_true, ↓reduceIte]
      exact ⟨rfl, rel_ref hR0 _ _⟩
    · simp only [if_neg h_2, ra_10, not_true_eq_false, not_false_eq_true, ↓reduceIte]
      by_cases h_3 : σm 3 0 = 10
      · simp only [if_pos h_3, ra_10, not_true_eq_false, not_false_eq_true, ↓reduceIte]
        exact ⟨rfl, rel_ref hR0 _ _⟩
      · simp only [if_neg h_3, ra_10, not_true_eq_false, not_false_eq_true, ↓reduceIte]
        exact ⟨by first | rfl | trivial, ⟨e1, ra_u e2 _ _, e3, e4, e5, e6, e7, e8, e9, e10, e11, e12, e13, e14, e15, e16, e17, e18⟩, ⟨g1, g2, g3, g4, g5, g6, ra_u g7 _ _, g8, g9, g10⟩, HP, HU, ro_mono HO, K, K2⟩
theorem rlB_owner {k : Nat} {σx σm : St} (hk : k ≤ 511) (hI : IX σx) (hJ : IR σm) (hJR : JR σm) (hR : RelB k σx σm) (a1 : Int32) : RelB (k + 1) (s_X8_owner σx a1).2 (s_X9_owner σm a1).2 := (b_owner hk hI hJ hJR hR a1).2
theorem eqB_owner {k : Nat} {σx σm : St} (hk : k ≤ 511) (hI : IX σx) (hJ : IR σm) (hJR : JR σm) (hR : RelB k σx σm) (a1 : Int32) : (s_X8_owner σx a1).1 = (s_X9_owner σm a1).1 := (b_owner hk hI hJ hJR hR a1).1
set_option maxRecDepth 20000 in
theorem b_house {k : Nat} {σx σm : St} (hk : k ≤ 511) (hI : IX σx) (hJ : IR σm) (hJR : JR σm) (hR : RelB k σx σm) (a1 : Int32) : (s_X8_house σx a1).1 = (s_X9_house σm a1).1 ∧ RelB (k + 1) (s_X8_house σx a1).2 (s_X9_house σm a1).2 := by
  have hR0 := hR
  obtain ⟨E, G, HP, HU, HO, K, K2⟩ := hR
  obtain ⟨e1, e2, e3, e4, e5, e6, e7, e8, e9, e10, e11, e12, e13, e14, e15, e16, e17, e18⟩ := id E
  obtain ⟨g1, g2, g3, g4, g5, g6, g7, g8, g9, g10⟩ := id G
  unfold s_X8_house s_X9_house
  have hc : (σm 4 0 < 10) = ¬ (σm 4 0 = 10) := ra_lt (N := 10) (ir_4 hJ) (by decide)
  simp only [hc, ite_not, ra_io, ra_ih, ra_ip, ra_ir, ra_ie, ra_iw, ra_mc, e1, e2, e3, e4, e5, e6, e7, e8, e9, e10, e11, e12, e13, e14, e15, e16, e17, e18, g1, g2, g3, g4, g5, g6, g7, g8, g9, g10]
  by_cases h_1 : s_X9_isIn a1 (σm 3 0) = 0
  · simp only [if_pos h_1, ra_10, not_true_eq_false, not_false_eq_true, ↓reduceIte]
    exact ⟨rfl, rel_ref hR0 _ _⟩
  · simp only [if_neg h_1, ra_10, not_true_eq_false, not_false_eq_true, ↓reduceIte]
    by_cases h_2 : σm 4 0 = 10
    · simp only [if_pos h_2, ra_10, not_true_eq_false, not_false_eq_true, ↓reduceIte]
      exact ⟨rfl, rel_ref hR0 _ _⟩
    · simp only [if_neg h_2, ra_10, not_true_eq_false, not_false_eq_true, ↓reduceIte]
      have hle : (σm 4 0).toNatClampNeg ≤ (σm 4 0 + 1).toNatClampNeg := by rw [inc_n9 (N := 10) (ir_4 hJ) (by decide)]; omega
      exact ⟨by first | rfl | trivial, ⟨e1, e2, ra_u e3 _ _, e4, e5, e6, ra_u e7 _ _, e8, e9, e10, e11, e12, e13, e14, e15, e16, e17, e18⟩, ⟨g1, g2, g3, g4, g5, g6, g7, g8, g9, g10⟩, HP, HU, ro_mono HO, ⟨fun i h => vpm_9 (K.1 i h) hle, K.2⟩, K2⟩
theorem rlB_house {k : Nat} {σx σm : St} (hk : k ≤ 511) (hI : IX σx) (hJ : IR σm) (hJR : JR σm) (hR : RelB k σx σm) (a1 : Int32) : RelB (k + 1) (s_X8_house σx a1).2 (s_X9_house σm a1).2 := (b_house hk hI hJ hJR hR a1).2
theorem eqB_house {k : Nat} {σx σm : St} (hk : k ≤ 511) (hI : IX σx) (hJ : IR σm) (hJR : JR σm) (hR : RelB k σx σm) (a1 : Int32) : (s_X8_house σx a1).1 = (s_X9_house σm a1).1 := (b_house hk hI hJ hJR hR a1).1
set_option maxRecDepth 20000 in
theorem b_rate {k : Nat} {σx σm : St} (hk : k ≤ 511) (hI : IX σx) (hJ : IR σm) (hJR : JR σm) (hR : RelB k σx σm) (a1 a2 a3 : Int32) : (s_X8_rate σx a1 a2 a3).1 = (s_X9_rate σm a1 a2 a3).1 ∧ RelB (k + 1) (s_X8_rate σx a1 a2 a3).2 (s_X9_rate σm a1 a2 a3).2 := by
  have hR0 := hR
  obtain ⟨E, G, HP, HU, HO, K, K2⟩ := hR
  obtain ⟨e1, e2, e3, e4, e5, e6, e7, e8, e9, e10, e11, e12, e13, e14, e15, e16, e17, e18⟩ := id E
  obtain ⟨g1, g2, g3, g4, g5, g6, g7, g8, g9, g10⟩ := id G
  unfold s_X8_rate s_X9_rate
  unfold s_X7_changeRate
  simp only [ite_not, ra_io, ra_ih, ra_ip, ra_ir, ra_ie, ra_iw, ra_mc, e1, e2, e3, e4, e5, e6, e7, e8, e9, e10, e11, e12, e13, e14, e15, e16, e17, e18, g1, g2, g3, g4, g5, g6, g7, g8, g9, g10]
  by_cases h_1 : s_X9_isIn a1 10 = 0
  · simp only [if_pos h_1, ra_10, not_true_eq_false, not_false_eq_true, ↓reduceIte]
    exact ⟨rfl, rel_ref hR0 _ _⟩
  · simp only [if_neg h_1, ra_10, not_true_eq_false, not_false_eq_true, ↓reduceIte]
    by_cases h_2 : s_X9_isIn a2 10 = 0
    · simp only [if_pos h_2, ra_10, not_true_eq_false, not_false_eq_true, ↓reduceIte]
      exact ⟨rfl, rel_ref hR0 _ _⟩
    · simp only [if_neg h_2, ra_10, not_true_eq_false, not_false_eq_true, ↓reduceIte]
      by_cases h_3 : 0 ≤ a3
      case neg => simp only [if_neg h_3, ra_10, not_true_eq_false, not_false_eq_true, ↓reduceIte]; exact ⟨rfl, rel_ref hR0 _ _⟩
      case pos =>
        simp only [if_pos h_3, ra_10, not_true_eq_false, not_false_eq_true, ↓reduceIte]
        by_cases h_4 : a3 ≤ 1000
        case neg => simp only [if_neg h_4, ra_10, not_true_eq_false, not_false_eq_true, ↓reduceIte]; exact ⟨rfl, rel_ref hR0 _ _⟩
        case pos =>
          simp only [if_pos h_4, ra_10, not_true_eq_false, not_false_eq_true, ↓reduceIte]
          exact ⟨by first | rfl | trivial, ⟨e1, e2, e3, e4, e5, e6, e7, e8, e9, e10, e11, e12, e13, e14, e15, e16, e17, e18⟩, ⟨g1, g2, g3, g4, g5, g6, g7, g8, g9, ra_u g10 _ _⟩, HP, HU, ro_mono HO, K, K2⟩
theorem rlB_rate {k : Nat} {σx σm : St} (hk : k ≤ 511) (hI : IX σx) (hJ : IR σm) (hJR : JR σm) (hR : RelB k σx σm) (a1 a2 a3 : Int32) : RelB (k + 1) (s_X8_rate σx a1 a2 a3).2 (s_X9_rate σm a1 a2 a3).2 := (b_rate hk hI hJ hJR hR a1 a2 a3).2
theorem eqB_rate {k : Nat} {σx σm : St} (hk : k ≤ 511) (hI : IX σx) (hJ : IR σm) (hJR : JR σm) (hR : RelB k σx σm) (a1 a2 a3 : Int32) : (s_X8_rate σx a1 a2 a3).1 = (s_X9_rate σm a1 a2 a3).1 := (b_rate hk hI hJ hJR hR a1 a2 a3).1
set_option maxRecDepth 20000 in
theorem b_move {k : Nat} {σx σm : St} (hk : k ≤ 511) (hI : IX σx) (hJ : IR σm) (hJR : JR σm) (hR : RelB k σx σm) (a1 a2 : Int32) : (s_X8_move σx a1 a2).1 = (s_X9_move σm a1 a2).1 ∧ RelB (k + 1) (s_X8_move σx a1 a2).2 (s_X9_move σm a1 a2).2 := by
  have hR0 := hR
  obtain ⟨E, G, HP, HU, HO, K, K2⟩ := hR
  obtain ⟨e1, e2, e3, e4, e5, e6, e7, e8, e9, e10, e11, e12, e13, e14, e15, e16, e17, e18⟩ := id E
  obtain ⟨g1, g2, g3, g4, g5, g6, g7, g8, g9, g10⟩ := id G
  unfold s_X8_move s_X9_move
  simp only [ite_not, ra_io, ra_ih, ra_ip, ra_ir, ra_ie, ra_iw, ra_mc, e1, e2, e3, e4, e5, e6, e7, e8, e9, e10, e11, e12, e13, e14, e15, e16, e17, e18, g1, g2, g3, g4, g5, g6, g7, g8, g9, g10]
  by_cases h_1 : s_X9_isIn a1 (σm 4 0) = 0
  · simp only [if_pos h_1, ra_10, not_true_eq_false, not_false_eq_true, ↓reduceIte]
    exact ⟨rfl, rel_ref hR0 _ _⟩
  · simp only [if_neg h_1, ra_10, not_true_eq_false, not_false_eq_true, ↓reduceIte]
    by_cases h_2 : s_X9_isIn a2 (σm 3 0) = 0
    · simp only [if_pos h_2, ra_10, not_true_eq_false, not_false_eq_true, ↓reduceIte]
      exact ⟨rfl, rel_ref hR0 _ _⟩
    · simp only [if_neg h_2, ra_10, not_true_eq_false, not_false_eq_true, ↓reduceIte]
      by_cases h_3 : σm 21 a1.toNatClampNeg = a2
      · simp only [if_pos h_3, ra_10, not_true_eq_false, not_false_eq_true, ↓reduceIte]
        exact ⟨rfl, rel_ref hR0 _ _⟩
      · simp only [if_neg h_3, ra_10, not_true_eq_false, not_false_eq_true, ↓reduceIte]
        exact ⟨by first | rfl | trivial, ⟨e1, e2, e3, e4, e5, e6, ra_u e7 _ _, e8, e9, e10, e11, e12, e13, e14, e15, e16, e17, e18⟩, ⟨g1, g2, g3, g4, g5, g6, g7, g8, g9, g10⟩, HP, HU, ro_mono HO, K, K2⟩
theorem rlB_move {k : Nat} {σx σm : St} (hk : k ≤ 511) (hI : IX σx) (hJ : IR σm) (hJR : JR σm) (hR : RelB k σx σm) (a1 a2 : Int32) : RelB (k + 1) (s_X8_move σx a1 a2).2 (s_X9_move σm a1 a2).2 := (b_move hk hI hJ hJR hR a1 a2).2
theorem eqB_move {k : Nat} {σx σm : St} (hk : k ≤ 511) (hI : IX σx) (hJ : IR σm) (hJR : JR σm) (hR : RelB k σx σm) (a1 a2 : Int32) : (s_X8_move σx a1 a2).1 = (s_X9_move σm a1 a2).1 := (b_move hk hI hJ hJR hR a1 a2).1
set_option maxRecDepth 20000 in
theorem b_rest {k : Nat} {σx σm : St} (hk : k ≤ 511) (hI : IX σx) (hJ : IR σm) (hJR : JR σm) (hR : RelB k σx σm) (a1 a2 : Int32) : (s_X8_rest σx a1 a2).1 = (s_X9_rest σm a1 a2).1 ∧ RelB (k + 1) (s_X8_rest σx a1 a2).2 (s_X9_rest σm a1 a2).2 := by
  have hR0 := hR
  obtain ⟨E, G, HP, HU, HO, K, K2⟩ := hR
  obtain ⟨e1, e2, e3, e4, e5, e6, e7, e8, e9, e10, e11, e12, e13, e14, e15, e16, e17, e18⟩ := id E
  obtain ⟨g1, g2, g3, g4, g5, g6, g7, g8, g9, g10⟩ := id G
  unfold s_X8_rest s_X9_rest
  simp only [ite_not, ra_io, ra_ih, ra_ip, ra_ir, ra_ie, ra_iw, ra_mc, e1, e2, e3, e4, e5, e6, e7, e8, e9, e10, e11, e12, e13, e14, e15, e16, e17, e18, g1, g2, g3, g4, g5, g6, g7, g8, g9, g10]
  by_cases h_1 : s_X9_isIn a1 (σm 2 0) = 0
  · simp only [if_pos h_1, ra_10, not_true_eq_false, not_false_eq_true, ↓reduceIte]
    exact ⟨rfl, rel_ref hR0 _ _⟩
  · simp only [if_neg h_1, ra_10, not_true_eq_false, not_false_eq_true, ↓reduceIte]
    by_cases h_2 : σm 1 0 ≤ a2
    case neg => simp only [if_neg h_2, ra_10, not_true_eq_false, not_false_eq_true, ↓reduceIte]; exact ⟨rfl, rel_ref hR0 _ _⟩
    case pos =>
      simp only [if_pos h_2, ra_10, not_true_eq_false, not_false_eq_true, ↓reduceIte]
      by_cases h_3 : a2 ≤ 740
      case neg => simp only [if_neg h_3, ra_10, not_true_eq_false, not_false_eq_true, ↓reduceIte]; exact ⟨rfl, rel_ref hR0 _ _⟩
      case pos =>
        simp only [if_pos h_3, ra_10, not_true_eq_false, not_false_eq_true, ↓reduceIte]
        exact ⟨by first | rfl | trivial, ⟨e1, e2, e3, e4, e5, e6, e7, e8, e9, e10, e11, e12, e13, e14, e15, e16, e17, e18⟩, ⟨g1, g2, g3, g4, g5, ra_u g6 _ _, g7, g8, g9, g10⟩, HP, HU, ro_mono HO, K, K2⟩
theorem rlB_rest {k : Nat} {σx σm : St} (hk : k ≤ 511) (hI : IX σx) (hJ : IR σm) (hJR : JR σm) (hR : RelB k σx σm) (a1 a2 : Int32) : RelB (k + 1) (s_X8_rest σx a1 a2).2 (s_X9_rest σm a1 a2).2 := (b_rest hk hI hJ hJR hR a1 a2).2
theorem eqB_rest {k : Nat} {σx σm : St} (hk : k ≤ 511) (hI : IX σx) (hJ : IR σm) (hJR : JR σm) (hR : RelB k σx σm) (a1 a2 : Int32) : (s_X8_rest σx a1 a2).1 = (s_X9_rest σm a1 a2).1 := (b_rest hk hI hJ hJR hR a1 a2).1
/-- a herd is made -/
theorem rel_herd {k : Nat} {σx σm : St} (hJ : IR σm) (hR : RelB k σx σm) (a1 a2 a3 : Int32) (hn : ¬ σm 6 0 = 20) : RelB (k + 1) (put (put (put (put (put (put (put (put (put σx 200 ((σm 6 0).toNatClampNeg) a1) 201 ((σm 6 0).toNatClampNeg) a2) 202 ((σm 6 0).toNatClampNeg) a3) 203 ((σm 6 0).toNatClampNeg) (-1)) 204 ((σm 6 0).toNatClampNeg) 0) 205 ((σm 6 0).toNatClampNeg) 0) 206 ((σm 6 0).toNatClampNeg) 0) 207 ((σm 6 0).toNatClampNeg) 0) 815 0 ((σm 6 0) + 1)) (put (put (put (put (put σm 35 ((σm 6 0).toNatClampNeg) a1) 36 ((σm 6 0).toNatClampNeg) a2) 37 ((σm 6 0).toNatClampNeg) a3) 38 ((σm 6 0).toNatClampNeg) (-1)) 6 0 ((σm 6 0) + 1)) := by
  have hR0 := hR
  obtain ⟨E, G, HP, HU, HO, K, K2⟩ := hR
  obtain ⟨e1, e2, e3, e4, e5, e6, e7, e8, e9, e10, e11, e12, e13, e14, e15, e16, e17, e18⟩ := id E
  obtain ⟨g1, g2, g3, g4, g5, g6, g7, g8, g9, g10⟩ := id G
  have hm : (σm 6 0 + 1).toNatClampNeg = (σm 6 0).toNatClampNeg + 1 := inc_n9 (N := 20) (ir_6 hJ) (by decide)
  obtain ⟨n, hnd⟩ : ∃ n, (σm 6 0).toNatClampNeg = n := ⟨_, rfl⟩
  rw [hnd] at hm
  have q1 := K2.1 n (by rw [hnd]; exact Nat.le_refl _)
  rw [hnd]
  refine ⟨⟨e1, e2, e3, e4, ra_u e5 _ _, e6, e7, e8, e9, e10, e11, e12, e13, e14, ra_u e15 _ _, ra_u e16 _ _, ra_u e17 _ _, ra_u e18 _ _⟩, ⟨(ra_u g1 _ _).trans (upd_id q1.1), (ra_u g2 _ _).trans (upd_id q1.2), g3, g4, g5, g6, g7, g8, g9, g10⟩, HP, HU, ?_, ⟨K.1, K.2.1, K.2.2.1, K.2.2.2.1, ?_⟩, ⟨?_, K2.2.1, K2.2.2.1, ?_, K2.2.2.2.2⟩⟩
  · obtain ⟨o1, o2, o3⟩ := HO
    have ne : ∀ h : Nat, ¬ upd (σm 38) n (-1) h < 0 → h ≠ n := by
      intro h hh e
      subst e
      rw [pk_us] at hh
      exact hh (by decide)
    refine ⟨⟨o1.1, k_up o1.2⟩, fun h hh ho => ?_, fun h j hh hj ho hoj => ?_⟩
    · replace hh : h < (σm 6 0 + 1).toNatClampNeg := hh
      have hq := ne h ho
      replace ho : ¬ upd (σm 38) n (-1) h < 0 := ho
      rw [pk_un hq] at ho
      show 0 < (upd (σx 204) n 0 h).toInt ∧ (upd (σx 204) n 0 h).toInt ≤ _
      rw [pk_un hq]
      exact o2 h (by omega) ho
    · replace hh : h < (σm 6 0 + 1).toNatClampNeg := hh
      replace hj : j < (σm 6 0 + 1).toNatClampNeg := hj
      have hq := ne h ho
      have hq2 := ne j hoj
      replace ho : ¬ upd (σm 38) n (-1) h < 0 := ho
      replace hoj : ¬ upd (σm 38) n (-1) j < 0 := hoj
      rw [pk_un hq] at ho
      rw [pk_un hq2] at hoj
      show (upd (σx 204) n 0 h).toInt < (upd (σx 204) n 0 j).toInt ↔ _
      rw [pk_un hq, pk_un hq2]
      exact o3 h j (by omega) (by omega) ho hoj
  · intro h hh
    replace hh : h < (σm 6 0 + 1).toNatClampNeg := hh
    show upd (σm 38) n (-1) h = -1 ∨ vp_in (upd (σm 38) n (-1) h) _
    by_cases hq : h = n
    · subst hq
      rw [pk_us]
      exact Or.inl rfl
    · rw [pk_un hq]
      exact K.2.2.2.2 h (by omega)
  · intro h hh
    replace hh : (σm 6 0 + 1).toNatClampNeg ≤ h := hh
    exact K2.1 h (by omega)
  · intro h hh h1
    replace hh : h < (σm 6 0 + 1).toNatClampNeg := hh
    replace h1 : σm 41 h = 1 := h1
    have hq : h ≠ n := by
      intro e
      subst e
      rw [q1.1] at h1
      exact absurd h1 (by decide)
    exact K2.2.2.2.1 h (by omega) h1
set_option maxRecDepth 20000 in
theorem b_herd {k : Nat} {σx σm : St} (hk : k ≤ 511) (hI : IX σx) (hJ : IR σm) (hJR : JR σm) (hR : RelB k σx σm) (a1 a2 a3 : Int32) : (s_X8_herd σx a1 a2 a3).1 = (s_X9_herd σm a1 a2 a3).1 ∧ RelB (k + 1) (s_X8_herd σx a1 a2 a3).2 (s_X9_herd σm a1 a2 a3).2 := by
  have hR0 := hR
  obtain ⟨E, G, HP, HU, HO, K, K2⟩ := hR
  obtain ⟨e1, e2, e3, e4, e5, e6, e7, e8, e9, e10, e11, e12, e13, e14, e15, e16, e17, e18⟩ := id E
  obtain ⟨g1, g2, g3, g4, g5, g6, g7, g8, g9, g10⟩ := id G
  unfold s_X8_herd s_X9_herd
  have hc : (σm 6 0 < 20) = ¬ (σm 6 0 = 20) := ra_lt (N := 20) (ir_6 hJ) (by decide)
  simp only [hc, ite_not, ra_io, ra_ih, ra_ip, ra_ir, ra_ie, ra_iw, ra_mc, e1, e2, e3, e4, e5, e6, e7, e8, e9, e10, e11, e12, e13, e14, e15, e16, e17, e18, g1, g2, g3, g4, g5, g6, g7, g8, g9, g10]
  have hi3 : s_X9_isIn a2 3 = if a2 < 0 then 0 else if a2 < 3 then 1 else 0 := by
    unfold s_X9_isIn
    by_cases q1 : a2 < 0
    · rw [if_pos q1, if_pos q1]
    · by_cases q2 : (3 : Int32) ≤ a2
      · rw [if_neg q1, if_neg q1, if_pos q2, if_neg (Int32.not_lt.mpr q2)]
      · rw [if_neg q1, if_neg q1, if_neg q2, if_pos (Int32.not_le.mp q2)]
  have hi4 : ∀ x y : Int32 × St, (if a2 < 0 then x else if a2 < 3 then y else x) = if s_X9_isIn a2 3 = 0 then x else y := by
    intro x y
    rw [hi3]
    by_cases q1 : a2 < 0
    · rw [if_pos q1, if_pos q1, if_pos rfl]
    · by_cases q2 : a2 < 3
      · rw [if_neg q1, if_neg q1, if_pos q2, if_pos q2, if_neg (by decide)]
      · rw [if_neg q1, if_neg q1, if_neg q2, if_neg q2, if_pos rfl]
  simp only [hi4]
  by_cases h_1 : s_X9_isIn a1 (σm 3 0) = 0
  · simp only [if_pos h_1, ra_10, not_true_eq_false, not_false_eq_true, ↓reduceIte]
    exact ⟨rfl, rel_ref hR0 _ _⟩
  · simp only [if_neg h_1, ra_10, not_true_eq_false, not_false_eq_true, ↓reduceIte]
    by_cases h_2 : s_X9_isIn a2 3 = 0
    · simp only [if_pos h_2, ra_10, not_true_eq_false, not_false_eq_true, ↓reduceIte]
      exact ⟨rfl, rel_ref hR0 _ _⟩
    · simp only [if_neg h_2, ra_10, not_true_eq_false, not_false_eq_true, ↓reduceIte]
      by_cases h_3 : 1 ≤ a3
      case neg => simp only [if_neg h_3, ra_10, not_true_eq_false, not_false_eq_true, ↓reduceIte]; exact ⟨rfl, rel_ref hR0 _ _⟩
      case pos =>
        simp only [if_pos h_3, ra_10, not_true_eq_false, not_false_eq_true, ↓reduceIte]
        by_cases h_4 : 100 < a3
        · simp only [if_pos h_4, ra_10, not_true_eq_false, not_false_eq_true, ↓reduceIte]
          exact ⟨rfl, rel_ref hR0 _ _⟩
        · simp only [if_neg h_4, ra_10, not_true_eq_false, not_false_eq_true, ↓reduceIte]
          by_cases h_5 : σm 6 0 = 20
          · simp only [if_pos h_5, ra_10, not_true_eq_false, not_false_eq_true, ↓reduceIte]
            exact ⟨rfl, rel_ref hR0 _ _⟩
          · simp only [if_neg h_5, ra_10, not_true_eq_false, not_false_eq_true, ↓reduceIte]
            exact ⟨by first | rfl | trivial, rel_herd hJ hR0 a1 a2 a3 (by assumption)⟩
theorem rlB_herd {k : Nat} {σx σm : St} (hk : k ≤ 511) (hI : IX σx) (hJ : IR σm) (hJR : JR σm) (hR : RelB k σx σm) (a1 a2 a3 : Int32) : RelB (k + 1) (s_X8_herd σx a1 a2 a3).2 (s_X9_herd σm a1 a2 a3).2 := (b_herd hk hI hJ hJR hR a1 a2 a3).2
theorem eqB_herd {k : Nat} {σx σm : St} (hk : k ≤ 511) (hI : IX σx) (hJ : IR σm) (hJR : JR σm) (hR : RelB k σx σm) (a1 a2 a3 : Int32) : (s_X8_herd σx a1 a2 a3).1 = (s_X9_herd σm a1 a2 a3).1 := (b_herd hk hI hJ hJR hR a1 a2 a3).1
theorem ad_eq {σx σm : St} (e : σx 814 = σm 5) {x0 x1 x2 x3 x4 x5 x6 x7 x8 y1 y2 y3 y4 y5 y6 : Int32} : (s_X8_addRight σx x0 x1 x2 x3 x4 x5 x6 x7 x8).1 = (s_X9_adds σm y1 y2 y3 y4 y5 y6).1 := congrArg (fun f : Nat → Int32 => f 0 + 1 - 1) e
/-- a right is made -/
theorem rel_adds {k : Nat} {σx σm : St} (hJ : IR σm) (hR : RelB k σx σm) (kd wh pt la so px pm : Int32) (hp : kd = 3 → px = pm) (hw : kd = 1 → vp_in wh (σm 4 0).toNatClampNeg) (hpt : 0 ≤ pt.toInt ∧ pt.toInt ≤ 10000) (hl : kd = 3 → vp_in pm (σm 2 0).toNatClampNeg) (hso : so = -9 ∨ ∃ j : Nat, j < (σm 5 0).toNatClampNeg ∧ so = nI j ∧ σm 25 j = 0 ∧ σm 28 j ≤ σm 1 0 ∧ la ≤ σm 29 j ∧ ¬ kd = 0) (hn : ¬ σm 5 0 = 60) : RelB (k + 1) (s_X8_addRight σx kd pt (σm 1 0) la px so wh (-9) 0).2 (s_X9_adds σm kd wh pt la so pm).2 := by
  have hR0 := hR
  obtain ⟨E, G, HP, HU, HO, K, K2⟩ := hR
  obtain ⟨e1, e2, e3, e4, e5, e6, e7, e8, e9, e10, e11, e12, e13, e14, e15, e16, e17, e18⟩ := id E
  obtain ⟨g1, g2, g3, g4, g5, g6, g7, g8, g9, g10⟩ := id G
  have hm : (σm 5 0 + 1).toNatClampNeg = (σm 5 0).toNatClampNeg + 1 := inc_n9 (N := 60) (ir_5 hJ) (by decide)
  have n31 := tn_lt (σm 5 0)
  obtain ⟨n, hnd⟩ : ∃ n, (σm 5 0).toNatClampNeg = n := ⟨_, rfl⟩
  rw [hnd] at hm hso n31
  have q1 := K2.2.1 n (by rw [hnd]; exact Nat.le_refl _)
  have K21 := K.2.1
  have K23 := K2.2.2.1
  rw [hnd] at K21 K23
  unfold s_X8_addRight s_X9_adds
  simp only [e4]
  rw [hnd]
  refine ⟨⟨e1, e2, e3, ra_u e4 _ _, e5, e6, e7, ra_u e8 _ _, ra_u e9 _ _, ra_u e10 _ _, ra_u e11 _ _, ra_u e12 _ _, ra_u e13 _ _, (ra_u e14 _ _).trans (upd_id q1), e15, e16, e17, e18⟩, G, ?_, ?_, ro_mono HO, ⟨?_, ?_, ?_, ?_, K.2.2.2.2⟩, ⟨K2.1, ?_, ?_, K2.2.2.2.1, ?_⟩⟩
  · intro i h
    replace h : upd (σm 25) n kd i = 3 := h
    show upd (σx 4) n px i = upd (σm 30) n pm i
    by_cases hq : i = n
    · subst hq
      rw [pk_us] at h
      rw [pk_us, pk_us]
      exact hp h
    · rw [pk_un hq] at h
      rw [pk_un hq, pk_un hq]
      exact HP i h
  · intro i h
    show upd (σx 7) n (-9) i = upd (σm 32) n (-9) i
    by_cases hq : i = n
    · subst hq
      rw [pk_us, pk_us]
    · rw [pk_un hq, pk_un hq]
      exact HU i h
  · intro i h
    replace h : upd (σm 25) n kd i = 1 := h
    show vp_in (upd (σm 26) n wh i) _
    by_cases hq : i = n
    · subst hq
      rw [pk_us] at h
      rw [pk_us]
      exact hw h
    · rw [pk_un hq] at h
      rw [pk_un hq]
      exact K.1 i h
  · intro i h
    replace h : i < (σm 5 0 + 1).toNatClampNeg := h
    show upd (σm 31) n so i = -9 ∨ ∃ j : Nat, j < i ∧ upd (σm 31) n so i = nI j ∧ upd (σm 25) n kd j = 0 ∧ ¬ upd (σm 25) n kd i = 0
    by_cases hq : i = n
    · subst hq
      rw [pk_us]
      rcases hso with hs | ⟨j, j1, j2, j3, -, -, j6⟩
      · exact Or.inl hs
      · exact Or.inr ⟨j, j1, j2, by rw [pk_un (by omega)]; exact j3, by rw [pk_us]; exact j6⟩
    · rw [pk_un hq]
      rcases K21 i (by omega) with hs | ⟨j, j1, j2, j3, j4⟩
      · exact Or.inl hs
      · exact Or.inr ⟨j, j1, j2, by rw [pk_un (by omega)]; exact j3, by rw [pk_un hq]; exact j4⟩
  · intro i
    show 0 ≤ (upd (σm 27) n pt i).toInt ∧ (upd (σm 27) n pt i).toInt ≤ 10000
    by_cases hq : i = n
    · subst hq
      rw [pk_us]
      exact hpt
    · rw [pk_un hq]
      exact K.2.2.1 i
  · intro i h
    replace h : upd (σm 25) n kd i = 3 := h
    show vp_in (upd (σm 30) n pm i) _
    by_cases hq : i = n
    · subst hq
      rw [pk_us] at h
      rw [pk_us]
      exact hl h
    · rw [pk_un hq] at h
      rw [pk_un hq]
      exact K.2.2.2.1 i h
  · intro i h
    replace h : (σm 5 0 + 1).toNatClampNeg ≤ i := h
    exact K2.2.1 i (by omega)
  · intro i j h hj e
    replace h : i < (σm 5 0 + 1).toNatClampNeg := h
    replace e : upd (σm 31) n so i = nI j := e
    show upd (σm 28) n (σm 1 0) j ≤ upd (σm 28) n (σm 1 0) i ∧ upd (σm 29) n la i ≤ upd (σm 29) n la j
    rw [pk_un (f := σm 28) (show j ≠ n by omega), pk_un (f := σm 29) (show j ≠ n by omega)]
    by_cases hq : i = n
    · subst hq
      rw [pk_us] at e
      rw [pk_us, pk_us]
      rcases hso with hs | ⟨j', j1, j2, j3, j4, j5, -⟩
      · exact absurd (hs.symm.trans e) (nI_ne9 (by omega))
      · have : j' = j := nI_inj (by omega) (by omega) (j2.symm.trans e)
        subst this
        exact ⟨j4, j5⟩
    · rw [pk_un hq] at e
      rw [pk_un hq, pk_un hq]
      exact K23 i j (by omega) hj e
  · intro i
    have hd := ir_1 hJ
    show (0 ≤ (upd (σm 28) n (σm 1 0) i).toInt ∧ (upd (σm 28) n (σm 1 0) i).toInt ≤ 720) ∧ (-9 ≤ (upd (σm 32) n (-9) i).toInt ∧ (upd (σm 32) n (-9) i).toInt ≤ 720)
    by_cases hq : i = n
    · subst hq
      rw [pk_us, pk_us]
      exact ⟨⟨hd.1, by have := hd.2; omega⟩, by decide, by decide⟩
    · rw [pk_un hq, pk_un hq]
      exact K2.2.2.2.2 i
theorem in_4 (a : Int32) : s_X9_isIn a 4 = if a < 0 then 0 else if a ≤ 3 then 1 else 0 := by
  unfold s_X9_isIn
  by_cases q1 : a < 0
  · rw [if_pos q1, if_pos q1]
  · rw [if_neg q1, if_neg q1]
    by_cases q2 : (4 : Int32) ≤ a
    · have q3 : ¬ a ≤ 3 := by
        rw [Int32.le_iff_toInt_le] at q2 ⊢
        rw [show (4 : Int32).toInt = 4 by decide] at q2
        rw [show (3 : Int32).toInt = 3 by decide]
        omega
      rw [if_pos q2, if_neg q3]
    · have q3 : a ≤ 3 := by
        rw [Int32.le_iff_toInt_le] at q2 ⊢
        rw [show (4 : Int32).toInt = 4 by decide] at q2
        rw [show (3 : Int32).toInt = 3 by decide]
        omega
      rw [if_neg q2, if_pos q3]
theorem pt_ok {x : Int32} (h1 : ¬ x < 1) (h2 : ¬ 10000 < x) : 0 ≤ x.toInt ∧ x.toInt ≤ 10000 := by
  rw [Int32.lt_iff_toInt_lt] at h1 h2
  rw [show (1 : Int32).toInt = 1 by decide] at h1
  rw [show (10000 : Int32).toInt = 10000 by decide] at h2
  omega
set_option maxRecDepth 20000 in
theorem b_right {k : Nat} {σx σm : St} (hk : k ≤ 511) (hI : IX σx) (hJ : IR σm) (hJR : JR σm) (hR : RelB k σx σm) (a1 a2 a3 a4 a5 : Int32) : (s_X8_right σx a1 a2 a3 a4 a5).1 = (s_X9_right σm a1 a2 a3 a4 a5).1 ∧ RelB (k + 1) (s_X8_right σx a1 a2 a3 a4 a5).2 (s_X9_right σm a1 a2 a3 a4 a5).2 := by
  have hR0 := hR
  obtain ⟨E, G, HP, HU, HO, K, K2⟩ := hR
  obtain ⟨e1, e2, e3, e4, e5, e6, e7, e8, e9, e10, e11, e12, e13, e14, e15, e16, e17, e18⟩ := id E
  obtain ⟨g1, g2, g3, g4, g5, g6, g7, g8, g9, g10⟩ := id G
  have hc : (σm 5 0 < 60) = ¬ (σm 5 0 = 60) := ra_lt (N := 60) (ir_5 hJ) (by decide)
  unfold s_X8_right s_X9_right
  simp only [hc, in_4, ite_not, ra_io, ra_ih, ra_ip, ra_ir, ra_ie, ra_iw, ra_mc, e1, e2, e3, e4, e5, e6, e7, e8, e9, e10, e11, e12, e13, e14, e15, e16, e17, e18, g1, g2, g3, g4, g5, g6, g7, g8, g9, g10]
  by_cases h_1 : a1 < 0
  · simp only [if_pos h_1, ra_10, not_true_eq_false, not_false_eq_true, ↓reduceIte]
    exact ⟨rfl, rel_ref hR0 _ _⟩
  · simp only [if_neg h_1, ra_10, not_true_eq_false, not_false_eq_true, ↓reduceIte]
    by_cases h_2 : a1 ≤ 3
    case neg => simp only [if_neg h_2, ra_10, not_true_eq_false, not_false_eq_true, ↓reduceIte]; exact ⟨rfl, rel_ref hR0 _ _⟩
    case pos =>
      simp only [if_pos h_2, ra_10, not_true_eq_false, not_false_eq_true, ↓reduceIte]
      by_cases h_3 : a1 = 1
      · simp only [if_pos h_3, ra_10, not_true_eq_false, not_false_eq_true, ↓reduceIte]
        by_cases h_4 : s_X9_isIn a2 (σm 4 0) = 0
        · simp only [if_pos h_4, ra_10, not_true_eq_false, not_false_eq_true, ↓reduceIte]
          exact ⟨rfl, rel_ref hR0 _ _⟩
        · simp only [if_neg h_4, ra_10, not_true_eq_false, not_false_eq_true, ↓reduceIte]
          have n3 : ¬ a1 = 3 := fun e => by rw [e] at h_3; exact absurd h_3 (by decide)
          simp only [if_neg n3]
          by_cases h_5 : a3 < 1
          · simp only [if_pos h_5, ra_10, not_true_eq_false, not_false_eq_true, ↓reduceIte]
            exact ⟨rfl, rel_ref hR0 _ _⟩
          · simp only [if_neg h_5, ra_10, not_true_eq_false, not_false_eq_true, ↓reduceIte]
            by_cases h_6 : σm 1 0 ≤ a4
            case neg => simp only [if_neg h_6, ra_10, not_true_eq_false, not_false_eq_true, ↓reduceIte]; exact ⟨rfl, rel_ref hR0 _ _⟩
            case pos =>
              simp only [if_pos h_6, ra_10, not_true_eq_false, not_false_eq_true, ↓reduceIte]
              by_cases h_7 : 10000 < a3
              · simp only [if_pos h_7, ra_10, not_true_eq_false, not_false_eq_true, ↓reduceIte]
                exact ⟨rfl, rel_ref hR0 _ _⟩
              · simp only [if_neg h_7, ra_10, not_true_eq_false, not_false_eq_true, ↓reduceIte]
                by_cases h_8 : 720 < a4
                · simp only [if_pos h_8, ra_10, not_true_eq_false, not_false_eq_true, ↓reduceIte]
                  exact ⟨rfl, rel_ref hR0 _ _⟩
                · simp only [if_neg h_8, ra_10, not_true_eq_false, not_false_eq_true, ↓reduceIte]
                  by_cases h_9 : σm 5 0 = 60
                  · simp only [if_pos h_9, ra_10, not_true_eq_false, not_false_eq_true, ↓reduceIte]
                    exact ⟨rfl, rel_ref hR0 _ _⟩
                  · simp only [if_neg h_9, ra_10, not_true_eq_false, not_false_eq_true, ↓reduceIte]
                    exact ⟨ad_eq e4, rel_adds hJ hR0 a1 a2 a3 a4 (-9) (-9) a5 (fun e => absurd e n3) (fun _ => in_vp.mpr h_4) (pt_ok h_5 h_7) (fun e => absurd e n3) (Or.inl rfl) h_9⟩
      · simp only [if_neg h_3, ra_10, not_true_eq_false, not_false_eq_true, ↓reduceIte]
        by_cases h_4 : s_X9_isIn a2 (σm 3 0) = 0
        · simp only [if_pos h_4, ra_10, not_true_eq_false, not_false_eq_true, ↓reduceIte]
          exact ⟨rfl, rel_ref hR0 _ _⟩
        · simp only [if_neg h_4, ra_10, not_true_eq_false, not_false_eq_true, ↓reduceIte]
          by_cases h_5 : a1 = 3
          · simp only [if_pos h_5, ra_10, not_true_eq_false, not_false_eq_true, ↓reduceIte]
            by_cases h_6 : s_X9_isIn a5 (σm 2 0) = 0
            · simp only [if_pos h_6, ra_10, not_true_eq_false, not_false_eq_true, ↓reduceIte]
              exact ⟨rfl, rel_ref hR0 _ _⟩
            · simp only [if_neg h_6, ra_10, not_true_eq_false, not_false_eq_true, ↓reduceIte]
              by_cases h_7 : a3 < 1
              · simp only [if_pos h_7, ra_10, not_true_eq_false, not_false_eq_true, ↓reduceIte]
                exact ⟨rfl, rel_ref hR0 _ _⟩
              · simp only [if_neg h_7, ra_10, not_true_eq_false, not_false_eq_true, ↓reduceIte]
                by_cases h_8 : σm 1 0 ≤ a4
                case neg => simp only [if_neg h_8, ra_10, not_true_eq_false, not_false_eq_true, ↓reduceIte]; exact ⟨rfl, rel_ref hR0 _ _⟩
                case pos =>
                  simp only [if_pos h_8, ra_10, not_true_eq_false, not_false_eq_true, ↓reduceIte]
                  by_cases h_9 : 10000 < a3
                  · simp only [if_pos h_9, ra_10, not_true_eq_false, not_false_eq_true, ↓reduceIte]
                    exact ⟨rfl, rel_ref hR0 _ _⟩
                  · simp only [if_neg h_9, ra_10, not_true_eq_false, not_false_eq_true, ↓reduceIte]
                    by_cases h_10 : 720 < a4
                    · simp only [if_pos h_10, ra_10, not_true_eq_false, not_false_eq_true, ↓reduceIte]
                      exact ⟨rfl, rel_ref hR0 _ _⟩
                    · simp only [if_neg h_10, ra_10, not_true_eq_false, not_false_eq_true, ↓reduceIte]
                      by_cases h_11 : σm 5 0 = 60
                      · simp only [if_pos h_11, ra_10, not_true_eq_false, not_false_eq_true, ↓reduceIte]
                        exact ⟨rfl, rel_ref hR0 _ _⟩
                      · simp only [if_neg h_11, ra_10, not_true_eq_false, not_false_eq_true, ↓reduceIte]
                        exact ⟨ad_eq e4, rel_adds hJ hR0 a1 a2 a3 a4 (-9) a5 a5 (fun _ => rfl) (fun e => absurd e h_3) (pt_ok h_7 h_9) (fun _ => in_vp.mpr h_6) (Or.inl rfl) h_11⟩
          · simp only [if_neg h_5, ra_10, not_true_eq_false, not_false_eq_true, ↓reduceIte]
            by_cases h_6 : a3 < 1
            · simp only [if_pos h_6, ra_10, not_true_eq_false, not_false_eq_true, ↓reduceIte]
              exact ⟨rfl, rel_ref hR0 _ _⟩
            · simp only [if_neg h_6, ra_10, not_true_eq_false, not_false_eq_true, ↓reduceIte]
              by_cases h_7 : σm 1 0 ≤ a4
              case neg => simp only [if_neg h_7, ra_10, not_true_eq_false, not_false_eq_true, ↓reduceIte]; exact ⟨rfl, rel_ref hR0 _ _⟩
              case pos =>
                simp only [if_pos h_7, ra_10, not_true_eq_false, not_false_eq_true, ↓reduceIte]
                by_cases h_8 : 10000 < a3
                · simp only [if_pos h_8, ra_10, not_true_eq_false, not_false_eq_true, ↓reduceIte]
                  exact ⟨rfl, rel_ref hR0 _ _⟩
                · simp only [if_neg h_8, ra_10, not_true_eq_false, not_false_eq_true, ↓reduceIte]
                  by_cases h_9 : 720 < a4
                  · simp only [if_pos h_9, ra_10, not_true_eq_false, not_false_eq_true, ↓reduceIte]
                    exact ⟨rfl, rel_ref hR0 _ _⟩
                  · simp only [if_neg h_9, ra_10, not_true_eq_false, not_false_eq_true, ↓reduceIte]
                    by_cases h_10 : σm 5 0 = 60
                    · simp only [if_pos h_10, ra_10, not_true_eq_false, not_false_eq_true, ↓reduceIte]
                      exact ⟨rfl, rel_ref hR0 _ _⟩
                    · simp only [if_neg h_10, ra_10, not_true_eq_false, not_false_eq_true, ↓reduceIte]
                      exact ⟨ad_eq e4, rel_adds hJ hR0 a1 a2 a3 a4 (-9) (-9) a5 (fun e => absurd e h_5) (fun e => absurd e h_3) (pt_ok h_6 h_8) (fun e => absurd e h_5) (Or.inl rfl) h_10⟩
theorem rlB_right {k : Nat} {σx σm : St} (hk : k ≤ 511) (hI : IX σx) (hJ : IR σm) (hJR : JR σm) (hR : RelB k σx σm) (a1 a2 a3 a4 a5 : Int32) : RelB (k + 1) (s_X8_right σx a1 a2 a3 a4 a5).2 (s_X9_right σm a1 a2 a3 a4 a5).2 := (b_right hk hI hJ hJR hR a1 a2 a3 a4 a5).2
theorem eqB_right {k : Nat} {σx σm : St} (hk : k ≤ 511) (hI : IX σx) (hJ : IR σm) (hJR : JR σm) (hR : RelB k σx σm) (a1 a2 a3 a4 a5 : Int32) : (s_X8_right σx a1 a2 a3 a4 a5).1 = (s_X9_right σm a1 a2 a3 a4 a5).1 := (b_right hk hI hJ hJR hR a1 a2 a3 a4 a5).1
theorem lend_ok {σx σm : St} (J : IR σm) (e : RE σx σm) (K : KR σm) {r : Nat} (hr : r < (σm 5 0).toNatClampNeg) {a3 : Int32} (h1 : ¬ a3 < 1) (h2 : a3 ≤ s_X9_partsOf σm (nI r)) (hf : ¬ s_X9_isInForce σm (nI r) = 0) : (0 ≤ a3.toInt ∧ a3.toInt ≤ 10000) ∧ σm 28 r ≤ σm 1 0 := by
  have hr31 : r < 2 ^ 31 := Nat.lt_trans hr (tn_lt _)
  have n5 : (σm 5 0).toNatClampNeg ≤ 60 := cnt_le (ir_5 J)
  have hb : ∀ k : Nat, k < (σm 5 0).toNatClampNeg → 0 ≤ (lent σm (nI r) k).toInt ∧ (lent σm (nI r) k).toInt ≤ ((10000 : Nat) : Int) := by
    intro k _
    unfold lent
    repeat' split
    all_goals first | exact z_bd | exact K.2.2.1 k
  have hs := sm_bd (B := 10000) (N := 60) (by decide) n5 hb
  have hp := K.2.2.1 r
  rw [pO_sum, if_neg hf, nI_clamp hr31] at h2
  have e1 : (1 : Int32).toInt = 1 := by decide
  rw [Int32.le_iff_toInt_le, sub_ti (by omega) (by omega)] at h2
  rw [Int32.lt_iff_toInt_lt, e1] at h1
  refine ⟨⟨by omega, by omega⟩, ?_⟩
  unfold s_X9_isInForce at hf
  rw [nI_clamp hr31] at hf
  by_cases hg : σm 33 r = 0
  · rw [if_pos hg] at hf
    by_cases hd : σm 1 0 < σm 28 r
    · rw [if_pos hd] at hf
      exact absurd rfl hf
    · exact Int32.not_lt.mp hd
  · rw [if_neg hg] at hf
    exact absurd rfl hf
set_option maxRecDepth 20000 in
theorem b_lend {k : Nat} {σx σm : St} (hk : k ≤ 511) (hI : IX σx) (hJ : IR σm) (hJR : JR σm) (hR : RelB k σx σm) (a1 a2 a3 a4 : Int32) : (s_X8_lend σx a1 a2 a3 a4).1 = (s_X9_lend σm a1 a2 a3 a4).1 ∧ RelB (k + 1) (s_X8_lend σx a1 a2 a3 a4).2 (s_X9_lend σm a1 a2 a3 a4).2 := by
  have hR0 := hR
  obtain ⟨E, G, HP, HU, HO, K, K2⟩ := hR
  obtain ⟨e1, e2, e3, e4, e5, e6, e7, e8, e9, e10, e11, e12, e13, e14, e15, e16, e17, e18⟩ := id E
  obtain ⟨g1, g2, g3, g4, g5, g6, g7, g8, g9, g10⟩ := id G
  have hc : (σm 5 0 < 60) = ¬ (σm 5 0 = 60) := ra_lt (N := 60) (ir_5 hJ) (by decide)
  unfold s_X8_lend s_X9_lend s_X8_canPass
  simp only [hc, ite_not, ra_io, ra_ih, ra_ip, ra_ir, ra_ie, ra_iw, ra_mc, e1, e2, e3, e4, e5, e6, e7, e8, e9, e10, e11, e12, e13, e14, e15, e16, e17, e18, g1, g2, g3, g4, g5, g6, g7, g8, g9, g10]
  by_cases h_1 : s_X9_isIn a1 (σm 5 0) = 0
  · simp only [if_pos h_1, ra_10, not_true_eq_false, not_false_eq_true, ↓reduceIte]
    exact ⟨rfl, rel_ref hR0 _ _⟩
  · simp only [if_neg h_1, ra_10, not_true_eq_false, not_false_eq_true, ↓reduceIte]
    obtain ⟨r, hr, rfl⟩ := vp_in_of (in_vp.mpr h_1) (tn_lt _)
    have hr31 : r < 2 ^ 31 := Nat.lt_trans hr (tn_lt _)
    have hfo : s_X0_isInForce σx r (σm 1 0) = s_X9_isInForce σm (nI r) := by rw [← fo_eq E hr31, e6]
    have hho := ho_eq E K hr31
    have hpt := pt_eq E K hr
    simp only [nI_clamp hr31, hfo, hho, hpt]
    by_cases h_2 : s_X9_isIn a2 (σm 3 0) = 0
    · simp only [if_pos h_2, ra_10, not_true_eq_false, not_false_eq_true, ↓reduceIte]
      exact ⟨rfl, rel_ref hR0 _ _⟩
    · simp only [if_neg h_2, ra_10, not_true_eq_false, not_false_eq_true, ↓reduceIte]
      by_cases h_3 : s_X9_ownerOfRight σm (nI r) = a2
      · simp only [if_pos h_3, ra_10, not_true_eq_false, not_false_eq_true, ↓reduceIte]
        exact ⟨rfl, rel_ref hR0 _ _⟩
      · simp only [if_neg h_3, ra_10, not_true_eq_false, not_false_eq_true, ↓reduceIte]
        by_cases h_4 : σm 25 r = 0
        case neg => simp only [if_neg h_4, ra_10, not_true_eq_false, not_false_eq_true, ↓reduceIte]; exact ⟨rfl, rel_ref hR0 _ _⟩
        case pos =>
          simp only [if_pos h_4, ra_10, not_true_eq_false, not_false_eq_true, ↓reduceIte]
          by_cases h_5 : s_X9_isInForce σm (nI r) = 0
          · simp only [if_pos h_5, ra_10, not_true_eq_false, not_false_eq_true, ↓reduceIte]
            exact ⟨rfl, rel_ref hR0 _ _⟩
          · simp only [if_neg h_5, ra_10, not_true_eq_false, not_false_eq_true, ↓reduceIte]
            by_cases h_6 : a3 < 1
            · simp only [if_pos h_6, ra_10, not_true_eq_false, not_false_eq_true, ↓reduceIte]
              exact ⟨rfl, rel_ref hR0 _ _⟩
            · simp only [if_neg h_6, ra_10, not_true_eq_false, not_false_eq_true, ↓reduceIte]
              by_cases h_7 : σm 1 0 ≤ a4
              case neg => simp only [if_neg h_7, ra_10, not_true_eq_false, not_false_eq_true, ↓reduceIte]; exact ⟨rfl, rel_ref hR0 _ _⟩
              case pos =>
                simp only [if_pos h_7, ra_10, not_true_eq_false, not_false_eq_true, ↓reduceIte]
                by_cases h_8 : a3 ≤ s_X9_partsOf σm (nI r)
                case neg => simp only [if_neg h_8, ra_10, not_true_eq_false, not_false_eq_true, ↓reduceIte]; exact ⟨rfl, rel_ref hR0 _ _⟩
                case pos =>
                  simp only [if_pos h_8, ra_10, not_true_eq_false, not_false_eq_true, ↓reduceIte]
                  by_cases h_9 : σm 29 r < a4
                  · simp only [if_pos h_9, ra_10, not_true_eq_false, not_false_eq_true, ↓reduceIte]
                    exact ⟨rfl, rel_ref hR0 _ _⟩
                  · simp only [if_neg h_9, ra_10, not_true_eq_false, not_false_eq_true, ↓reduceIte]
                    by_cases h_10 : σm 5 0 = 60
                    · simp only [if_pos h_10, ra_10, not_true_eq_false, not_false_eq_true, ↓reduceIte]
                      exact ⟨rfl, rel_ref hR0 _ _⟩
                    · simp only [if_neg h_10, ra_10, not_true_eq_false, not_false_eq_true, ↓reduceIte]
                      have hb := lend_ok hJ E K hr h_6 h_8 h_5
                      exact ⟨ad_eq e4, rel_adds hJ hR0 4 a2 a3 a4 (nI r) (-9) 0 (fun e => absurd e (by decide)) (fun e => absurd e (by decide)) hb.1 (fun e => absurd e (by decide)) (Or.inr ⟨r, hr, rfl, h_4, hb.2, Int32.not_lt.mp h_9, by decide⟩) h_10⟩
theorem rlB_lend {k : Nat} {σx σm : St} (hk : k ≤ 511) (hI : IX σx) (hJ : IR σm) (hJR : JR σm) (hR : RelB k σx σm) (a1 a2 a3 a4 : Int32) : RelB (k + 1) (s_X8_lend σx a1 a2 a3 a4).2 (s_X9_lend σm a1 a2 a3 a4).2 := (b_lend hk hI hJ hJR hR a1 a2 a3 a4).2
theorem eqB_lend {k : Nat} {σx σm : St} (hk : k ≤ 511) (hI : IX σx) (hJ : IR σm) (hJR : JR σm) (hR : RelB k σx σm) (a1 a2 a3 a4 : Int32) : (s_X8_lend σx a1 a2 a3 a4).1 = (s_X9_lend σm a1 a2 a3 a4).1 := (b_lend hk hI hJ hJR hR a1 a2 a3 a4).1
set_option maxRecDepth 20000 in
theorem b_sell {k : Nat} {σx σm : St} (hk : k ≤ 511) (hI : IX σx) (hJ : IR σm) (hJR : JR σm) (hR : RelB k σx σm) (a1 a2 : Int32) : (s_X8_sell σx a1 a2).1 = (s_X9_sell σm a1 a2).1 ∧ RelB (k + 1) (s_X8_sell σx a1 a2).2 (s_X9_sell σm a1 a2).2 := by
  have hR0 := hR
  obtain ⟨E, G, HP, HU, HO, K, K2⟩ := hR
  obtain ⟨e1, e2, e3, e4, e5, e6, e7, e8, e9, e10, e11, e12, e13, e14, e15, e16, e17, e18⟩ := id E
  obtain ⟨g1, g2, g3, g4, g5, g6, g7, g8, g9, g10⟩ := id G
  have hc : (σm 5 0 < 60) = ¬ (σm 5 0 = 60) := ra_lt (N := 60) (ir_5 hJ) (by decide)
  unfold s_X8_sell s_X9_sell s_X8_canPass
  simp only [hc, ite_not, ra_io, ra_ih, ra_ip, ra_ir, ra_ie, ra_iw, ra_mc, e1, e2, e3, e4, e5, e6, e7, e8, e9, e10, e11, e12, e13, e14, e15, e16, e17, e18, g1, g2, g3, g4, g5, g6, g7, g8, g9, g10]
  by_cases h_1 : s_X9_isIn a1 (σm 5 0) = 0
  · simp only [if_pos h_1, ra_10, not_true_eq_false, not_false_eq_true, ↓reduceIte]
    exact ⟨rfl, rel_ref hR0 _ _⟩
  · simp only [if_neg h_1, ra_10, not_true_eq_false, not_false_eq_true, ↓reduceIte]
    obtain ⟨r, hr, rfl⟩ := vp_in_of (in_vp.mpr h_1) (tn_lt _)
    have hr31 : r < 2 ^ 31 := Nat.lt_trans hr (tn_lt _)
    have hfo : s_X0_isInForce σx r (σm 1 0) = s_X9_isInForce σm (nI r) := by rw [← fo_eq E hr31, e6]
    have hho := ho_eq E K hr31
    have hpt := pt_eq E K hr
    simp only [nI_clamp hr31, hfo, hho, hpt]
    by_cases h_2 : s_X9_isIn a2 (σm 3 0) = 0
    · simp only [if_pos h_2, ra_10, not_true_eq_false, not_false_eq_true, ↓reduceIte]
      exact ⟨rfl, rel_ref hR0 _ _⟩
    · simp only [if_neg h_2, ra_10, not_true_eq_false, not_false_eq_true, ↓reduceIte]
      by_cases h_3 : s_X9_ownerOfRight σm (nI r) = a2
      · simp only [if_pos h_3, ra_10, not_true_eq_false, not_false_eq_true, ↓reduceIte]
        exact ⟨rfl, rel_ref hR0 _ _⟩
      · simp only [if_neg h_3, ra_10, not_true_eq_false, not_false_eq_true, ↓reduceIte]
        by_cases h_4 : σm 25 r = 0
        case neg => simp only [if_neg h_4, ra_10, not_true_eq_false, not_false_eq_true, ↓reduceIte]; exact ⟨rfl, rel_ref hR0 _ _⟩
        case pos =>
          simp only [if_pos h_4, ra_10, not_true_eq_false, not_false_eq_true, ↓reduceIte]
          by_cases h_5 : s_X9_isInForce σm (nI r) = 0
          · simp only [if_pos h_5, ra_10, not_true_eq_false, not_false_eq_true, ↓reduceIte]
            exact ⟨rfl, rel_ref hR0 _ _⟩
          · simp only [if_neg h_5, ra_10, not_true_eq_false, not_false_eq_true, ↓reduceIte]
            refine ⟨by first | rfl | trivial, ⟨e1, e2, e3, e4, e5, e6, e7, e8, e9, e10, e11, e12, ra_u e13 _ _, e14, e15, e16, e17, e18⟩, G, HP, HU, ro_mono HO, ⟨fun i h => ?_, K.2⟩, K2⟩
            show vp_in (upd (σm 26) r a2 i) _
            replace h : σm 25 i = 1 := h
            by_cases hq : i = r
            · subst hq; rw [h_4] at h; exact absurd h (by decide)
            · rw [pk_un hq]; exact K.1 i h
theorem rlB_sell {k : Nat} {σx σm : St} (hk : k ≤ 511) (hI : IX σx) (hJ : IR σm) (hJR : JR σm) (hR : RelB k σx σm) (a1 a2 : Int32) : RelB (k + 1) (s_X8_sell σx a1 a2).2 (s_X9_sell σm a1 a2).2 := (b_sell hk hI hJ hJR hR a1 a2).2
theorem eqB_sell {k : Nat} {σx σm : St} (hk : k ≤ 511) (hI : IX σx) (hJ : IR σm) (hJR : JR σm) (hR : RelB k σx σm) (a1 a2 : Int32) : (s_X8_sell σx a1 a2).1 = (s_X9_sell σm a1 a2).1 := (b_sell hk hI hJ hJR hR a1 a2).1
theorem put_cg {σ τ : St} {f g i : Nat} {x : Int32} (h : τ f = σ f) : put τ g i x f = put σ g i x f := by
  show cond (Nat.beq f g) (upd (τ f) i x) (τ f) = cond (Nat.beq f g) (upd (σ f) i x) (σ f)
  rw [h]
/-- the class's state may be another one that has the same fields -/
theorem rel_x {k : Nat} {σx σm τx : St} (R : RelB (k + 1) σx σm) (x : ∀ f : Nat, f ∈ FXl → τx f = σx f) : RelB (k + 1) τx σm := by
  have x811 := x 811 (by decide)
  have x812 := x 812 (by decide)
  have x813 := x 813 (by decide)
  have x814 := x 814 (by decide)
  have x815 := x 815 (by decide)
  have x816 := x 816 (by decide)
  have x803 := x 803 (by decide)
  have x0 := x 0 (by decide)
  have x1 := x 1 (by decide)
  have x2 := x 2 (by decide)
  have x3 := x 3 (by decide)
  have x5 := x 5 (by decide)
  have x6 := x 6 (by decide)
  have x8 := x 8 (by decide)
  have x200 := x 200 (by decide)
  have x201 := x 201 (by decide)
  have x202 := x 202 (by decide)
  have x203 := x 203 (by decide)
  have x206 := x 206 (by decide)
  have x207 := x 207 (by decide)
  have x400 := x 400 (by decide)
  have x401 := x 401 (by decide)
  have x402 := x 402 (by decide)
  have x404 := x 404 (by decide)
  have x500 := x 500 (by decide)
  have x590 := x 590 (by decide)
  have x818 := x 818 (by decide)
  have x700 := x 700 (by decide)
  have x4 := x 4 (by decide)
  have x7 := x 7 (by decide)
  have x204 := x 204 (by decide)
  have x817 := x 817 (by decide)
  obtain ⟨h1, h2, h3, h4, h5, h6⟩ := R
  refine ⟨?_, ?_, ?_, ?_, ?_, h6⟩
  · unfold RE at h1 ⊢
    simp only [x811, x812, x813, x814, x815, x816, x803, x0, x1, x2, x3, x5, x6, x8, x200, x201, x202, x203]
    exact h1
  · unfold RG at h2 ⊢
    simp only [x206, x207, x400, x401, x402, x404, x500, x590, x818, x700]
    exact h2
  · unfold RP at h3 ⊢
    simp only [x4]
    exact h3
  · unfold RU at h4 ⊢
    simp only [x7]
    exact h4
  · unfold RO at h5 ⊢
    simp only [x817, x204]
    exact h5
/-- the cover's cells are none of the related -/
theorem hf_x {τ σ : St} (h : HF τ σ) : ∀ f : Nat, f ∈ FXl → τ f = σ f := fun f hf => h f (fun e => absurd (e ▸ hf) (by decide)) (fun e => absurd (e ▸ hf) (by decide)) (fun e => absurd (e ▸ hf) (by decide)) (fun e => absurd (e ▸ hf) (by decide)) (fun e => absurd (e ▸ hf) (by decide))
theorem cov_x (σ : St) (a : Int32) : HF (s_X8_lackOf σ a).2 σ := (cv_eq σ a).1
theorem neg1 {x : Int32} {n : Nat} (h : x = -1 ∨ vp_in x n) : (x = -1 ↔ x < 0) ∧ (0 ≤ x ↔ ¬ x = -1) := by
  have z : (0 : Int32).toInt = 0 := by decide
  have m1 : (-1 : Int32).toInt = -1 := by decide
  rw [Int32.lt_iff_toInt_lt, Int32.le_iff_toInt_le, ← Int32.toInt_inj, z, m1]
  rcases h with h | h
  · rw [h, m1]
    omega
  · rw [vp_in_iff] at h
    omega
/-- a herd goes onto a piece -/
theorem rel_goes {k : Nat} {σx σm : St} (hk : k ≤ 511) (hJR : JR σm) (hR : RelB k σx σm) {h p : Nat} (hh : h < (σm 6 0).toNatClampNeg) (hp : p < (σm 2 0).toNatClampNeg) (h41 : σm 41 h = 0) : RelB (k + 1) (put (put (put σx 203 h (nI p)) 817 0 (σx 817 0 + 1)) 204 h (σx 817 0 + 1)) (put (put (put σm 38 h (nI p)) 39 h (σm 7 0)) 7 0 (σm 7 0 + 1)) := by
  have hR0 := hR
  obtain ⟨E, G, HP, HU, HO, K, K2⟩ := hR
  obtain ⟨e1, e2, e3, e4, e5, e6, e7, e8, e9, e10, e11, e12, e13, e14, e15, e16, e17, e18⟩ := id E
  obtain ⟨g1, g2, g3, g4, g5, g6, g7, g8, g9, g10⟩ := id G
  have p31 : p < 2 ^ 31 := Nat.lt_trans hp (tn_lt _)
  obtain ⟨o1, o2, o3⟩ := HO
  have e1' : (1 : Int32).toInt = 1 := by decide
  have hv : (σx 817 0 + 1).toInt = (σx 817 0).toInt + 1 := by rw [add_ti (by rw [e1']; omega) (by rw [e1']; omega), e1']
  have hlt : ∀ j : Nat, j < (σm 6 0).toNatClampNeg → ¬ σm 38 j < 0 → (σm 39 j).toInt < (σm 7 0).toInt := by
    intro j hj ho
    have h0 : σm 41 j = 0 := Decidable.byContradiction (fun hc => ho (hJR.2.2.2 j hj hc))
    have := hJR.2.1 j hj ⟨h0, ho⟩
    rw [Int32.le_iff_toInt_le] at this
    omega
  refine ⟨⟨e1, e2, e3, e4, e5, e6, e7, e8, e9, e10, e11, e12, e13, e14, e15, e16, e17, ra_u e18 _ _⟩, G, HP, HU, ⟨⟨?_, ?_⟩, ?_, ?_⟩, ⟨K.1, K.2.1, K.2.2.1, K.2.2.2.1, ?_⟩, K2⟩
  · show 0 ≤ (σx 817 0 + 1).toInt
    omega
  · show (σx 817 0 + 1).toInt ≤ ((k + 1 : Nat) : Int)
    omega
  · intro j hj ho
    replace ho : ¬ upd (σm 38) h (nI p) j < 0 := ho
    show 0 < (upd (σx 204) h (σx 817 0 + 1) j).toInt ∧ (upd (σx 204) h (σx 817 0 + 1) j).toInt ≤ (σx 817 0 + 1).toInt
    by_cases hq : j = h
    · subst hq
      rw [pk_us]
      omega
    · rw [pk_un hq] at ho ⊢
      have := o2 j hj ho
      omega
  · intro i j hi hj hoi hoj
    replace hoi : ¬ upd (σm 38) h (nI p) i < 0 := hoi
    replace hoj : ¬ upd (σm 38) h (nI p) j < 0 := hoj
    show (upd (σx 204) h (σx 817 0 + 1) i).toInt < (upd (σx 204) h (σx 817 0 + 1) j).toInt ↔ (upd (σm 39) h (σm 7 0) i).toInt < (upd (σm 39) h (σm 7 0) j).toInt
    by_cases hqi : i = h
    · by_cases hqj : j = h
      · subst hqi
        subst hqj
        rw [pk_us, pk_us]
        omega
      · subst hqi
        rw [pk_un hqj] at hoj
        rw [pk_us, pk_us, pk_un hqj, pk_un hqj]
        have a1 := (o2 j hj hoj).2
        have a2 := hlt j hj hoj
        omega
    · by_cases hqj : j = h
      · subst hqj
        rw [pk_un hqi] at hoi
        rw [pk_us, pk_us, pk_un hqi, pk_un hqi]
        have a1 := (o2 i hi hoi).2
        have a2 := hlt i hi hoi
        omega
      · rw [pk_un hqi] at hoi
        rw [pk_un hqj] at hoj
        rw [pk_un hqi, pk_un hqj, pk_un hqi, pk_un hqj]
        exact o3 i j hi hj hoi hoj
  · intro j hj
    show upd (σm 38) h (nI p) j = -1 ∨ vp_in (upd (σm 38) h (nI p) j) _
    by_cases hq : j = h
    · subst hq
      rw [pk_us]
      refine Or.inr ?_
      show vp_in (nI p) (σm 2 0).toNatClampNeg
      rw [vp_in_iff, nI_toInt p31]
      omega
    · rw [pk_un hq]
      exact K.2.2.2.2 j hj
/-- a herd goes off -/
theorem rel_off {k : Nat} {σx σm : St} (hk : k ≤ 511) (hR : RelB k σx σm) {h : Nat} {v w : Int32} (hv : (σx 817 0).toInt ≤ v.toInt ∧ v.toInt ≤ ((k + 1 : Nat) : Int)) : RelB (k + 1) (put (put (put σx 203 h (-1)) 817 0 v) 204 h w) (put σm 38 h (-1)) := by
  have hR0 := hR
  obtain ⟨E, G, HP, HU, HO, K, K2⟩ := hR
  obtain ⟨e1, e2, e3, e4, e5, e6, e7, e8, e9, e10, e11, e12, e13, e14, e15, e16, e17, e18⟩ := id E
  obtain ⟨g1, g2, g3, g4, g5, g6, g7, g8, g9, g10⟩ := id G
  obtain ⟨o1, o2, o3⟩ := HO
  have ne : ∀ j : Nat, ¬ upd (σm 38) h (-1) j < 0 → j ≠ h := by
    intro j hj e
    subst e
    rw [pk_us] at hj
    exact hj (by decide)
  refine ⟨⟨e1, e2, e3, e4, e5, e6, e7, e8, e9, e10, e11, e12, e13, e14, e15, e16, e17, ra_u e18 _ _⟩, G, HP, HU, ⟨⟨?_, hv.2⟩, ?_, ?_⟩, ⟨K.1, K.2.1, K.2.2.1, K.2.2.2.1, ?_⟩, K2⟩
  · show 0 ≤ v.toInt
    omega
  · intro j hj ho
    have hq := ne j ho
    replace ho : ¬ upd (σm 38) h (-1) j < 0 := ho
    show 0 < (upd (σx 204) h w j).toInt ∧ (upd (σx 204) h w j).toInt ≤ v.toInt
    rw [pk_un hq] at ho ⊢
    have := o2 j hj ho
    omega
  · intro i j hi hj hoi hoj
    have hqi := ne i hoi
    have hqj := ne j hoj
    replace hoi : ¬ upd (σm 38) h (-1) i < 0 := hoi
    replace hoj : ¬ upd (σm 38) h (-1) j < 0 := hoj
    rw [pk_un hqi] at hoi
    rw [pk_un hqj] at hoj
    show (upd (σx 204) h w i).toInt < (upd (σx 204) h w j).toInt ↔ (σm 39 i).toInt < (σm 39 j).toInt
    rw [pk_un hqi, pk_un hqj]
    exact o3 i j hi hj hoi hoj
  · intro j hj
    show upd (σm 38) h (-1) j = -1 ∨ vp_in (upd (σm 38) h (-1) j) _
    by_cases hq : j = h
    · subst hq
      rw [pk_us]
      exact Or.inl rfl
    · rw [pk_un hq]
      exact K.2.2.2.2 j hj
theorem put_self {σ : St} {f i : Nat} {x : Int32} : put σ f i x f = upd (σ f) i x := by
  show cond (Nat.beq f f) (upd (σ f) i x) (σ f) = upd (σ f) i x
  rw [Nat.beq_refl]
  rfl
theorem put_back {σ τ : St} {g i : Nat} {v x : Int32} {f : Nat} (h : τ f = put σ g i v f) (hx : σ g i = x) : put τ g i x f = σ f := by
  by_cases hf : f = g
  · subst hf
    rw [put_self, h, put_self]
    funext j
    by_cases hj : j = i
    · subst hj
      rw [pk_us, hx]
    · rw [pk_un hj, pk_un hj]
  · rw [put_fr hf, h, put_fr hf]
theorem rst_eq {σx σm : St} (g : σx 404 = σm 16) {p : Nat} (hp : p < 2 ^ 31) : s_X4_restsOn σx p (σm 1 0) = s_X9_rests σm (nI p) := by
  unfold s_X4_restsOn s_X9_rests
  rw [nI_clamp hp, g]
theorem nI_m1 {p : Nat} (hp : p < 2 ^ 31) : ¬ nI p = -1 := by
  intro e
  have h := nI_n0 hp
  rw [e] at h
  exact h (by decide)
set_option maxRecDepth 20000 in
theorem b_put {k : Nat} {σx σm : St} (hk : k ≤ 511) (hI : IX σx) (hJ : IR σm) (hJR : JR σm) (hR : RelB k σx σm) (a1 a2 : Int32) : (s_X8_put σx a1 a2).1 = (s_X9_put σm a1 a2).1 ∧ RelB (k + 1) (s_X8_put σx a1 a2).2 (s_X9_put σm a1 a2).2 := by
  have hR0 := hR
  obtain ⟨E, G, HP, HU, HO, K, K2⟩ := hR
  obtain ⟨e1, e2, e3, e4, e5, e6, e7, e8, e9, e10, e11, e12, e13, e14, e15, e16, e17, e18⟩ := id E
  obtain ⟨g1, g2, g3, g4, g5, g6, g7, g8, g9, g10⟩ := id G
  unfold s_X8_put s_X9_put
  simp only [ite_not, ra_io, ra_ih, ra_ip, ra_ir, ra_ie, ra_iw, ra_mc, e1, e2, e3, e4, e5, e6, e7, e8, e9, e10, e11, e12, e13, e14, e15, e16, e17, e18, g1, g2, g3, g4, g5, g6, g7, g8, g9, g10]
  by_cases h_1 : s_X9_isIn a1 (σm 6 0) = 0
  · simp only [if_pos h_1, ra_10, not_true_eq_false, not_false_eq_true, ↓reduceIte]
    exact ⟨rfl, rel_ref hR0 _ _⟩
  · simp only [if_neg h_1, ra_10, not_true_eq_false, not_false_eq_true, ↓reduceIte]
    by_cases h_2 : s_X9_isIn a2 (σm 2 0) = 0
    · simp only [if_pos h_2, ra_10, not_true_eq_false, not_false_eq_true, ↓reduceIte]
      exact ⟨rfl, rel_ref hR0 _ _⟩
    · simp only [if_neg h_2, ra_10, not_true_eq_false, not_false_eq_true, ↓reduceIte]
      obtain ⟨h, hh, rfl⟩ := vp_in_of (in_vp.mpr h_1) (tn_lt _)
      have h31 : h < 2 ^ 31 := Nat.lt_trans hh (tn_lt _)
      have n38 := neg1 (K.2.2.2.2 h hh)
      simp only [nI_clamp h31]
      obtain ⟨p, hp, rfl⟩ := vp_in_of (in_vp.mpr h_2) (tn_lt _)
      have p31 : p < 2 ^ 31 := Nat.lt_trans hp (tn_lt _)
      have hrs := rst_eq g6 p31
      simp only [nI_clamp p31, hrs]
      simp only [n38.2, ite_not]
      by_cases h_3 : σm 41 h = 0
      case neg => simp only [if_neg h_3, ra_10, not_true_eq_false, not_false_eq_true, ↓reduceIte]; exact ⟨rfl, rel_ref hR0 _ _⟩
      case pos =>
        simp only [if_pos h_3, ra_10, not_true_eq_false, not_false_eq_true, ↓reduceIte]
        by_cases h_4 : σm 38 h = -1
        case neg => simp only [if_neg h_4, ra_10, not_true_eq_false, not_false_eq_true, ↓reduceIte]; exact ⟨rfl, rel_ref hR0 _ _⟩
        case pos =>
          simp only [if_pos h_4, ra_10, not_true_eq_false, not_false_eq_true, ↓reduceIte]
          by_cases h_5 : s_X9_rests σm (nI p) = 0
          case neg => simp only [if_neg h_5, ra_10, not_true_eq_false, not_false_eq_true, ↓reduceIte]; exact ⟨rfl, rel_ref hR0 _ _⟩
          case pos =>
            simp only [if_pos h_5, ra_10, not_true_eq_false, not_false_eq_true, ↓reduceIte]
            have hE : RE (put σx 203 h (nI p)) (put σm 38 h (nI p)) := ⟨e1, e2, e3, e4, e5, e6, e7, e8, e9, e10, e11, e12, e13, e14, e15, e16, e17, ra_u e18 _ _⟩
            have hKK : KR (put σm 38 h (nI p)) := by
              refine ⟨K.1, K.2.1, K.2.2.1, K.2.2.2.1, fun j hj => ?_⟩
              show upd (σm 38) h (nI p) j = -1 ∨ vp_in (upd (σm 38) h (nI p) j) _
              by_cases hq : j = h
              · subst hq
                rw [pk_us]
                refine Or.inr ?_
                show vp_in (nI p) (σm 2 0).toNatClampNeg
                rw [vp_in_iff, nI_toInt p31]
                omega
              · rw [pk_un hq]
                exact K.2.2.2.2 j hj
            have hj4 : ∀ j : Nat, j < (put σm 38 h (nI p) 6 0).toNatClampNeg → ¬ put σm 38 h (nI p) 41 j = 0 → put σm 38 h (nI p) 38 j < 0 := by
              intro j hj hc
              replace hc : ¬ σm 41 j = 0 := hc
              have hq : j ≠ h := fun e => hc (by rw [e]; exact h_3)
              show upd (σm 38) h (nI p) j < 0
              rw [pk_un hq]
              exact hJR.2.2.2 j hj hc
            have hlk : (s_X8_lackOf (put σx 203 h (nI p)) (σm 35 h)).1 = s_X9_lacksOf (put σm 38 h (nI p)) (σm 35 h) := lk_eq hE hKK HP hJ hj4 (σm 35 h)
            have hL := cov_x (put σx 203 h (nI p)) (σm 35 h)
            rw [hlk]
            obtain ⟨L, hLd⟩ : ∃ L, (s_X8_lackOf (put σx 203 h (nI p)) (σm 35 h)).2 = L := ⟨_, rfl⟩
            rw [hLd] at hL ⊢
            have h817 : L 817 0 = σx 817 0 := congrFun (hf_x hL 817 (by decide)) 0
            rw [h817]
            by_cases hl : s_X9_lacksOf (put σm 38 h (nI p)) (σm 35 h) ≤ 0
            · simp only [if_pos hl]
              have hg := rel_goes hk hJR hR0 hh hp h_3
              refine ⟨by trivial, ?_⟩
              exact rel_x hg (fun f hf => put_cg (put_cg (hf_x hL f hf)))
            · simp only [if_neg hl]
              have hx203 : σx 203 h = -1 := (congrFun e18 h).trans h_4
              refine ⟨by first | rfl | trivial, rel_cast hR0 (fun f hf => (fr_s_X8_refuse _ _ (fun e => absurd (e ▸ hf) (by decide))).trans (put_back (hf_x hL f hf) hx203)) (fun f hf => (fr_s_X9_refuse _ _ (fun e => absurd (e ▸ hf) (by decide))).trans (put_back rfl h_4))⟩
theorem rlB_put {k : Nat} {σx σm : St} (hk : k ≤ 511) (hI : IX σx) (hJ : IR σm) (hJR : JR σm) (hR : RelB k σx σm) (a1 a2 : Int32) : RelB (k + 1) (s_X8_put σx a1 a2).2 (s_X9_put σm a1 a2).2 := (b_put hk hI hJ hJR hR a1 a2).2
theorem eqB_put {k : Nat} {σx σm : St} (hk : k ≤ 511) (hI : IX σx) (hJ : IR σm) (hJR : JR σm) (hR : RelB k σx σm) (a1 a2 : Int32) : (s_X8_put σx a1 a2).1 = (s_X9_put σm a1 a2).1 := (b_put hk hI hJ hJR hR a1 a2).1
set_option maxRecDepth 20000 in
theorem b_drive {k : Nat} {σx σm : St} (hk : k ≤ 511) (hI : IX σx) (hJ : IR σm) (hJR : JR σm) (hR : RelB k σx σm) (a1 a2 : Int32) : (s_X8_drive σx a1 a2).1 = (s_X9_drive σm a1 a2).1 ∧ RelB (k + 1) (s_X8_drive σx a1 a2).2 (s_X9_drive σm a1 a2).2 := by
  have hR0 := hR
  obtain ⟨E, G, HP, HU, HO, K, K2⟩ := hR
  obtain ⟨e1, e2, e3, e4, e5, e6, e7, e8, e9, e10, e11, e12, e13, e14, e15, e16, e17, e18⟩ := id E
  obtain ⟨g1, g2, g3, g4, g5, g6, g7, g8, g9, g10⟩ := id G
  unfold s_X8_drive s_X9_drive
  simp only [ite_not, ra_io, ra_ih, ra_ip, ra_ir, ra_ie, ra_iw, ra_mc, e1, e2, e3, e4, e5, e6, e7, e8, e9, e10, e11, e12, e13, e14, e15, e16, e17, e18, g1, g2, g3, g4, g5, g6, g7, g8, g9, g10]
  by_cases h_1 : s_X9_isIn a1 (σm 6 0) = 0
  · simp only [if_pos h_1, ra_10, not_true_eq_false, not_false_eq_true, ↓reduceIte]
    exact ⟨rfl, rel_ref hR0 _ _⟩
  · simp only [if_neg h_1, ra_10, not_true_eq_false, not_false_eq_true, ↓reduceIte]
    obtain ⟨h, hh, rfl⟩ := vp_in_of (in_vp.mpr h_1) (tn_lt _)
    have h31 : h < 2 ^ 31 := Nat.lt_trans hh (tn_lt _)
    have n38 := neg1 (K.2.2.2.2 h hh)
    simp only [nI_clamp h31]
    have z41 : ¬ σm 38 h = -1 → σm 41 h = 0 ∧ ¬ σm 38 h < 0 := fun hc => by
      have q := fun e => hc (n38.1.mpr e)
      exact ⟨Decidable.byContradiction (fun h0 => q (hJR.2.2.2 h hh h0)), q⟩
    have hv : (σx 817 0).toInt ≤ (σx 817 0 + 1).toInt ∧ (σx 817 0 + 1).toInt ≤ ((k + 1 : Nat) : Int) := by
      have o1 := HO.1
      have e1' : (1 : Int32).toInt = 1 := by decide
      rw [add_ti (by rw [e1']; omega) (by rw [e1']; omega), e1']
      omega
    by_cases h_2 : a2 = -1
    · simp only [if_pos h_2, ra_10, not_true_eq_false, not_false_eq_true, ↓reduceIte]
      by_cases h38 : σm 38 h = -1
      · have hlt := n38.1.mp h38
        simp only [if_pos h38, if_pos hlt, ite_self]
        exact ⟨rfl, rel_ref hR0 _ _⟩
      · obtain ⟨z1, z2⟩ := z41 h38
        have hne : ¬ σm 38 h = a2 := fun e => h38 (e.trans h_2)
        have hlt : a2 < 0 := by rw [h_2]; decide
        simp only [if_neg h38, if_neg hne, if_pos z1, if_neg z2, if_pos hlt]
        rw [h_2]
        exact ⟨by first | rfl | trivial, rel_off hk hR0 hv⟩
    · simp only [if_neg h_2, ra_10, not_true_eq_false, not_false_eq_true, ↓reduceIte]
      by_cases h_3 : s_X9_isIn a2 (σm 2 0) = 0
      · simp only [if_pos h_3, ra_10, not_true_eq_false, not_false_eq_true, ↓reduceIte]
        exact ⟨rfl, rel_ref hR0 _ _⟩
      · simp only [if_neg h_3, ra_10, not_true_eq_false, not_false_eq_true, ↓reduceIte]
        obtain ⟨p, hp, rfl⟩ := vp_in_of (in_vp.mpr h_3) (tn_lt _)
        have p31 : p < 2 ^ 31 := Nat.lt_trans hp (tn_lt _)
        have hrs := rst_eq g6 p31
        simp only [nI_clamp p31, hrs]
        by_cases h38 : σm 38 h = -1
        · have hlt := n38.1.mp h38
          simp only [if_pos h38, if_pos hlt, ite_self]
          exact ⟨rfl, rel_ref hR0 _ _⟩
        · obtain ⟨z1, z2⟩ := z41 h38
          simp only [if_neg h38, if_pos z1, if_neg z2, if_neg (nI_n0 p31)]
          by_cases hsm : σm 38 h = nI p
          · simp only [if_pos hsm, ite_self]
            exact ⟨rfl, rel_ref hR0 _ _⟩
          · simp only [if_neg hsm]
            by_cases hrt : s_X9_rests σm (nI p) = 0
            · simp only [if_pos hrt]
              exact ⟨by first | rfl | trivial, rel_goes hk hJR hR0 hh hp z1⟩
            · simp only [if_neg hrt]
              exact ⟨rfl, rel_ref hR0 _ _⟩
theorem rlB_drive {k : Nat} {σx σm : St} (hk : k ≤ 511) (hI : IX σx) (hJ : IR σm) (hJR : JR σm) (hR : RelB k σx σm) (a1 a2 : Int32) : RelB (k + 1) (s_X8_drive σx a1 a2).2 (s_X9_drive σm a1 a2).2 := (b_drive hk hI hJ hJR hR a1 a2).2
theorem eqB_drive {k : Nat} {σx σm : St} (hk : k ≤ 511) (hI : IX σx) (hJ : IR σm) (hJR : JR σm) (hR : RelB k σx σm) (a1 a2 : Int32) : (s_X8_drive σx a1 a2).1 = (s_X9_drive σm a1 a2).1 := (b_drive hk hI hJ hJR hR a1 a2).1
/-- a herd goes into the pound -/
theorem rel_pound {k : Nat} {σx σm : St} (hJ : IR σm) (hR : RelB k σx σm) {h : Nat} (hh : h < (σm 6 0).toNatClampNeg) : RelB (k + 1) (put (put (put σx 203 h (-1)) 206 h 1) 207 h (σm 1 0)) (put (put (put σm 38 h (-1)) 41 h 1) 42 h (σm 1 0)) := by
  have hR0 := hR
  obtain ⟨E, G, HP, HU, HO, K, K2⟩ := hR
  obtain ⟨e1, e2, e3, e4, e5, e6, e7, e8, e9, e10, e11, e12, e13, e14, e15, e16, e17, e18⟩ := id E
  obtain ⟨g1, g2, g3, g4, g5, g6, g7, g8, g9, g10⟩ := id G
  obtain ⟨o1, o2, o3⟩ := HO
  have ne : ∀ j : Nat, ¬ upd (σm 38) h (-1) j < 0 → j ≠ h := by
    intro j hj e
    subst e
    rw [pk_us] at hj
    exact hj (by decide)
  have hd := ir_1 hJ
  refine ⟨⟨e1, e2, e3, e4, e5, e6, e7, e8, e9, e10, e11, e12, e13, e14, e15, e16, e17, ra_u e18 _ _⟩, ⟨ra_u g1 _ _, ra_u g2 _ _, g3, g4, g5, g6, g7, g8, g9, g10⟩, HP, HU, ⟨⟨o1.1, k_up o1.2⟩, ?_, ?_⟩, ⟨K.1, K.2.1, K.2.2.1, K.2.2.2.1, ?_⟩, ⟨?_, K2.2.1, K2.2.2.1, ?_, K2.2.2.2.2⟩⟩
  · intro j hj ho
    have hq := ne j ho
    replace ho : ¬ upd (σm 38) h (-1) j < 0 := ho
    rw [pk_un hq] at ho
    exact o2 j hj ho
  · intro i j hi hj hoi hoj
    have hqi := ne i hoi
    have hqj := ne j hoj
    replace hoi : ¬ upd (σm 38) h (-1) i < 0 := hoi
    replace hoj : ¬ upd (σm 38) h (-1) j < 0 := hoj
    rw [pk_un hqi] at hoi
    rw [pk_un hqj] at hoj
    exact o3 i j hi hj hoi hoj
  · intro j hj
    show upd (σm 38) h (-1) j = -1 ∨ vp_in (upd (σm 38) h (-1) j) _
    by_cases hq : j = h
    · subst hq
      rw [pk_us]
      exact Or.inl rfl
    · rw [pk_un hq]
      exact K.2.2.2.2 j hj
  · intro j hj
    replace hj : (σm 6 0).toNatClampNeg ≤ j := hj
    show upd (σm 41) h 1 j = 0 ∧ upd (σm 42) h (σm 1 0) j = 0
    rw [pk_un (show j ≠ h by omega), pk_un (show j ≠ h by omega)]
    exact K2.1 j hj
  · intro j hj h1
    replace h1 : upd (σm 41) h 1 j = 1 := h1
    show 0 ≤ (upd (σm 42) h (σm 1 0) j).toInt ∧ (upd (σm 42) h (σm 1 0) j).toInt ≤ (σm 1 0).toInt ∧ (σm 1 0).toInt - (upd (σm 42) h (σm 1 0) j).toInt + 1 ≤ 30
    by_cases hq : j = h
    · subst hq
      rw [pk_us]
      omega
    · rw [pk_un hq] at h1 ⊢
      exact K2.2.2.2.1 j hj h1
set_option maxRecDepth 20000 in
theorem b_pound {k : Nat} {σx σm : St} (hk : k ≤ 511) (hI : IX σx) (hJ : IR σm) (hJR : JR σm) (hR : RelB k σx σm) (a1 : Int32) : (s_X8_pound σx a1).1 = (s_X9_pound σm a1).1 ∧ RelB (k + 1) (s_X8_pound σx a1).2 (s_X9_pound σm a1).2 := by
  have hR0 := hR
  obtain ⟨E, G, HP, HU, HO, K, K2⟩ := hR
  obtain ⟨e1, e2, e3, e4, e5, e6, e7, e8, e9, e10, e11, e12, e13, e14, e15, e16, e17, e18⟩ := id E
  obtain ⟨g1, g2, g3, g4, g5, g6, g7, g8, g9, g10⟩ := id G
  unfold s_X8_pound s_X9_pound
  simp only [ite_not, ra_io, ra_ih, ra_ip, ra_ir, ra_ie, ra_iw, ra_mc, e1, e2, e3, e4, e5, e6, e7, e8, e9, e10, e11, e12, e13, e14, e15, e16, e17, e18, g1, g2, g3, g4, g5, g6, g7, g8, g9, g10]
  by_cases h_1 : s_X9_isIn a1 (σm 6 0) = 0
  · simp only [if_pos h_1, ra_10, not_true_eq_false, not_false_eq_true, ↓reduceIte]
    exact ⟨rfl, rel_ref hR0 _ _⟩
  · simp only [if_neg h_1, ra_10, not_true_eq_false, not_false_eq_true, ↓reduceIte]
    obtain ⟨h, hh, rfl⟩ := vp_in_of (in_vp.mpr h_1) (tn_lt _)
    have h31 : h < 2 ^ 31 := Nat.lt_trans hh (tn_lt _)
    have n38 := neg1 (K.2.2.2.2 h hh)
    simp only [nI_clamp h31]
    have hio : (s_X9_isOut σm (nI h) = 0) = (σm 38 h = -1) := by
      unfold s_X9_isOut
      rw [nI_clamp h31]
      by_cases h38 : σm 38 h = -1
      · have hlt := n38.1.mp h38
        rw [if_pos hlt, ite_self]
        exact propext ⟨fun _ => h38, fun _ => rfl⟩
      · have q := fun e => h38 (n38.1.mpr e)
        have z1 : σm 41 h = 0 := Decidable.byContradiction (fun h0 => q (hJR.2.2.2 h hh h0))
        simp only [if_pos z1, if_neg q, h38, ra_10]
    simp only [hio]
    by_cases h_2 : σm 38 h = -1
    · simp only [if_pos h_2, ra_10, not_true_eq_false, not_false_eq_true, ↓reduceIte]
      exact ⟨rfl, rel_ref hR0 _ _⟩
    · simp only [if_neg h_2, ra_10, not_true_eq_false, not_false_eq_true, ↓reduceIte]
      have hlk : (s_X8_lackOf σx (σm 35 h)).1 = s_X9_lacksOf σm (σm 35 h) := lk_eq E K HP hJ hJR.2.2.2 (σm 35 h)
      have hL := cov_x σx (σm 35 h)
      rw [hlk]
      obtain ⟨L, hLd⟩ : ∃ L, (s_X8_lackOf σx (σm 35 h)).2 = L := ⟨_, rfl⟩
      rw [hLd] at hL ⊢
      have h816 : L 816 0 = σm 1 0 := (congrFun (hf_x hL 816 (by decide)) 0).trans (congrFun e6 0)
      rw [h816]
      by_cases hl : s_X9_lacksOf σm (σm 35 h) = 0
      · simp only [if_pos hl]
        exact ⟨rfl, rel_cast hR0 (fun f hf => (fr_s_X8_refuse _ _ (fun e => absurd (e ▸ hf) (by decide))).trans (hf_x hL f hf)) (fun f hf => fr_s_X9_refuse _ _ (fun e => absurd (e ▸ hf) (by decide)))⟩
      · simp only [if_neg hl]
        exact ⟨by first | rfl | trivial, rel_x (rel_pound hJ hR0 hh) (fun f hf => put_cg (put_cg (put_cg (hf_x hL f hf))))⟩
theorem rlB_pound {k : Nat} {σx σm : St} (hk : k ≤ 511) (hI : IX σx) (hJ : IR σm) (hJR : JR σm) (hR : RelB k σx σm) (a1 : Int32) : RelB (k + 1) (s_X8_pound σx a1).2 (s_X9_pound σm a1).2 := (b_pound hk hI hJ hJR hR a1).2
theorem eqB_pound {k : Nat} {σx σm : St} (hk : k ≤ 511) (hI : IX σx) (hJ : IR σm) (hJR : JR σm) (hR : RelB k σx σm) (a1 : Int32) : (s_X8_pound σx a1).1 = (s_X9_pound σm a1).1 := (b_pound hk hI hJ hJR hR a1).1
set_option maxRecDepth 20000 in
theorem b_free {k : Nat} {σx σm : St} (hk : k ≤ 511) (hI : IX σx) (hJ : IR σm) (hJR : JR σm) (hR : RelB k σx σm) (a1 : Int32) : (s_X8_free σx a1).1 = (s_X9_free σm a1).1 ∧ RelB (k + 1) (s_X8_free σx a1).2 (s_X9_free σm a1).2 := by
  have hR0 := hR
  obtain ⟨E, G, HP, HU, HO, K, K2⟩ := hR
  obtain ⟨e1, e2, e3, e4, e5, e6, e7, e8, e9, e10, e11, e12, e13, e14, e15, e16, e17, e18⟩ := id E
  obtain ⟨g1, g2, g3, g4, g5, g6, g7, g8, g9, g10⟩ := id G
  unfold s_X8_free s_X9_free
  simp only [ite_not, ra_io, ra_ih, ra_ip, ra_ir, ra_ie, ra_iw, ra_mc, e1, e2, e3, e4, e5, e6, e7, e8, e9, e10, e11, e12, e13, e14, e15, e16, e17, e18, g1, g2, g3, g4, g5, g6, g7, g8, g9, g10]
  by_cases h_1 : s_X9_isIn a1 (σm 6 0) = 0
  · simp only [if_pos h_1, ra_10, not_true_eq_false, not_false_eq_true, ↓reduceIte]
    exact ⟨rfl, rel_ref hR0 _ _⟩
  · simp only [if_neg h_1, ra_10, not_true_eq_false, not_false_eq_true, ↓reduceIte]
    obtain ⟨h, hh, rfl⟩ := vp_in_of (in_vp.mpr h_1) (tn_lt _)
    have h31 : h < 2 ^ 31 := Nat.lt_trans hh (tn_lt _)
    have n38 := neg1 (K.2.2.2.2 h hh)
    simp only [nI_clamp h31]
    by_cases h_2 : σm 41 h = 1
    case neg => simp only [if_neg h_2, ra_10, not_true_eq_false, not_false_eq_true, ↓reduceIte]; exact ⟨rfl, rel_ref hR0 _ _⟩
    case pos =>
      simp only [if_pos h_2, ra_10, not_true_eq_false, not_false_eq_true, ↓reduceIte]
      have hfe : s_X2_fee σx h (σm 1 0) = s_X9_feeOf σm (nI h) := by
        unfold s_X2_fee s_X2_daysInPound s_X9_feeOf
        rw [nI_clamp h31, g1, g2, e17, if_pos h_2, if_pos h_2]
      simp only [hfe]
      by_cases h_3 : s_X9_feeOf σm (nI h) ≤ σm 19 (σm 35 h).toNatClampNeg
      case neg => simp only [if_neg h_3, ra_10, not_true_eq_false, not_false_eq_true, ↓reduceIte]; exact ⟨rfl, rel_ref hR0 _ _⟩
      case pos =>
        simp only [if_pos h_3, ra_10, not_true_eq_false, not_false_eq_true, ↓reduceIte]
        refine ⟨by first | rfl | trivial, ⟨e1, e2, e3, e4, e5, e6, e7, e8, e9, e10, e11, e12, e13, e14, e15, e16, e17, e18⟩, ⟨ra_u g1 _ _, g2, g3, g4, g5, g6, ra_u g7 _ _, ra_u g8 _ _, g9, g10⟩, HP, HU, ro_mono HO, K, ⟨?_, K2.2.1, K2.2.2.1, ?_, K2.2.2.2.2⟩⟩
        · intro j hj
          replace hj : (σm 6 0).toNatClampNeg ≤ j := hj
          show upd (σm 41) h 0 j = 0 ∧ σm 42 j = 0
          rw [pk_un (show j ≠ h by omega)]
          exact K2.1 j hj
        · intro j hj h1
          replace h1 : upd (σm 41) h 0 j = 1 := h1
          by_cases hq : j = h
          · subst hq
            rw [pk_us] at h1
            exact absurd h1 (by decide)
          · rw [pk_un hq] at h1
            exact K2.2.2.2.1 j hj h1
theorem rlB_free {k : Nat} {σx σm : St} (hk : k ≤ 511) (hI : IX σx) (hJ : IR σm) (hJR : JR σm) (hR : RelB k σx σm) (a1 : Int32) : RelB (k + 1) (s_X8_free σx a1).2 (s_X9_free σm a1).2 := (b_free hk hI hJ hJR hR a1).2
theorem eqB_free {k : Nat} {σx σm : St} (hk : k ≤ 511) (hI : IX σx) (hJ : IR σm) (hJR : JR σm) (hR : RelB k σx σm) (a1 : Int32) : (s_X8_free σx a1).1 = (s_X9_free σm a1).1 := (b_free hk hI hJ hJR hR a1).1
theorem eqB_covered {k : Nat} {σx σm : St} (hk : k ≤ 511) (hI : IX σx) (hJ : IR σm) (hJR : JR σm) (hR : RelB k σx σm) (a1 : Int32) : (s_X8_covered σx a1).1 = (s_X9_covered σm a1).1 := by
  have hR0 := hR
  obtain ⟨E, G, HP, HU, HO, K, K2⟩ := hR
  obtain ⟨e1, e2, e3, e4, e5, e6, e7, e8, e9, e10, e11, e12, e13, e14, e15, e16, e17, e18⟩ := id E
  obtain ⟨g1, g2, g3, g4, g5, g6, g7, g8, g9, g10⟩ := id G
  have hlk : (s_X8_lackOf σx a1).1 = s_X9_lacksOf σm a1 := lk_eq E K HP hJ hJR.2.2.2 a1
  unfold s_X8_covered s_X9_covered
  simp only [hlk, ite_not, ra_io, ra_ih, ra_ip, ra_ir, ra_ie, ra_iw, ra_mc, e1, e2, e3, e4, e5, e6, e7, e8, e9, e10, e11, e12, e13, e14, e15, e16, e17, e18, g1, g2, g3, g4, g5, g6, g7, g8, g9, g10]
  by_cases h1 : s_X9_isIn a1 (σm 3 0) = 0
  · simp only [if_pos h1]
    rfl
  · simp only [if_neg h1]
    by_cases h2 : s_X9_lacksOf σm a1 = 0
    · simp only [if_pos h2]
    · simp only [if_neg h2]
theorem eqB_lacks {k : Nat} {σx σm : St} (hk : k ≤ 511) (hI : IX σx) (hJ : IR σm) (hJR : JR σm) (hR : RelB k σx σm) (a1 : Int32) : (s_X8_lacks σx a1).1 = (s_X9_lacks σm a1).1 := by
  have hR0 := hR
  obtain ⟨E, G, HP, HU, HO, K, K2⟩ := hR
  obtain ⟨e1, e2, e3, e4, e5, e6, e7, e8, e9, e10, e11, e12, e13, e14, e15, e16, e17, e18⟩ := id E
  obtain ⟨g1, g2, g3, g4, g5, g6, g7, g8, g9, g10⟩ := id G
  have hlk : (s_X8_lackOf σx a1).1 = s_X9_lacksOf σm a1 := lk_eq E K HP hJ hJR.2.2.2 a1
  unfold s_X8_lacks s_X9_lacks
  simp only [hlk, ite_not, ra_io, ra_ih, ra_ip, ra_ir, ra_ie, ra_iw, ra_mc, e1, e2, e3, e4, e5, e6, e7, e8, e9, e10, e11, e12, e13, e14, e15, e16, e17, e18, g1, g2, g3, g4, g5, g6, g7, g8, g9, g10]
  by_cases h1 : s_X9_isIn a1 (σm 3 0) = 0
  · simp only [if_pos h1]
    rfl
  · simp only [if_neg h1]
/-! hay is cut where no herd is -/
theorem on_sum (σ : St) (a : Int32) : s_X8_herdsOn σ a = Sm (fun h => if σ 203 h = a then 1 else 0) (σ 815 0).toNatClampNeg := by
  unfold s_X8_herdsOn s_X8_herdsOn_c4
  rw [Nat.sub_zero]
  try dsimp only
  rw [it_add (f := fun h => if σ 203 h = a then 1 else 0) (fun k v => ?_), Int32.zero_add]
  unfold s_X8_herdsOn_l4
  try dsimp only
  by_cases h : σ 203 k = a
  · rw [if_pos h, if_pos h]
  · rw [if_neg h, if_neg h, Int32.add_zero]
theorem on_0 (c : Nat → Prop) [DecidablePred c] : ∀ n : Nat, n ≤ 20 → ((Sm (fun h => if c h then (1 : Int32) else 0) n).toInt ≤ 0 ↔ ∀ h, h < n → ¬ c h) := by
  have e1 : (1 : Int32).toInt = 1 := by decide
  have bd : ∀ n : Nat, n ≤ 20 → 0 ≤ (Sm (fun h => if c h then (1 : Int32) else 0) n).toInt ∧ (Sm (fun h => if c h then (1 : Int32) else 0) n).toInt ≤ ((n * 1 : Nat) : Int) := fun n hn => sm_bd (B := 1) (N := 20) (by decide) hn (fun k _ => by
    try dsimp only
    split
    · rw [e1]; omega
    · exact z_bd)
  intro n
  induction n with
  | zero => exact fun _ => ⟨fun _ h hh => absurd hh (Nat.not_lt_zero h), fun _ => by show (0 : Int32).toInt ≤ 0; decide⟩
  | succ n ih =>
    intro hn
    have b := bd n (by omega)
    show (Sm (fun h => if c h then (1 : Int32) else 0) n + (if c n then (1 : Int32) else 0)).toInt ≤ 0 ↔ _
    by_cases hc : c n
    · rw [if_pos hc, add_ti (by rw [e1]; omega) (by rw [e1]; omega), e1]
      exact ⟨fun h => by omega, fun h => absurd hc (h n (by omega))⟩
    · rw [if_neg hc, Int32.add_zero]
      refine (ih (by omega)).trans ⟨fun h j hj => ?_, fun h j hj => h j (by omega)⟩
      by_cases hq : j = n
      · rw [hq]; exact hc
      · exact h j (by omega)
theorem on_m (σ : St) (a : Int32) (n : Nat) : (iter (s_X9_cut_l21 σ a) n 0 0 = 0 ↔ ∀ h, h < n → s_X9_isOut σ (nI h) = 0 ∨ ¬ σ 38 h = a) := by
  refine it_ind (L := s_X9_cut_l21 σ a) (P := fun k (v : Int32) => (v = 0 ↔ ∀ h, h < k → s_X9_isOut σ (nI h) = 0 ∨ ¬ σ 38 h = a)) ⟨fun _ h hh => absurd hh (Nat.not_lt_zero h), fun _ => rfl⟩ n (fun k v _ ih => ?_)
  unfold s_X9_cut_l21
  try dsimp only
  by_cases hv : v = 0
  · rw [if_pos hv]
    have ih := ih.mp hv
    have step : (s_X9_isOut σ (nI k) = 0 ∨ ¬ σ 38 k = a) → ∀ h, h < k + 1 → s_X9_isOut σ (nI h) = 0 ∨ ¬ σ 38 h = a := by
      intro hs h hh
      by_cases hq : h = k
      · rw [hq]; exact hs
      · exact ih h (by omega)
    by_cases h1 : s_X9_isOut σ (nI k) = 0
    · rw [if_pos h1]
      exact ⟨fun _ => step (Or.inl h1), fun _ => rfl⟩
    · rw [if_neg h1]
      by_cases h2 : σ 38 k = a
      · rw [if_pos h2]
        exact ⟨fun e => absurd e (by decide), fun h => (h k (by omega)).elim (fun e => absurd e h1) (fun e => absurd h2 e)⟩
      · rw [if_neg h2]
        exact ⟨fun _ => step (Or.inr h2), fun _ => rfl⟩
  · rw [if_neg hv]
    exact ⟨fun e => absurd e (by decide), fun h => absurd (ih.mpr (fun j hj => h j (by omega))) hv⟩
theorem cut_16 (σ : St) (a1 : Int32) (v : Int64) : (s_X9_cut_c125 σ a1 v).2 16 = upd (σ 16) a1.toNatClampNeg (σ 1 0 + 20) := by
  unfold s_X9_cut_c125
  try dsimp only
  have hl : ∀ (k : Nat) (s t : Int32 × St), s_X9_cut_l159 σ a1 v k s = some t → t.2 16 = s.2 16 := by
    intro k s t e
    obtain ⟨s1, s2⟩ := s
    unfold s_X9_cut_l159 s_X9_cut_c181 at e
    dsimp only at e
    split at e
    · cases e
    · cases e
      rfl
  have h := iterC_fr (P := fun s : Int32 × St => s.2 16) hl
  unfold s_X9_cut_c159
  try dsimp only
  exact (h _ _ _)
theorem rlB_cut {k : Nat} {σx σm : St} (hk : k ≤ 511) (hI : IX σx) (hJ : IR σm) (hJR : JR σm) (hR : RelB k σx σm) (a1 : Int32) : RelB (k + 1) (s_X8_cut σx a1).2 (s_X9_cut σm a1).2 := by
  have hR0 := hR
  obtain ⟨E, G, HP, HU, HO, K, K2⟩ := hR
  obtain ⟨e1, e2, e3, e4, e5, e6, e7, e8, e9, e10, e11, e12, e13, e14, e15, e16, e17, e18⟩ := id E
  obtain ⟨g1, g2, g3, g4, g5, g6, g7, g8, g9, g10⟩ := id G
  unfold s_X8_cut s_X9_cut s_X9_cut_c21
  try dsimp only
  simp only [ite_not, ra_io, ra_ih, ra_ip, ra_ir, ra_ie, ra_iw, ra_mc, e1, e2, e3, e4, e5, e6, e7, e8, e9, e10, e11, e12, e13, e14, e15, e16, e17, e18, g1, g2, g3, g4, g5, g6, g7, g8, g9, g10]
  by_cases h1 : s_X9_isIn a1 (σm 2 0) = 0
  · simp only [if_pos h1]
    exact rel_ref hR0 _ _
  · simp only [if_neg h1]
    obtain ⟨p, hp, rfl⟩ := vp_in_of (in_vp.mpr h1) (tn_lt _)
    have p31 : p < 2 ^ 31 := Nat.lt_trans hp (tn_lt _)
    have hrs := rst_eq g6 p31
    simp only [nI_clamp p31, hrs, Nat.sub_zero]
    by_cases h2 : s_X9_rests σm (nI p) = 0
    · simp only [if_pos h2]
      have n6 : (σm 6 0).toNatClampNeg ≤ 20 := cnt_le (ir_6 hJ)
      have hon : (s_X8_herdsOn σx (nI p) ≤ 0) ↔ (iter (s_X9_cut_l21 σm (nI p)) (σm 6 0).toNatClampNeg 0 0 = 0) := by
        rw [on_m, on_sum, Int32.le_iff_toInt_le, show (0 : Int32).toInt = 0 by decide, e5, e18, on_0 (fun h => σm 38 h = nI p) _ n6]
        refine ⟨fun h j hj => Or.inr (h j hj), fun h j hj e => ?_⟩
        exact (h j hj).elim (out_1 hJR.2.2.2 hj p31 e) (fun q => q e)
      by_cases h3 : s_X8_herdsOn σx (nI p) ≤ 0
      · simp only [if_pos h3, if_pos (hon.mp h3)]
        have R1 : RelB k (put σx 404 p (σm 1 0 + 20)) (put σm 16 p (σm 1 0 + 20)) := ⟨⟨e1, e2, e3, e4, e5, e6, e7, e8, e9, e10, e11, e12, e13, e14, e15, e16, e17, e18⟩, ⟨g1, g2, g3, g4, g5, ra_u g6 _ _, g7, g8, g9, g10⟩, HP, HU, HO, K, K2⟩
        refine rel_cast R1 (fun f hf => ?_) (fun f hf => ?_)
        · refine (fr_s_X8_shareHay _ _ _ (fun e => absurd (e ▸ hf) (by decide)) (fun e => absurd (e ▸ hf) (by decide)) (fun e => absurd (e ▸ hf) (by decide)) (fun e => absurd (e ▸ hf) (by decide)) (fun e => absurd (e ▸ hf) (by decide)) (fun e => absurd (e ▸ hf) (by decide)) (fun e => absurd (e ▸ hf) (by decide))).trans ?_
          exact put_cg (put_fr (fun e => absurd (e ▸ hf) (by decide)))
        · by_cases hf16 : f = 16
          · subst hf16
            rw [cut_16, nI_clamp p31]
            rfl
          · rw [put_fr hf16]
            exact fr_s_X9_cut_c125 _ _ _ (fun e => absurd (e ▸ hf) (by decide)) (fun e => absurd (e ▸ hf) (by decide)) (fun e => absurd (e ▸ hf) (by decide)) hf16 (fun e => absurd (e ▸ hf) (by decide))
      · simp only [if_neg h3, if_neg (fun e => h3 (hon.mpr e))]
        exact rel_ref hR0 _ _
    · simp only [if_neg h2]
      exact rel_ref hR0 _ _
/-! a day passes -/
def KP (b : Int) (σ : St) : Prop := ∀ h : Nat, h < (σ 6 0).toNatClampNeg → σ 41 h = 1 → 0 ≤ (σ 42 h).toInt ∧ (σ 42 h).toInt ≤ (σ 1 0).toInt ∧ (σ 1 0).toInt - (σ 42 h).toInt + 1 ≤ b
def KT (σ : St) : Prop := (∀ h : Nat, (σ 6 0).toNatClampNeg ≤ h → σ 41 h = 0 ∧ σ 42 h = 0) ∧ (∀ i : Nat, (σ 5 0).toNatClampNeg ≤ i → σ 33 i = 0) ∧ (∀ i j : Nat, i < (σ 5 0).toNatClampNeg → j < i → σ 31 i = nI j → σ 28 j ≤ σ 28 i ∧ σ 29 i ≤ σ 29 j) ∧ (∀ i : Nat, (0 ≤ (σ 28 i).toInt ∧ (σ 28 i).toInt ≤ 720) ∧ (-9 ≤ (σ 32 i).toInt ∧ (σ 32 i).toInt ≤ 720))
/-- the relation within a day: b bounds the days of the herds in the pound; sorts, numbers and days of the reference are in their bounds -/
def RD (b : Int) (k : Nat) (σx σm : St) : Prop := RE σx σm ∧ RG σx σm ∧ RP σx σm ∧ RU σx σm ∧ RO k σx σm ∧ KR σm ∧ KT σm ∧ KP b σm ∧ (∀ h : Nat, (0 ≤ (σm 36 h).toInt ∧ (σm 36 h).toInt < 3) ∧ (0 ≤ (σm 37 h).toInt ∧ (σm 37 h).toInt ≤ 100)) ∧ (0 ≤ (σm 1 0).toInt ∧ (σm 1 0).toInt ≤ 720) ∧ (∀ h : Nat, h < (σm 6 0).toNatClampNeg → ¬ σm 41 h = 0 → σm 38 h < 0)
theorem rd_of {k : Nat} {σx σm : St} (hJ : IR σm) (hJR : JR σm) (h : RelB k σx σm) : RD 30 k σx σm := ⟨h.1, h.2.1, h.2.2.1, h.2.2.2.1, h.2.2.2.2.1, h.2.2.2.2.2.1, ⟨h.2.2.2.2.2.2.1, h.2.2.2.2.2.2.2.1, h.2.2.2.2.2.2.2.2.1, h.2.2.2.2.2.2.2.2.2.2⟩, h.2.2.2.2.2.2.2.2.2.1, fun q => ⟨ir_36 hJ q, ir_37 hJ q⟩, ir_1 hJ, hJR.2.2.2⟩
theorem rd_to {k : Nat} {σx σm : St} (h : RD 30 k σx σm) : RelB k σx σm := ⟨h.1, h.2.1, h.2.2.1, h.2.2.2.1, h.2.2.2.2.1, h.2.2.2.2.2.1, ⟨h.2.2.2.2.2.2.1.1, h.2.2.2.2.2.2.1.2.1, h.2.2.2.2.2.2.1.2.2.1, h.2.2.2.2.2.2.2.1, h.2.2.2.2.2.2.1.2.2.2⟩⟩
set_option maxRecDepth 20000 in
theorem rd_cast {b : Int} {k : Nat} {σx σm τx τm : St} (R : RD b k σx σm) (x : ∀ f : Nat, f ∈ FXl → τx f = σx f) (m : ∀ f : Nat, f ∈ FMl → τm f = σm f) : RD b k τx τm := by
  have x811 := x 811 (by decide)
  have x812 := x 812 (by decide)
  have x813 := x 813 (by decide)
  have x814 := x 814 (by decide)
  have x815 := x 815 (by decide)
  have x816 := x 816 (by decide)
  have x803 := x 803 (by decide)
  have x0 := x 0 (by decide)
  have x1 := x 1 (by decide)
  have x2 := x 2 (by decide)
  have x3 := x 3 (by decide)
  have x5 := x 5 (by decide)
  have x6 := x 6 (by decide)
  have x8 := x 8 (by decide)
  have x200 := x 200 (by decide)
  have x201 := x 201 (by decide)
  have x202 := x 202 (by decide)
  have x203 := x 203 (by decide)
  have x206 := x 206 (by decide)
  have x207 := x 207 (by decide)
  have x400 := x 400 (by decide)
  have x401 := x 401 (by decide)
  have x402 := x 402 (by decide)
  have x404 := x 404 (by decide)
  have x500 := x 500 (by decide)
  have x590 := x 590 (by decide)
  have x818 := x 818 (by decide)
  have x700 := x 700 (by decide)
  have x4 := x 4 (by decide)
  have x7 := x 7 (by decide)
  have x204 := x 204 (by decide)
  have x817 := x 817 (by decide)
  have m2 := m 2 (by decide)
  have m3 := m 3 (by decide)
  have m4 := m 4 (by decide)
  have m5 := m 5 (by decide)
  have m6 := m 6 (by decide)
  have m1 := m 1 (by decide)
  have m21 := m 21 (by decide)
  have m25 := m 25 (by decide)
  have m27 := m 27 (by decide)
  have m28 := m 28 (by decide)
  have m29 := m 29 (by decide)
  have m31 := m 31 (by decide)
  have m26 := m 26 (by decide)
  have m33 := m 33 (by decide)
  have m35 := m 35 (by decide)
  have m36 := m 36 (by decide)
  have m37 := m 37 (by decide)
  have m38 := m 38 (by decide)
  have m41 := m 41 (by decide)
  have m42 := m 42 (by decide)
  have m14 := m 14 (by decide)
  have m15 := m 15 (by decide)
  have m18 := m 18 (by decide)
  have m16 := m 16 (by decide)
  have m19 := m 19 (by decide)
  have m8 := m 8 (by decide)
  have m12 := m 12 (by decide)
  have m22 := m 22 (by decide)
  have m30 := m 30 (by decide)
  have m32 := m 32 (by decide)
  have m39 := m 39 (by decide)
  obtain ⟨h1, h2, h3, h4, h5, h6, h7, h8, h9, h10, h11⟩ := R
  refine ⟨?_, ?_, ?_, ?_, ?_, ?_, ?_, ?_, ?_, ?_, ?_⟩
  · unfold RE at h1 ⊢
    simp only [x811, x812, x813, x814, x815, x816, x803, x0, x1, x2, x3, x5, x6, x8, x200, x201, x202, x203, m2, m3, m4, m5, m6, m1, m21, m25, m27, m28, m29, m31, m26, m33, m35, m36, m37, m38]
    exact h1
  · unfold RG at h2 ⊢
    simp only [x206, x207, x400, x401, x402, x404, x500, x590, x818, x700, m41, m42, m14, m15, m18, m16, m19, m8, m12, m22]
    exact h2
  · unfold RP at h3 ⊢
    simp only [x4, m25, m30]
    exact h3
  · unfold RU at h4 ⊢
    simp only [x7, m33, m32]
    exact h4
  · unfold RO at h5 ⊢
    simp only [x817, x204, m6, m38, m39]
    exact h5
  · unfold KR at h6 ⊢
    simp only [m25, m26, m4, m5, m31, m27, m30, m2, m6, m38]
    exact h6
  · unfold KT at h7 ⊢
    simp only [m6, m41, m42, m5, m33, m31, m28, m29, m32]
    exact h7
  · unfold KP at h8 ⊢
    simp only [m6, m41, m42, m1]
    exact h8
  · simp only [m36, m37]
    exact h9
  · simp only [m1]
    exact h10
  · simp only [m6, m41, m38]
    exact h11
theorem ra_u2 {f g : Nat → Int32} {i : Nat} {x y : Int32} (e : f = g) (h : x = y) : upd f i x = upd g i y := by rw [e, h]
theorem rd_day {k : Nat} {σx σm : St} (R : RD 30 k σx σm) (hd : (σm 1 0).toInt ≤ 719) : RD 31 k (put σx 816 0 (σx 816 0 + 1)) (put σm 1 0 (σm 1 0 + 1)) := by
  obtain ⟨h1, h2, h3, h4, h5, h6, h7, h8, h9, h10, h11⟩ := R
  obtain ⟨e1, e2, e3, e4, e5, e6, e7, e8, e9, e10, e11, e12, e13, e14, e15, e16, e17, e18⟩ := h1
  have o1 : (1 : Int32).toInt = 1 := by decide
  have hv : (σm 1 0 + 1).toInt = (σm 1 0).toInt + 1 := by rw [add_ti (by rw [o1]; omega) (by rw [o1]; omega), o1]
  refine ⟨⟨e1, e2, e3, e4, e5, ra_u2 e6 (by rw [e6]), e7, e8, e9, e10, e11, e12, e13, e14, e15, e16, e17, e18⟩, h2, h3, h4, h5, h6, h7, ?_, h9, ?_, h11⟩
  · intro h hh q
    have := h8 h hh q
    show 0 ≤ (σm 42 h).toInt ∧ (σm 42 h).toInt ≤ (σm 1 0 + 1).toInt ∧ (σm 1 0 + 1).toInt - (σm 42 h).toInt + 1 ≤ 31
    omega
  · show 0 ≤ (σm 1 0 + 1).toInt ∧ (σm 1 0 + 1).toInt ≤ 720
    omega
/-- one herd in the pound, thirty-one days long: it is sold -/
theorem rd_sell1 {k : Nat} {x y : St} {j : Nat} (R : RD 31 k x y) (hj : j < (y 6 0).toNatClampNeg) : RD 31 k (s_X8_sellFromPound_l2 j x) (s_X9_sells_l2 j y) ∧ (s_X9_sells_l2 j y 41 j = 1 → (y 1 0).toInt - (y 42 j).toInt + 1 ≤ 30) ∧ (∀ h : Nat, h ≠ j → s_X9_sells_l2 j y 41 h = y 41 h) ∧ s_X9_sells_l2 j y 6 = y 6 ∧ s_X9_sells_l2 j y 1 = y 1 ∧ s_X9_sells_l2 j y 42 = y 42 := by
  have R0 := R
  obtain ⟨h1, h2, h3, h4, h5, h6, h7, h8, h9, h10, h11⟩ := R
  have E := h1
  obtain ⟨e1, e2, e3, e4, e5, e6, e7, e8, e9, e10, e11, e12, e13, e14, e15, e16, e17, e18⟩ := h1
  obtain ⟨g1, g2, g3, g4, g5, g6, g7, g8, g9, g10⟩ := h2
  have j31 : j < 2 ^ 31 := Nat.lt_trans hj (tn_lt _)
  unfold s_X8_sellFromPound_l2 s_X9_sells_l2
  try dsimp only
  rw [g1]
  by_cases c1 : y 41 j = 1
  · rw [if_pos c1, if_pos c1]
    have hb := h8 j hj c1
    have o1 : (1 : Int32).toInt = 1 := by decide
    have ed : (y 1 0 - y 42 j).toInt = (y 1 0).toInt - (y 42 j).toInt := sub_ti (by omega) (by omega)
    have ev : (y 1 0 - y 42 j + 1).toInt = (y 1 0).toInt - (y 42 j).toInt + 1 := by rw [add_ti (by rw [ed, o1]; omega) (by rw [ed, o1]; omega), ed, o1]
    have hdp : s_X2_daysInPound x j (x 816 0) = y 1 0 - y 42 j + 1 := by
      unfold s_X2_daysInPound
      rw [g1, if_pos c1, g2, e6]
    have o31 : (31 : Int32).toInt = 31 := by decide
    by_cases c2 : (31 : Int32) ≤ y 1 0 - y 42 j + 1
    · have n2 : ¬ s_X2_daysInPound x j (x 816 0) < 31 := by rw [hdp]; exact Int32.not_lt.mpr c2
      rw [if_neg n2, if_pos c2]
      have e31 : y 1 0 - y 42 j + 1 = 31 := by
        rw [Int32.le_iff_toInt_le, o31, ev] at c2
        rw [← Int32.toInt_inj, ev, o31]
        omega
      have hw : s_X2_parts x j = s_X9_partsOfHerd y (nI j) := pp_eq E (h9 j).1 j31
      have hf : s_X2_fee x j (x 816 0) = 31 * y 37 j := by
        unfold s_X2_fee
        rw [hdp, e31, e17]
      rw [hw, hf, e15]
      refine ⟨⟨⟨e1, e2, e3, e4, e5, e6, e7, e8, e9, e10, e11, e12, e13, e14, e15, e16, e17, e18⟩, ?_, h3, h4, h5, h6, ?_, ?_, h9, h10, ?_⟩, ?_, ?_, rfl, rfl, rfl⟩
      · exact ⟨ra_u g1 _ _, g2, g3, g4, g5, g6, ra_u2 g7 (by rw [g7]), ra_u2 g8 (by rw [g8]), g9, g10⟩
      · refine ⟨fun h hh => ?_, h7.2⟩
        replace hh : (y 6 0).toNatClampNeg ≤ h := hh
        show upd (y 41) j 2 h = 0 ∧ y 42 h = 0
        rw [pk_un (show h ≠ j by omega)]
        exact h7.1 h hh
      · intro h hh q
        replace q : upd (y 41) j 2 h = 1 := q
        by_cases hq : h = j
        · subst hq
          rw [pk_us] at q
          exact absurd q (by decide)
        · rw [pk_un hq] at q
          exact h8 h hh q
      · intro h hh q
        replace q : ¬ upd (y 41) j 2 h = 0 := q
        by_cases hq : h = j
        · subst hq
          exact h11 h hh (by rw [c1]; decide)
        · rw [pk_un hq] at q
          exact h11 h hh q
      · intro q
        replace q : upd (y 41) j 2 j = 1 := q
        rw [pk_us] at q
        exact absurd q (by decide)
      · intro h hq
        show upd (y 41) j 2 h = y 41 h
        exact pk_un hq
    · have n2 : s_X2_daysInPound x j (x 816 0) < 31 := by rw [hdp]; exact Int32.not_le.mp c2
      rw [if_pos n2, if_neg c2]
      refine ⟨R0, fun _ => ?_, fun _ _ => rfl, rfl, rfl, rfl⟩
      rw [Int32.le_iff_toInt_le, o31, ev] at c2
      omega
  · rw [if_neg c1, if_neg c1]
    exact ⟨R0, fun q => absurd q c1, fun _ _ => rfl, rfl, rfl, rfl⟩
theorem rd_sell {k : Nat} {σx σm : St} (R : RD 31 k σx σm) : RD 30 k (s_X8_sellFromPound σx) (s_X9_sells σm) := by
  have e5 : σx 815 0 = σm 6 0 := congrFun R.1.2.2.2.2.1 0
  have key := it_sim (L := s_X8_sellFromPound_l2) (M := s_X9_sells_l2) (P := fun j (x y : St) => RD 31 k x y ∧ (∀ h : Nat, h < j → y 41 h = 1 → (y 1 0).toInt - (y 42 h).toInt + 1 ≤ 30) ∧ y 6 = σm 6) (s := σx) (t := σm) ⟨R, fun h hh => absurd hh (Nat.not_lt_zero h), rfl⟩ (σm 6 0).toNatClampNeg (fun j x y hj ih => by
    obtain ⟨ih1, ih2, ih3⟩ := ih
    obtain ⟨a1, a2, a3, a4, a5, a6⟩ := rd_sell1 (j := j) ih1 (by rw [ih3]; exact hj)
    refine ⟨a1, fun h hh q => ?_, a4.trans ih3⟩
    rw [a5, a6]
    by_cases hq : h = j
    · subst hq
      exact a2 q
    · rw [a3 h hq] at q
      exact ih2 h (by omega) q)
  have ex : s_X8_sellFromPound σx = iter s_X8_sellFromPound_l2 (σm 6 0).toNatClampNeg 0 σx := by
    unfold s_X8_sellFromPound s_X8_sellFromPound_c2
    rw [Nat.sub_zero, e5]
  have em : s_X9_sells σm = iter s_X9_sells_l2 (σm 6 0).toNatClampNeg 0 σm := by
    unfold s_X9_sells s_X9_sells_c2
    rw [Nat.sub_zero]
  rw [ex, em]
  obtain ⟨⟨h1, h2, h3, h4, h5, h6, h7, h8, h9⟩, k2, k3⟩ := key
  refine ⟨h1, h2, h3, h4, h5, h6, h7, fun h hh q => ?_, h9⟩
  have a := h8 h hh q
  exact ⟨a.1, a.2.1, k2 h (by rw [k3] at hh; exact hh) q⟩
