def FMf : List Nat := [10, 40, 6, 11, 17, 2]
def RT (σ : St) : Prop := σ 10 0 = Sm (σ 40) (σ 6 0).toNatClampNeg ∧ σ 11 0 = Sm (σ 17) (σ 2 0).toNatClampNeg
theorem rt_cast {σ τ : St} (R : RT σ) (m : ∀ f : Nat, f ∈ FMf → τ f = σ f) : RT τ := by
  unfold RT at R ⊢
  rw [m 10 (by decide), m 40 (by decide), m 6 (by decide), m 11 (by decide), m 17 (by decide), m 2 (by decide)]
  exact R
def Rel (k : Nat) (σx σm : St) : Prop := RelC k σx σm ∧ σx 810 = σm 0 ∧ RT σm
theorem rl_mono {k : Nat} {σx σm : St} (h : Rel k σx σm) : Rel (k + 1) σx σm := ⟨rlC_mono h.1, h.2⟩
theorem rel_0 : Rel 0 sx0 (fun _ _ => 0) := ⟨relC_0, rfl, (sm_0 (fun _ _ => rfl)).symm, (sm_0 (fun _ _ => rfl)).symm⟩
theorem rf_g {τx τm : St} (h : τx 810 = τm 0) {c : Int32} (h1 : ¬ 0 ≤ c) (h2 : ¬ c < -6) : (s_X8_refuse τx c).2 810 = (s_X9_refuse τm c).2 0 := by
  unfold s_X8_refuse s_X9_refuse
  rw [if_neg h1, if_neg h2]
  show upd (τx 810) (-c).toNatClampNeg (τx 810 (-c).toNatClampNeg + 1) = upd (τm 0) (-c).toNatClampNeg (τm 0 (-c).toNatClampNeg + 1)
  rw [h]
set_option maxRecDepth 20000 in
theorem rf_piece {k : Nat} {σx σm : St} (hk : k ≤ 511) (hI : IX σx) (hJ : IR σm) (hJR : JR σm) (hR : Rel k σx σm) (a1 a2 a3 a4 : Int32) (h4 : a4 = 0 ∨ a4 = 1) : (s_X8_piece σx a1 a2 a3 a4).2 810 = (s_X9_piece σm a1 a2 a3 a4).2 0 := by
  obtain ⟨⟨⟨E, G, HP, HU, HO, K, K2⟩, HC⟩, hF, -⟩ := hR
  obtain ⟨c1, c2, c3, c4, c5, c6, c7⟩ := HC
  obtain ⟨e1, e2, e3, e4, e5, e6, e7, e8, e9, e10, e11, e12, e13, e14, e15, e16, e17, e18⟩ := id E
  obtain ⟨g1, g2, g3, g4, g5, g6, g7, g8, g9, g10⟩ := id G
  unfold s_X8_piece s_X9_piece
  have hc : (σm 2 0 < 6) = ¬ (σm 2 0 = 6) := ra_lt (N := 6) (ir_2 hJ) (by decide)
  simp only [hc, ite_not, ra_io, ra_ih, ra_ip, ra_ir, ra_ie, ra_iw, ra_mc, e1, e2, e3, e4, e5, e6, e7, e8, e9, e10, e11, e12, e13, e14, e15, e16, e17, e18, g1, g2, g3, g4, g5, g6, g7, g8, g9, g10]
  by_cases h_1 : a1 < 0
  · simp only [if_pos h_1, ra_10, not_true_eq_false, not_false_eq_true, ↓reduceIte]
    exact rf_g hF (by decide) (by decide)
  · simp only [if_neg h_1, ra_10, not_true_eq_false, not_false_eq_true, ↓reduceIte]
    by_cases h_2 : a3 < 0
    · simp only [if_pos h_2, ra_10, not_true_eq_false, not_false_eq_true, ↓reduceIte]
      exact rf_g hF (by decide) (by decide)
    · simp only [if_neg h_2, ra_10, not_true_eq_false, not_false_eq_true, ↓reduceIte]
      by_cases h_3 : 1 ≤ a2
      case neg => simp only [if_neg h_3, ra_10, not_true_eq_false, not_false_eq_true, ↓reduceIte]; exact rf_g hF (by decide) (by decide)
      case pos =>
        simp only [if_pos h_3, ra_10, not_true_eq_false, not_false_eq_true, ↓reduceIte]
        by_cases h_4 : 100000 < a2
        · simp only [if_pos h_4, ra_10, not_true_eq_false, not_false_eq_true, ↓reduceIte]
          exact rf_g hF (by decide) (by decide)
        · simp only [if_neg h_4, ra_10, not_true_eq_false, not_false_eq_true, ↓reduceIte]
          by_cases h_5 : a2 < a1
          · simp only [if_pos h_5, ra_10, not_true_eq_false, not_false_eq_true, ↓reduceIte]
            exact rf_g hF (by decide) (by decide)
          · simp only [if_neg h_5, ra_10, not_true_eq_false, not_false_eq_true, ↓reduceIte]
            by_cases h_6 : 10000 < a3
            · simp only [if_pos h_6, ra_10, not_true_eq_false, not_false_eq_true, ↓reduceIte]
              exact rf_g hF (by decide) (by decide)
            · simp only [if_neg h_6, ra_10, not_true_eq_false, not_false_eq_true, ↓reduceIte]
              by_cases h_7 : σm 2 0 = 6
              · simp only [if_pos h_7, ra_10, not_true_eq_false, not_false_eq_true, ↓reduceIte]
                exact rf_g hF (by decide) (by decide)
              · simp only [if_neg h_7, ra_10, not_true_eq_false, not_false_eq_true, ↓reduceIte]
                exact hF
set_option maxRecDepth 20000 in
theorem rf_owner {k : Nat} {σx σm : St} (hk : k ≤ 511) (hI : IX σx) (hJ : IR σm) (hJR : JR σm) (hR : Rel k σx σm) (a1 : Int32) : (s_X8_owner σx a1).2 810 = (s_X9_owner σm a1).2 0 := by
  obtain ⟨⟨⟨E, G, HP, HU, HO, K, K2⟩, HC⟩, hF, -⟩ := hR
  obtain ⟨c1, c2, c3, c4, c5, c6, c7⟩ := HC
  obtain ⟨e1, e2, e3, e4, e5, e6, e7, e8, e9, e10, e11, e12, e13, e14, e15, e16, e17, e18⟩ := id E
  obtain ⟨g1, g2, g3, g4, g5, g6, g7, g8, g9, g10⟩ := id G
  unfold s_X8_owner s_X9_owner
  have hc : (σm 3 0 < 10) = ¬ (σm 3 0 = 10) := ra_lt (N := 10) (ir_3 hJ) (by decide)
  simp only [hc, ite_not, ra_io, ra_ih, ra_ip, ra_ir, ra_ie, ra_iw, ra_mc, e1, e2, e3, e4, e5, e6, e7, e8, e9, e10, e11, e12, e13, e14, e15, e16, e17, e18, g1, g2, g3, g4, g5, g6, g7, g8, g9, g10]
  by_cases h_1 : 0 ≤ a1
  case neg => simp only [if_neg h_1, ra_10, not_true_eq_false, not_false_eq_true, ↓reduceIte]; exact rf_g hF (by decide) (by decide)
  case pos =>
    simp only [if_pos h_1, ra_10, not_true_eq_false, not_false_eq_true, ↓reduceIte]
    by_cases h_2 : 100000 < a1
    · simp only [if_pos h_2, ra_10, not_true_eq_false, not_false_eq_true, ↓reduceIte]
      exact rf_g hF (by decide) (by decide)
    · simp only [if_neg h_2, ra_10, not_true_eq_false, not_false_eq_true, ↓reduceIte]
      by_cases h_3 : σm 3 0 = 10
      · simp only [if_pos h_3, ra_10, not_true_eq_false, not_false_eq_true, ↓reduceIte]
        exact rf_g hF (by decide) (by decide)
      · simp only [if_neg h_3, ra_10, not_true_eq_false, not_false_eq_true, ↓reduceIte]
        exact hF
set_option maxRecDepth 20000 in
theorem rf_house {k : Nat} {σx σm : St} (hk : k ≤ 511) (hI : IX σx) (hJ : IR σm) (hJR : JR σm) (hR : Rel k σx σm) (a1 : Int32) : (s_X8_house σx a1).2 810 = (s_X9_house σm a1).2 0 := by
  obtain ⟨⟨⟨E, G, HP, HU, HO, K, K2⟩, HC⟩, hF, -⟩ := hR
  obtain ⟨c1, c2, c3, c4, c5, c6, c7⟩ := HC
  obtain ⟨e1, e2, e3, e4, e5, e6, e7, e8, e9, e10, e11, e12, e13, e14, e15, e16, e17, e18⟩ := id E
  obtain ⟨g1, g2, g3, g4, g5, g6, g7, g8, g9, g10⟩ := id G
  unfold s_X8_house s_X9_house
  have hc : (σm 4 0 < 10) = ¬ (σm 4 0 = 10) := ra_lt (N := 10) (ir_4 hJ) (by decide)
  simp only [hc, ite_not, ra_io, ra_ih, ra_ip, ra_ir, ra_ie, ra_iw, ra_mc, e1, e2, e3, e4, e5, e6, e7, e8, e9, e10, e11, e12, e13, e14, e15, e16, e17, e18, g1, g2, g3, g4, g5, g6, g7, g8, g9, g10]
  by_cases h_1 : s_X9_isIn a1 (σm 3 0) = 0
  · simp only [if_pos h_1, ra_10, not_true_eq_false, not_false_eq_true, ↓reduceIte]
    exact rf_g hF (by decide) (by decide)
  · simp only [if_neg h_1, ra_10, not_true_eq_false, not_false_eq_true, ↓reduceIte]
    by_cases h_2 : σm 4 0 = 10
    · simp only [if_pos h_2, ra_10, not_true_eq_false, not_false_eq_true, ↓reduceIte]
      exact rf_g hF (by decide) (by decide)
    · simp only [if_neg h_2, ra_10, not_true_eq_false, not_false_eq_true, ↓reduceIte]
      exact hF
set_option maxRecDepth 20000 in
theorem rf_rate {k : Nat} {σx σm : St} (hk : k ≤ 511) (hI : IX σx) (hJ : IR σm) (hJR : JR σm) (hR : Rel k σx σm) (a1 a2 a3 : Int32) : (s_X8_rate σx a1 a2 a3).2 810 = (s_X9_rate σm a1 a2 a3).2 0 := by
  obtain ⟨⟨⟨E, G, HP, HU, HO, K, K2⟩, HC⟩, hF, -⟩ := hR
  obtain ⟨c1, c2, c3, c4, c5, c6, c7⟩ := HC
  obtain ⟨e1, e2, e3, e4, e5, e6, e7, e8, e9, e10, e11, e12, e13, e14, e15, e16, e17, e18⟩ := id E
  obtain ⟨g1, g2, g3, g4, g5, g6, g7, g8, g9, g10⟩ := id G
  unfold s_X8_rate s_X9_rate
  unfold s_X7_changeRate
  simp only [ite_not, ra_io, ra_ih, ra_ip, ra_ir, ra_ie, ra_iw, ra_mc, e1, e2, e3, e4, e5, e6, e7, e8, e9, e10, e11, e12, e13, e14, e15, e16, e17, e18, g1, g2, g3, g4, g5, g6, g7, g8, g9, g10]
  by_cases h_1 : s_X9_isIn a1 10 = 0
  · simp only [if_pos h_1, ra_10, not_true_eq_false, not_false_eq_true, ↓reduceIte]
    exact rf_g hF (by decide) (by decide)
  · simp only [if_neg h_1, ra_10, not_true_eq_false, not_false_eq_true, ↓reduceIte]
    by_cases h_2 : s_X9_isIn a2 10 = 0
    · simp only [if_pos h_2, ra_10, not_true_eq_false, not_false_eq_true, ↓reduceIte]
      exact rf_g hF (by decide) (by decide)
    · simp only [if_neg h_2, ra_10, not_true_eq_false, not_false_eq_true, ↓reduceIte]
      by_cases h_3 : 0 ≤ a3
      case neg => simp only [if_neg h_3, ra_10, not_true_eq_false, not_false_eq_true, ↓reduceIte]; exact rf_g hF (by decide) (by decide)
      case pos =>
        simp only [if_pos h_3, ra_10, not_true_eq_false, not_false_eq_true, ↓reduceIte]
        by_cases h_4 : a3 ≤ 1000
        case neg => simp only [if_neg h_4, ra_10, not_true_eq_false, not_false_eq_true, ↓reduceIte]; exact rf_g hF (by decide) (by decide)
        case pos =>
          simp only [if_pos h_4, ra_10, not_true_eq_false, not_false_eq_true, ↓reduceIte]
          exact hF
set_option maxRecDepth 20000 in
theorem rf_weather {k : Nat} {σx σm : St} (hk : k ≤ 511) (hI : IX σx) (hJ : IR σm) (hJR : JR σm) (hR : Rel k σx σm) (a1 a2 a3 : Int32) : (s_X8_weather σx a1 a2 a3).2 810 = (s_X9_weather σm a1 a2 a3).2 0 := by
  obtain ⟨⟨⟨E, G, HP, HU, HO, K, K2⟩, HC⟩, hF, -⟩ := hR
  obtain ⟨c1, c2, c3, c4, c5, c6, c7⟩ := HC
  obtain ⟨e1, e2, e3, e4, e5, e6, e7, e8, e9, e10, e11, e12, e13, e14, e15, e16, e17, e18⟩ := id E
  obtain ⟨g1, g2, g3, g4, g5, g6, g7, g8, g9, g10⟩ := id G
  unfold s_X8_weather s_X9_weather
  unfold s_X7_changeWeather
  simp only [ite_not, ra_io, ra_ih, ra_ip, ra_ir, ra_ie, ra_iw, ra_mc, e1, e2, e3, e4, e5, e6, e7, e8, e9, e10, e11, e12, e13, e14, e15, e16, e17, e18, g1, g2, g3, g4, g5, g6, g7, g8, g9, g10]
  by_cases h_1 : s_X9_isIn a2 10 = 0
  · simp only [if_pos h_1, ra_10, not_true_eq_false, not_false_eq_true, ↓reduceIte]
    exact rf_g hF (by decide) (by decide)
  · simp only [if_neg h_1, ra_10, not_true_eq_false, not_false_eq_true, ↓reduceIte]
    by_cases h_2 : s_X9_isIn a3 10 = 0
    · simp only [if_pos h_2, ra_10, not_true_eq_false, not_false_eq_true, ↓reduceIte]
      exact rf_g hF (by decide) (by decide)
    · simp only [if_neg h_2, ra_10, not_true_eq_false, not_false_eq_true, ↓reduceIte]
      by_cases h_3 : 0 ≤ a1
      case neg => simp only [if_neg h_3, ra_10, not_true_eq_false, not_false_eq_true, ↓reduceIte]; exact rf_g hF (by decide) (by decide)
      case pos =>
        simp only [if_pos h_3, ra_10, not_true_eq_false, not_false_eq_true, ↓reduceIte]
        by_cases h_4 : a1 ≤ 720
        case neg => simp only [if_neg h_4, ra_10, not_true_eq_false, not_false_eq_true, ↓reduceIte]; exact rf_g hF (by decide) (by decide)
        case pos =>
          simp only [if_pos h_4, ra_10, not_true_eq_false, not_false_eq_true, ↓reduceIte]
          simp only [if_neg (Int32.not_lt.mpr h_3), if_neg (Int32.not_lt.mpr h_4)]
          exact hF
set_option maxRecDepth 20000 in
theorem rf_move {k : Nat} {σx σm : St} (hk : k ≤ 511) (hI : IX σx) (hJ : IR σm) (hJR : JR σm) (hR : Rel k σx σm) (a1 a2 : Int32) : (s_X8_move σx a1 a2).2 810 = (s_X9_move σm a1 a2).2 0 := by
  obtain ⟨⟨⟨E, G, HP, HU, HO, K, K2⟩, HC⟩, hF, -⟩ := hR
  obtain ⟨c1, c2, c3, c4, c5, c6, c7⟩ := HC
  obtain ⟨e1, e2, e3, e4, e5, e6, e7, e8, e9, e10, e11, e12, e13, e14, e15, e16, e17, e18⟩ := id E
  obtain ⟨g1, g2, g3, g4, g5, g6, g7, g8, g9, g10⟩ := id G
  unfold s_X8_move s_X9_move
  simp only [ite_not, ra_io, ra_ih, ra_ip, ra_ir, ra_ie, ra_iw, ra_mc, e1, e2, e3, e4, e5, e6, e7, e8, e9, e10, e11, e12, e13, e14, e15, e16, e17, e18, g1, g2, g3, g4, g5, g6, g7, g8, g9, g10]
  by_cases h_1 : s_X9_isIn a1 (σm 4 0) = 0
  · simp only [if_pos h_1, ra_10, not_true_eq_false, not_false_eq_true, ↓reduceIte]
    exact rf_g hF (by decide) (by decide)
  · simp only [if_neg h_1, ra_10, not_true_eq_false, not_false_eq_true, ↓reduceIte]
    by_cases h_2 : s_X9_isIn a2 (σm 3 0) = 0
    · simp only [if_pos h_2, ra_10, not_true_eq_false, not_false_eq_true, ↓reduceIte]
      exact rf_g hF (by decide) (by decide)
    · simp only [if_neg h_2, ra_10, not_true_eq_false, not_false_eq_true, ↓reduceIte]
      by_cases h_3 : σm 21 a1.toNatClampNeg = a2
      · simp only [if_pos h_3, ra_10, not_true_eq_false, not_false_eq_true, ↓reduceIte]
        exact rf_g hF (by decide) (by decide)
      · simp only [if_neg h_3, ra_10, not_true_eq_false, not_false_eq_true, ↓reduceIte]
        exact hF
set_option maxRecDepth 20000 in
theorem rf_rest {k : Nat} {σx σm : St} (hk : k ≤ 511) (hI : IX σx) (hJ : IR σm) (hJR : JR σm) (hR : Rel k σx σm) (a1 a2 : Int32) : (s_X8_rest σx a1 a2).2 810 = (s_X9_rest σm a1 a2).2 0 := by
  obtain ⟨⟨⟨E, G, HP, HU, HO, K, K2⟩, HC⟩, hF, -⟩ := hR
  obtain ⟨c1, c2, c3, c4, c5, c6, c7⟩ := HC
  obtain ⟨e1, e2, e3, e4, e5, e6, e7, e8, e9, e10, e11, e12, e13, e14, e15, e16, e17, e18⟩ := id E
  obtain ⟨g1, g2, g3, g4, g5, g6, g7, g8, g9, g10⟩ := id G
  unfold s_X8_rest s_X9_rest
  simp only [ite_not, ra_io, ra_ih, ra_ip, ra_ir, ra_ie, ra_iw, ra_mc, e1, e2, e3, e4, e5, e6, e7, e8, e9, e10, e11, e12, e13, e14, e15, e16, e17, e18, g1, g2, g3, g4, g5, g6, g7, g8, g9, g10]
  by_cases h_1 : s_X9_isIn a1 (σm 2 0) = 0
  · simp only [if_pos h_1, ra_10, not_true_eq_false, not_false_eq_true, ↓reduceIte]
    exact rf_g hF (by decide) (by decide)
  · simp only [if_neg h_1, ra_10, not_true_eq_false, not_false_eq_true, ↓reduceIte]
    by_cases h_2 : σm 1 0 ≤ a2
    case neg => simp only [if_neg h_2, ra_10, not_true_eq_false, not_false_eq_true, ↓reduceIte]; exact rf_g hF (by decide) (by decide)
    case pos =>
      simp only [if_pos h_2, ra_10, not_true_eq_false, not_false_eq_true, ↓reduceIte]
      by_cases h_3 : a2 ≤ 740
      case neg => simp only [if_neg h_3, ra_10, not_true_eq_false, not_false_eq_true, ↓reduceIte]; exact rf_g hF (by decide) (by decide)
      case pos =>
        simp only [if_pos h_3, ra_10, not_true_eq_false, not_false_eq_true, ↓reduceIte]
        exact hF
set_option maxRecDepth 20000 in
theorem rf_herd {k : Nat} {σx σm : St} (hk : k ≤ 511) (hI : IX σx) (hJ : IR σm) (hJR : JR σm) (hR : Rel k σx σm) (a1 a2 a3 : Int32) : (s_X8_herd σx a1 a2 a3).2 810 = (s_X9_herd σm a1 a2 a3).2 0 := by
  obtain ⟨⟨⟨E, G, HP, HU, HO, K, K2⟩, HC⟩, hF, -⟩ := hR
  obtain ⟨c1, c2, c3, c4, c5, c6, c7⟩ := HC
  obtain ⟨e1, e2, e3, e4, e5, e6, e7, e8, e9, e10, e11, e12, e13, e14, e15, e16, e17, e18⟩ := id E
  obtain ⟨g1, g2, g3, g4, g5, g6, g7, g8, g9, g10⟩ := id G
  unfold s_X8_herd s_X9_herd
  have hc : (σm 6 0 < 20) = ¬ (σm 6 0 = 20) := ra_lt (N := 20) (ir_6 hJ) (by decide)
  simp only [hc, ite_not, ra_io, ra_ih, ra_ip, ra_ir, ra_ie, ra_iw, ra_mc, e1, e2, e3, e4, e5, e6, e7, e8, e9, e10, e11, e12, e13, e14, e15, e16, e17, e18, g1, g2, g3, g4, g5, g6, g7, g8, g9, g10]
  have hi3 : s_X9_isIn a2 3 = if a2 < 0 then 0 else if a2 < 3 then 1 else 0 := by
    unfold s_X9_isIn
    by_cases q1 : a2 < 0
    · rw [if_pos q1, if_pos q1]
    · by_cases q2 : (3 : Int32) ≤ a2
      · rw [if_neg q1, if_neg q1, if_pos q2, if_neg (Int32.not_lt.mpr q2)]
      · rw [if_neg q1, if_neg q1, if_neg q2, if_pos (Int32.not_le.mp q2)]
  have hi4 : ∀ x y : Int32 × St, (if a2 < 0 then x else if a2 < 3 then y else x) = if s_X9_isIn a2 3 = 0 then x else y := by
    intro x y
    rw [hi3]
    by_cases q1 : a2 < 0
    · rw [if_pos q1, if_pos q1, if_pos rfl]
    · by_cases q2 : a2 < 3
      · rw [if_neg q1, if_neg q1, if_pos q2, if_pos q2, if_neg (by decide)]
      · rw [if_neg q1, if_neg q1, if_neg q2, if_neg q2, if_pos rfl]
  simp only [hi4]
  by_cases h_1 : s_X9_isIn a1 (σm 3 0) = 0
  · simp only [if_pos h_1, ra_10, not_true_eq_false, not_false_eq_true, ↓reduceIte]
    exact rf_g hF (by decide) (by decide)
  · simp only [if_neg h_1, ra_10, not_true_eq_false, not_false_eq_true, ↓reduceIte]
    by_cases h_2 : s_X9_isIn a2 3 = 0
    · simp only [if_pos h_2, ra_10, not_true_eq_false, not_false_eq_true, ↓reduceIte]
      exact rf_g hF (by decide) (by decide)
    · simp only [if_neg h_2, ra_10, not_true_eq_false, not_false_eq_true, ↓reduceIte]
      by_cases h_3 : 1 ≤ a3
      case neg => simp only [if_neg h_3, ra_10, not_true_eq_false, not_false_eq_true, ↓reduceIte]; exact rf_g hF (by decide) (by decide)
      case pos =>
        simp only [if_pos h_3, ra_10, not_true_eq_false, not_false_eq_true, ↓reduceIte]
        by_cases h_4 : 100 < a3
        · simp only [if_pos h_4, ra_10, not_true_eq_false, not_false_eq_true, ↓reduceIte]
          exact rf_g hF (by decide) (by decide)
        · simp only [if_neg h_4, ra_10, not_true_eq_false, not_false_eq_true, ↓reduceIte]
          by_cases h_5 : σm 6 0 = 20
          · simp only [if_pos h_5, ra_10, not_true_eq_false, not_false_eq_true, ↓reduceIte]
            exact rf_g hF (by decide) (by decide)
          · simp only [if_neg h_5, ra_10, not_true_eq_false, not_false_eq_true, ↓reduceIte]
            exact hF
set_option maxRecDepth 20000 in
theorem rf_right {k : Nat} {σx σm : St} (hk : k ≤ 511) (hI : IX σx) (hJ : IR σm) (hJR : JR σm) (hR : Rel k σx σm) (a1 a2 a3 a4 a5 : Int32) : (s_X8_right σx a1 a2 a3 a4 a5).2 810 = (s_X9_right σm a1 a2 a3 a4 a5).2 0 := by
  obtain ⟨⟨⟨E, G, HP, HU, HO, K, K2⟩, HC⟩, hF, -⟩ := hR
  obtain ⟨c1, c2, c3, c4, c5, c6, c7⟩ := HC
  obtain ⟨e1, e2, e3, e4, e5, e6, e7, e8, e9, e10, e11, e12, e13, e14, e15, e16, e17, e18⟩ := id E
  obtain ⟨g1, g2, g3, g4, g5, g6, g7, g8, g9, g10⟩ := id G
  have hc : (σm 5 0 < 60) = ¬ (σm 5 0 = 60) := ra_lt (N := 60) (ir_5 hJ) (by decide)
  unfold s_X8_right s_X9_right
  simp only [hc, in_4, ite_not, ra_io, ra_ih, ra_ip, ra_ir, ra_ie, ra_iw, ra_mc, e1, e2, e3, e4, e5, e6, e7, e8, e9, e10, e11, e12, e13, e14, e15, e16, e17, e18, g1, g2, g3, g4, g5, g6, g7, g8, g9, g10]
  by_cases h_1 : a1 < 0
  · simp only [if_pos h_1, ra_10, not_true_eq_false, not_false_eq_true, ↓reduceIte]
    exact rf_g hF (by decide) (by decide)
  · simp only [if_neg h_1, ra_10, not_true_eq_false, not_false_eq_true, ↓reduceIte]
    by_cases h_2 : a1 ≤ 3
    case neg => simp only [if_neg h_2, ra_10, not_true_eq_false, not_false_eq_true, ↓reduceIte]; exact rf_g hF (by decide) (by decide)
    case pos =>
      simp only [if_pos h_2, ra_10, not_true_eq_false, not_false_eq_true, ↓reduceIte]
      by_cases h_3 : a1 = 1
      · simp only [if_pos h_3, ra_10, not_true_eq_false, not_false_eq_true, ↓reduceIte]
        by_cases h_4 : s_X9_isIn a2 (σm 4 0) = 0
        · simp only [if_pos h_4, ra_10, not_true_eq_false, not_false_eq_true, ↓reduceIte]
          exact rf_g hF (by decide) (by decide)
        · simp only [if_neg h_4, ra_10, not_true_eq_false, not_false_eq_true, ↓reduceIte]
          have n3 : ¬ a1 = 3 := fun e => by rw [e] at h_3; exact absurd h_3 (by decide)
          simp only [if_neg n3]
          by_cases h_5 : a3 < 1
          · simp only [if_pos h_5, ra_10, not_true_eq_false, not_false_eq_true, ↓reduceIte]
            exact rf_g hF (by decide) (by decide)
          · simp only [if_neg h_5, ra_10, not_true_eq_false, not_false_eq_true, ↓reduceIte]
            by_cases h_6 : σm 1 0 ≤ a4
            case neg => simp only [if_neg h_6, ra_10, not_true_eq_false, not_false_eq_true, ↓reduceIte]; exact rf_g hF (by decide) (by decide)
            case pos =>
              simp only [if_pos h_6, ra_10, not_true_eq_false, not_false_eq_true, ↓reduceIte]
              by_cases h_7 : 10000 < a3
              · simp only [if_pos h_7, ra_10, not_true_eq_false, not_false_eq_true, ↓reduceIte]
                exact rf_g hF (by decide) (by decide)
              · simp only [if_neg h_7, ra_10, not_true_eq_false, not_false_eq_true, ↓reduceIte]
                by_cases h_8 : 720 < a4
                · simp only [if_pos h_8, ra_10, not_true_eq_false, not_false_eq_true, ↓reduceIte]
                  exact rf_g hF (by decide) (by decide)
                · simp only [if_neg h_8, ra_10, not_true_eq_false, not_false_eq_true, ↓reduceIte]
                  by_cases h_9 : σm 5 0 = 60
                  · simp only [if_pos h_9, ra_10, not_true_eq_false, not_false_eq_true, ↓reduceIte]
                    exact rf_g hF (by decide) (by decide)
                  · simp only [if_neg h_9, ra_10, not_true_eq_false, not_false_eq_true, ↓reduceIte]
                    exact hF
      · simp only [if_neg h_3, ra_10, not_true_eq_false, not_false_eq_true, ↓reduceIte]
        by_cases h_4 : s_X9_isIn a2 (σm 3 0) = 0
        · simp only [if_pos h_4, ra_10, not_true_eq_false, not_false_eq_true, ↓reduceIte]
          exact rf_g hF (by decide) (by decide)
        · simp only [if_neg h_4, ra_10, not_true_eq_false, not_false_eq_true, ↓reduceIte]
          by_cases h_5 : a1 = 3
          · simp only [if_pos h_5, ra_10, not_true_eq_false, not_false_eq_true, ↓reduceIte]
            by_cases h_6 : s_X9_isIn a5 (σm 2 0) = 0
            · simp only [if_pos h_6, ra_10, not_true_eq_false, not_false_eq_true, ↓reduceIte]
              exact rf_g hF (by decide) (by decide)
            · simp only [if_neg h_6, ra_10, not_true_eq_false, not_false_eq_true, ↓reduceIte]
              by_cases h_7 : a3 < 1
              · simp only [if_pos h_7, ra_10, not_true_eq_false, not_false_eq_true, ↓reduceIte]
                exact rf_g hF (by decide) (by decide)
              · simp only [if_neg h_7, ra_10, not_true_eq_false, not_false_eq_true, ↓reduceIte]
                by_cases h_8 : σm 1 0 ≤ a4
                case neg => simp only [if_neg h_8, ra_10, not_true_eq_false, not_false_eq_true, ↓reduceIte]; exact rf_g hF (by decide) (by decide)
                case pos =>
                  simp only [if_pos h_8, ra_10, not_true_eq_false, not_false_eq_true, ↓reduceIte]
                  by_cases h_9 : 10000 < a3
                  · simp only [if_pos h_9, ra_10, not_true_eq_false, not_false_eq_true, ↓reduceIte]
                    exact rf_g hF (by decide) (by decide)
                  · simp only [if_neg h_9, ra_10, not_true_eq_false, not_false_eq_true, ↓reduceIte]
                    by_cases h_10 : 720 < a4
                    · simp only [if_pos h_10, ra_10, not_true_eq_false, not_false_eq_true, ↓reduceIte]
                      exact rf_g hF (by decide) (by decide)
                    · simp only [if_neg h_10, ra_10, not_true_eq_false, not_false_eq_true, ↓reduceIte]
                      by_cases h_11 : σm 5 0 = 60
                      · simp only [if_pos h_11, ra_10, not_true_eq_false, not_false_eq_true, ↓reduceIte]
                        exact rf_g hF (by decide) (by decide)
                      · simp only [if_neg h_11, ra_10, not_true_eq_false, not_false_eq_true, ↓reduceIte]
                        exact hF
          · simp only [if_neg h_5, ra_10, not_true_eq_false, not_false_eq_true, ↓reduceIte]
            by_cases h_6 : a3 < 1
            · simp only [if_pos h_6, ra_10, not_true_eq_false, not_false_eq_true, ↓reduceIte]
              exact rf_g hF (by decide) (by decide)
            · simp only [if_neg h_6, ra_10, not_true_eq_false, not_false_eq_true, ↓reduceIte]
              by_cases h_7 : σm 1 0 ≤ a4
              case neg => simp only [if_neg h_7, ra_10, not_true_eq_false, not_false_eq_true, ↓reduceIte]; exact rf_g hF (by decide) (by decide)
              case pos =>
                simp only [if_pos h_7, ra_10, not_true_eq_false, not_false_eq_true, ↓reduceIte]
                by_cases h_8 : 10000 < a3
                · simp only [if_pos h_8, ra_10, not_true_eq_false, not_false_eq_true, ↓reduceIte]
                  exact rf_g hF (by decide) (by decide)
                · simp only [if_neg h_8, ra_10, not_true_eq_false, not_false_eq_true, ↓reduceIte]
                  by_cases h_9 : 720 < a4
                  · simp only [if_pos h_9, ra_10, not_true_eq_false, not_false_eq_true, ↓reduceIte]
                    exact rf_g hF (by decide) (by decide)
                  · simp only [if_neg h_9, ra_10, not_true_eq_false, not_false_eq_true, ↓reduceIte]
                    by_cases h_10 : σm 5 0 = 60
                    · simp only [if_pos h_10, ra_10, not_true_eq_false, not_false_eq_true, ↓reduceIte]
                      exact rf_g hF (by decide) (by decide)
                    · simp only [if_neg h_10, ra_10, not_true_eq_false, not_false_eq_true, ↓reduceIte]
                      exact hF
set_option maxRecDepth 20000 in
theorem rf_lend {k : Nat} {σx σm : St} (hk : k ≤ 511) (hI : IX σx) (hJ : IR σm) (hJR : JR σm) (hR : Rel k σx σm) (a1 a2 a3 a4 : Int32) : (s_X8_lend σx a1 a2 a3 a4).2 810 = (s_X9_lend σm a1 a2 a3 a4).2 0 := by
  obtain ⟨⟨⟨E, G, HP, HU, HO, K, K2⟩, HC⟩, hF, -⟩ := hR
  obtain ⟨c1, c2, c3, c4, c5, c6, c7⟩ := HC
  obtain ⟨e1, e2, e3, e4, e5, e6, e7, e8, e9, e10, e11, e12, e13, e14, e15, e16, e17, e18⟩ := id E
  obtain ⟨g1, g2, g3, g4, g5, g6, g7, g8, g9, g10⟩ := id G
  have hc : (σm 5 0 < 60) = ¬ (σm 5 0 = 60) := ra_lt (N := 60) (ir_5 hJ) (by decide)
  unfold s_X8_lend s_X9_lend s_X8_canPass
  simp only [hc, ite_not, ra_io, ra_ih, ra_ip, ra_ir, ra_ie, ra_iw, ra_mc, e1, e2, e3, e4, e5, e6, e7, e8, e9, e10, e11, e12, e13, e14, e15, e16, e17, e18, g1, g2, g3, g4, g5, g6, g7, g8, g9, g10]
  by_cases h_1 : s_X9_isIn a1 (σm 5 0) = 0
  · simp only [if_pos h_1, ra_10, not_true_eq_false, not_false_eq_true, ↓reduceIte]
    exact rf_g hF (by decide) (by decide)
  · simp only [if_neg h_1, ra_10, not_true_eq_false, not_false_eq_true, ↓reduceIte]
    obtain ⟨r, hr, rfl⟩ := vp_in_of (in_vp.mpr h_1) (tn_lt _)
    have hr31 : r < 2 ^ 31 := Nat.lt_trans hr (tn_lt _)
    have hfo : s_X0_isInForce σx r (σm 1 0) = s_X9_isInForce σm (nI r) := by rw [← fo_eq E hr31, e6]
    have hho := ho_eq E K hr31
    have hpt := pt_eq E K hr
    simp only [nI_clamp hr31, hfo, hho, hpt]
    by_cases h_2 : s_X9_isIn a2 (σm 3 0) = 0
    · simp only [if_pos h_2, ra_10, not_true_eq_false, not_false_eq_true, ↓reduceIte]
      exact rf_g hF (by decide) (by decide)
    · simp only [if_neg h_2, ra_10, not_true_eq_false, not_false_eq_true, ↓reduceIte]
      by_cases h_3 : s_X9_ownerOfRight σm (nI r) = a2
      · simp only [if_pos h_3, ra_10, not_true_eq_false, not_false_eq_true, ↓reduceIte]
        exact rf_g hF (by decide) (by decide)
      · simp only [if_neg h_3, ra_10, not_true_eq_false, not_false_eq_true, ↓reduceIte]
        by_cases h_4 : σm 25 r = 0
        case neg => simp only [if_neg h_4, ra_10, not_true_eq_false, not_false_eq_true, ↓reduceIte]; exact rf_g hF (by decide) (by decide)
        case pos =>
          simp only [if_pos h_4, ra_10, not_true_eq_false, not_false_eq_true, ↓reduceIte]
          by_cases h_5 : s_X9_isInForce σm (nI r) = 0
          · simp only [if_pos h_5, ra_10, not_true_eq_false, not_false_eq_true, ↓reduceIte]
            exact rf_g hF (by decide) (by decide)
          · simp only [if_neg h_5, ra_10, not_true_eq_false, not_false_eq_true, ↓reduceIte]
            by_cases h_6 : a3 < 1
            · simp only [if_pos h_6, ra_10, not_true_eq_false, not_false_eq_true, ↓reduceIte]
              exact rf_g hF (by decide) (by decide)
            · simp only [if_neg h_6, ra_10, not_true_eq_false, not_false_eq_true, ↓reduceIte]
              by_cases h_7 : σm 1 0 ≤ a4
              case neg => simp only [if_neg h_7, ra_10, not_true_eq_false, not_false_eq_true, ↓reduceIte]; exact rf_g hF (by decide) (by decide)
              case pos =>
                simp only [if_pos h_7, ra_10, not_true_eq_false, not_false_eq_true, ↓reduceIte]
                by_cases h_8 : a3 ≤ s_X9_partsOf σm (nI r)
                case neg => simp only [if_neg h_8, ra_10, not_true_eq_false, not_false_eq_true, ↓reduceIte]; exact rf_g hF (by decide) (by decide)
                case pos =>
                  simp only [if_pos h_8, ra_10, not_true_eq_false, not_false_eq_true, ↓reduceIte]
                  by_cases h_9 : σm 29 r < a4
                  · simp only [if_pos h_9, ra_10, not_true_eq_false, not_false_eq_true, ↓reduceIte]
                    exact rf_g hF (by decide) (by decide)
                  · simp only [if_neg h_9, ra_10, not_true_eq_false, not_false_eq_true, ↓reduceIte]
                    by_cases h_10 : σm 5 0 = 60
                    · simp only [if_pos h_10, ra_10, not_true_eq_false, not_false_eq_true, ↓reduceIte]
                      exact rf_g hF (by decide) (by decide)
                    · simp only [if_neg h_10, ra_10, not_true_eq_false, not_false_eq_true, ↓reduceIte]
                      exact hF
set_option maxRecDepth 20000 in
theorem rf_sell {k : Nat} {σx σm : St} (hk : k ≤ 511) (hI : IX σx) (hJ : IR σm) (hJR : JR σm) (hR : Rel k σx σm) (a1 a2 : Int32) : (s_X8_sell σx a1 a2).2 810 = (s_X9_sell σm a1 a2).2 0 := by
  obtain ⟨⟨⟨E, G, HP, HU, HO, K, K2⟩, HC⟩, hF, -⟩ := hR
  obtain ⟨c1, c2, c3, c4, c5, c6, c7⟩ := HC
  obtain ⟨e1, e2, e3, e4, e5, e6, e7, e8, e9, e10, e11, e12, e13, e14, e15, e16, e17, e18⟩ := id E
  obtain ⟨g1, g2, g3, g4, g5, g6, g7, g8, g9, g10⟩ := id G
  have hc : (σm 5 0 < 60) = ¬ (σm 5 0 = 60) := ra_lt (N := 60) (ir_5 hJ) (by decide)
  unfold s_X8_sell s_X9_sell s_X8_canPass
  simp only [hc, ite_not, ra_io, ra_ih, ra_ip, ra_ir, ra_ie, ra_iw, ra_mc, e1, e2, e3, e4, e5, e6, e7, e8, e9, e10, e11, e12, e13, e14, e15, e16, e17, e18, g1, g2, g3, g4, g5, g6, g7, g8, g9, g10]
  by_cases h_1 : s_X9_isIn a1 (σm 5 0) = 0
  · simp only [if_pos h_1, ra_10, not_true_eq_false, not_false_eq_true, ↓reduceIte]
    exact rf_g hF (by decide) (by decide)
  · simp only [if_neg h_1, ra_10, not_true_eq_false, not_false_eq_true, ↓reduceIte]
    obtain ⟨r, hr, rfl⟩ := vp_in_of (in_vp.mpr h_1) (tn_lt _)
    have hr31 : r < 2 ^ 31 := Nat.lt_trans hr (tn_lt _)
    have hfo : s_X0_isInForce σx r (σm 1 0) = s_X9_isInForce σm (nI r) := by rw [← fo_eq E hr31, e6]
    have hho := ho_eq E K hr31
    have hpt := pt_eq E K hr
    simp only [nI_clamp hr31, hfo, hho, hpt]
    by_cases h_2 : s_X9_isIn a2 (σm 3 0) = 0
    · simp only [if_pos h_2, ra_10, not_true_eq_false, not_false_eq_true, ↓reduceIte]
      exact rf_g hF (by decide) (by decide)
    · simp only [if_neg h_2, ra_10, not_true_eq_false, not_false_eq_true, ↓reduceIte]
      by_cases h_3 : s_X9_ownerOfRight σm (nI r) = a2
      · simp only [if_pos h_3, ra_10, not_true_eq_false, not_false_eq_true, ↓reduceIte]
        exact rf_g hF (by decide) (by decide)
      · simp only [if_neg h_3, ra_10, not_true_eq_false, not_false_eq_true, ↓reduceIte]
        by_cases h_4 : σm 25 r = 0
        case neg => simp only [if_neg h_4, ra_10, not_true_eq_false, not_false_eq_true, ↓reduceIte]; exact rf_g hF (by decide) (by decide)
        case pos =>
          simp only [if_pos h_4, ra_10, not_true_eq_false, not_false_eq_true, ↓reduceIte]
          by_cases h_5 : s_X9_isInForce σm (nI r) = 0
          · simp only [if_pos h_5, ra_10, not_true_eq_false, not_false_eq_true, ↓reduceIte]
            exact rf_g hF (by decide) (by decide)
          · simp only [if_neg h_5, ra_10, not_true_eq_false, not_false_eq_true, ↓reduceIte]
            exact hF
set_option maxRecDepth 20000 in
theorem rf_put {k : Nat} {σx σm : St} (hk : k ≤ 511) (hI : IX σx) (hJ : IR σm) (hJR : JR σm) (hR : Rel k σx σm) (a1 a2 : Int32) : (s_X8_put σx a1 a2).2 810 = (s_X9_put σm a1 a2).2 0 := by
  obtain ⟨⟨⟨E, G, HP, HU, HO, K, K2⟩, HC⟩, hF, -⟩ := hR
  obtain ⟨c1, c2, c3, c4, c5, c6, c7⟩ := HC
  obtain ⟨e1, e2, e3, e4, e5, e6, e7, e8, e9, e10, e11, e12, e13, e14, e15, e16, e17, e18⟩ := id E
  obtain ⟨g1, g2, g3, g4, g5, g6, g7, g8, g9, g10⟩ := id G
  unfold s_X8_put s_X9_put
  simp only [ite_not, ra_io, ra_ih, ra_ip, ra_ir, ra_ie, ra_iw, ra_mc, e1, e2, e3, e4, e5, e6, e7, e8, e9, e10, e11, e12, e13, e14, e15, e16, e17, e18, g1, g2, g3, g4, g5, g6, g7, g8, g9, g10]
  by_cases h_1 : s_X9_isIn a1 (σm 6 0) = 0
  · simp only [if_pos h_1, ra_10, not_true_eq_false, not_false_eq_true, ↓reduceIte]
    exact rf_g hF (by decide) (by decide)
  · simp only [if_neg h_1, ra_10, not_true_eq_false, not_false_eq_true, ↓reduceIte]
    by_cases h_2 : s_X9_isIn a2 (σm 2 0) = 0
    · simp only [if_pos h_2, ra_10, not_true_eq_false, not_false_eq_true, ↓reduceIte]
      exact rf_g hF (by decide) (by decide)
    · simp only [if_neg h_2, ra_10, not_true_eq_false, not_false_eq_true, ↓reduceIte]
      obtain ⟨h, hh, rfl⟩ := vp_in_of (in_vp.mpr h_1) (tn_lt _)
      have h31 : h < 2 ^ 31 := Nat.lt_trans hh (tn_lt _)
      have n38 := neg1 (K.2.2.2.2 h hh)
      simp only [nI_clamp h31]
      obtain ⟨p, hp, rfl⟩ := vp_in_of (in_vp.mpr h_2) (tn_lt _)
      have p31 : p < 2 ^ 31 := Nat.lt_trans hp (tn_lt _)
      have hrs := rst_eq g6 p31
      simp only [nI_clamp p31, hrs]
      simp only [n38.2, ite_not]
      by_cases h_3 : σm 41 h = 0
      case neg => simp only [if_neg h_3, ra_10, not_true_eq_false, not_false_eq_true, ↓reduceIte]; exact rf_g hF (by decide) (by decide)
      case pos =>
        simp only [if_pos h_3, ra_10, not_true_eq_false, not_false_eq_true, ↓reduceIte]
        by_cases h_4 : σm 38 h = -1
        case neg => simp only [if_neg h_4, ra_10, not_true_eq_false, not_false_eq_true, ↓reduceIte]; exact rf_g hF (by decide) (by decide)
        case pos =>
          simp only [if_pos h_4, ra_10, not_true_eq_false, not_false_eq_true, ↓reduceIte]
          by_cases h_5 : s_X9_rests σm (nI p) = 0
          case neg => simp only [if_neg h_5, ra_10, not_true_eq_false, not_false_eq_true, ↓reduceIte]; exact rf_g hF (by decide) (by decide)
          case pos =>
            simp only [if_pos h_5, ra_10, not_true_eq_false, not_false_eq_true, ↓reduceIte]
            have hE : RE (put σx 203 h (nI p)) (put σm 38 h (nI p)) := ⟨e1, e2, e3, e4, e5, e6, e7, e8, e9, e10, e11, e12, e13, e14, e15, e16, e17, ra_u e18 _ _⟩
            have hKK : KR (put σm 38 h (nI p)) := by
              refine ⟨K.1, K.2.1, K.2.2.1, K.2.2.2.1, fun j hj => ?_⟩
              show upd (σm 38) h (nI p) j = -1 ∨ vp_in (upd (σm 38) h (nI p) j) _
              by_cases hq : j = h
              · subst hq
                rw [pk_us]
                refine Or.inr ?_
                show vp_in (nI p) (σm 2 0).toNatClampNeg
                rw [vp_in_iff, nI_toInt p31]
                omega
              · rw [pk_un hq]
                exact K.2.2.2.2 j hj
            have hj4 : ∀ j : Nat, j < (put σm 38 h (nI p) 6 0).toNatClampNeg → ¬ put σm 38 h (nI p) 41 j = 0 → put σm 38 h (nI p) 38 j < 0 := by
              intro j hj hc
              replace hc : ¬ σm 41 j = 0 := hc
              have hq : j ≠ h := fun e => hc (by rw [e]; exact h_3)
              show upd (σm 38) h (nI p) j < 0
              rw [pk_un hq]
              exact hJR.2.2.2 j hj hc
            have hlk : (s_X8_lackOf (put σx 203 h (nI p)) (σm 35 h)).1 = s_X9_lacksOf (put σm 38 h (nI p)) (σm 35 h) := lk_eq hE hKK HP hJ hj4 (σm 35 h)
            have hL := cov_x (put σx 203 h (nI p)) (σm 35 h)
            rw [hlk]
            obtain ⟨L, hLd⟩ : ∃ L, (s_X8_lackOf (put σx 203 h (nI p)) (σm 35 h)).2 = L := ⟨_, rfl⟩
            rw [hLd] at hL ⊢
            have h810 : L 810 = σm 0 := (hL 810 (by decide) (by decide) (by decide) (by decide) (by decide)).trans hF
            by_cases hl : s_X9_lacksOf (put σm 38 h (nI p)) (σm 35 h) ≤ 0
            · simp only [if_pos hl]
              exact h810
            · simp only [if_neg hl]
              exact rf_g (show put L 203 h (-1) 810 = put (put σm 38 h (nI p)) 38 h (-1) 0 from h810) (by decide) (by decide)
set_option maxRecDepth 20000 in
theorem rf_drive {k : Nat} {σx σm : St} (hk : k ≤ 511) (hI : IX σx) (hJ : IR σm) (hJR : JR σm) (hR : Rel k σx σm) (a1 a2 : Int32) : (s_X8_drive σx a1 a2).2 810 = (s_X9_drive σm a1 a2).2 0 := by
  obtain ⟨⟨⟨E, G, HP, HU, HO, K, K2⟩, HC⟩, hF, -⟩ := hR
  obtain ⟨c1, c2, c3, c4, c5, c6, c7⟩ := HC
  obtain ⟨e1, e2, e3, e4, e5, e6, e7, e8, e9, e10, e11, e12, e13, e14, e15, e16, e17, e18⟩ := id E
  obtain ⟨g1, g2, g3, g4, g5, g6, g7, g8, g9, g10⟩ := id G
  unfold s_X8_drive s_X9_drive
  simp only [ite_not, ra_io, ra_ih, ra_ip, ra_ir, ra_ie, ra_iw, ra_mc, e1, e2, e3, e4, e5, e6, e7, e8, e9, e10, e11, e12, e13, e14, e15, e16, e17, e18, g1, g2, g3, g4, g5, g6, g7, g8, g9, g10]
  by_cases h_1 : s_X9_isIn a1 (σm 6 0) = 0
  · simp only [if_pos h_1, ra_10, not_true_eq_false, not_false_eq_true, ↓reduceIte]
    exact rf_g hF (by decide) (by decide)
  · simp only [if_neg h_1, ra_10, not_true_eq_false, not_false_eq_true, ↓reduceIte]
    obtain ⟨h, hh, rfl⟩ := vp_in_of (in_vp.mpr h_1) (tn_lt _)
    have h31 : h < 2 ^ 31 := Nat.lt_trans hh (tn_lt _)
    have n38 := neg1 (K.2.2.2.2 h hh)
    simp only [nI_clamp h31]
    have z41 : ¬ σm 38 h = -1 → σm 41 h = 0 ∧ ¬ σm 38 h < 0 := fun hc => by
      have q := fun e => hc (n38.1.mpr e)
      exact ⟨Decidable.byContradiction (fun h0 => q (hJR.2.2.2 h hh h0)), q⟩
    by_cases h_2 : a2 = -1
    · simp only [if_pos h_2, ra_10, not_true_eq_false, not_false_eq_true, ↓reduceIte]
      by_cases h38 : σm 38 h = -1
      · have hlt := n38.1.mp h38
        simp only [if_pos h38, if_pos hlt, ite_self]
        exact rf_g hF (by decide) (by decide)
      · obtain ⟨z1, z2⟩ := z41 h38
        have hne : ¬ σm 38 h = a2 := fun e => h38 (e.trans h_2)
        have hlt : a2 < 0 := by rw [h_2]; decide
        simp only [if_neg h38, if_neg hne, if_pos z1, if_neg z2, if_pos hlt]
        exact hF
    · simp only [if_neg h_2, ra_10, not_true_eq_false, not_false_eq_true, ↓reduceIte]
      by_cases h_3 : s_X9_isIn a2 (σm 2 0) = 0
      · simp only [if_pos h_3, ra_10, not_true_eq_false, not_false_eq_true, ↓reduceIte]
        exact rf_g hF (by decide) (by decide)
      · simp only [if_neg h_3, ra_10, not_true_eq_false, not_false_eq_true, ↓reduceIte]
        obtain ⟨p, hp, rfl⟩ := vp_in_of (in_vp.mpr h_3) (tn_lt _)
        have p31 : p < 2 ^ 31 := Nat.lt_trans hp (tn_lt _)
        have hrs := rst_eq g6 p31
        simp only [nI_clamp p31, hrs]
        by_cases h38 : σm 38 h = -1
        · have hlt := n38.1.mp h38
          simp only [if_pos h38, if_pos hlt, ite_self]
          exact rf_g hF (by decide) (by decide)
        · obtain ⟨z1, z2⟩ := z41 h38
          simp only [if_neg h38, if_pos z1, if_neg z2, if_neg (nI_n0 p31)]
          by_cases hsm : σm 38 h = nI p
          · simp only [if_pos hsm, ite_self]
            exact rf_g hF (by decide) (by decide)
          · simp only [if_neg hsm]
            by_cases hrt : s_X9_rests σm (nI p) = 0
            · simp only [if_pos hrt]
              exact hF
            · simp only [if_neg hrt]
              exact rf_g hF (by decide) (by decide)
set_option maxRecDepth 20000 in
theorem rf_pound {k : Nat} {σx σm : St} (hk : k ≤ 511) (hI : IX σx) (hJ : IR σm) (hJR : JR σm) (hR : Rel k σx σm) (a1 : Int32) : (s_X8_pound σx a1).2 810 = (s_X9_pound σm a1).2 0 := by
  obtain ⟨⟨⟨E, G, HP, HU, HO, K, K2⟩, HC⟩, hF, -⟩ := hR
  obtain ⟨c1, c2, c3, c4, c5, c6, c7⟩ := HC
  obtain ⟨e1, e2, e3, e4, e5, e6, e7, e8, e9, e10, e11, e12, e13, e14, e15, e16, e17, e18⟩ := id E
  obtain ⟨g1, g2, g3, g4, g5, g6, g7, g8, g9, g10⟩ := id G
  unfold s_X8_pound s_X9_pound
  simp only [ite_not, ra_io, ra_ih, ra_ip, ra_ir, ra_ie, ra_iw, ra_mc, e1, e2, e3, e4, e5, e6, e7, e8, e9, e10, e11, e12, e13, e14, e15, e16, e17, e18, g1, g2, g3, g4, g5, g6, g7, g8, g9, g10]
  by_cases h_1 : s_X9_isIn a1 (σm 6 0) = 0
  · simp only [if_pos h_1, ra_10, not_true_eq_false, not_false_eq_true, ↓reduceIte]
    exact rf_g hF (by decide) (by decide)
  · simp only [if_neg h_1, ra_10, not_true_eq_false, not_false_eq_true, ↓reduceIte]
    obtain ⟨h, hh, rfl⟩ := vp_in_of (in_vp.mpr h_1) (tn_lt _)
    have h31 : h < 2 ^ 31 := Nat.lt_trans hh (tn_lt _)
    have n38 := neg1 (K.2.2.2.2 h hh)
    simp only [nI_clamp h31]
    have hio : (s_X9_isOut σm (nI h) = 0) = (σm 38 h = -1) := by
      unfold s_X9_isOut
      rw [nI_clamp h31]
      by_cases h38 : σm 38 h = -1
      · have hlt := n38.1.mp h38
        rw [if_pos hlt, ite_self]
        exact propext ⟨fun _ => h38, fun _ => rfl⟩
      · have q := fun e => h38 (n38.1.mpr e)
        have z1 : σm 41 h = 0 := Decidable.byContradiction (fun h0 => q (hJR.2.2.2 h hh h0))
        simp only [if_pos z1, if_neg q, h38, ra_10]
    simp only [hio]
    by_cases h_2 : σm 38 h = -1
    · simp only [if_pos h_2, ra_10, not_true_eq_false, not_false_eq_true, ↓reduceIte]
      exact rf_g hF (by decide) (by decide)
    · simp only [if_neg h_2, ra_10, not_true_eq_false, not_false_eq_true, ↓reduceIte]
      have hlk : (s_X8_lackOf σx (σm 35 h)).1 = s_X9_lacksOf σm (σm 35 h) := lk_eq E K HP hJ hJR.2.2.2 (σm 35 h)
      have hL := cov_x σx (σm 35 h)
      rw [hlk]
      obtain ⟨L, hLd⟩ : ∃ L, (s_X8_lackOf σx (σm 35 h)).2 = L := ⟨_, rfl⟩
      rw [hLd] at hL ⊢
      have h810 : L 810 = σm 0 := (hL 810 (by decide) (by decide) (by decide) (by decide) (by decide)).trans hF
      by_cases hl : s_X9_lacksOf σm (σm 35 h) = 0
      · simp only [if_pos hl]
        exact rf_g h810 (by decide) (by decide)
      · simp only [if_neg hl]
        exact h810
set_option maxRecDepth 20000 in
theorem rf_free {k : Nat} {σx σm : St} (hk : k ≤ 511) (hI : IX σx) (hJ : IR σm) (hJR : JR σm) (hR : Rel k σx σm) (a1 : Int32) : (s_X8_free σx a1).2 810 = (s_X9_free σm a1).2 0 := by
  obtain ⟨⟨⟨E, G, HP, HU, HO, K, K2⟩, HC⟩, hF, -⟩ := hR
  obtain ⟨c1, c2, c3, c4, c5, c6, c7⟩ := HC
  obtain ⟨e1, e2, e3, e4, e5, e6, e7, e8, e9, e10, e11, e12, e13, e14, e15, e16, e17, e18⟩ := id E
  obtain ⟨g1, g2, g3, g4, g5, g6, g7, g8, g9, g10⟩ := id G
  unfold s_X8_free s_X9_free
  simp only [ite_not, ra_io, ra_ih, ra_ip, ra_ir, ra_ie, ra_iw, ra_mc, e1, e2, e3, e4, e5, e6, e7, e8, e9, e10, e11, e12, e13, e14, e15, e16, e17, e18, g1, g2, g3, g4, g5, g6, g7, g8, g9, g10]
  by_cases h_1 : s_X9_isIn a1 (σm 6 0) = 0
  · simp only [if_pos h_1, ra_10, not_true_eq_false, not_false_eq_true, ↓reduceIte]
    exact rf_g hF (by decide) (by decide)
  · simp only [if_neg h_1, ra_10, not_true_eq_false, not_false_eq_true, ↓reduceIte]
    obtain ⟨h, hh, rfl⟩ := vp_in_of (in_vp.mpr h_1) (tn_lt _)
    have h31 : h < 2 ^ 31 := Nat.lt_trans hh (tn_lt _)
    have n38 := neg1 (K.2.2.2.2 h hh)
    simp only [nI_clamp h31]
    by_cases h_2 : σm 41 h = 1
    case neg => simp only [if_neg h_2, ra_10, not_true_eq_false, not_false_eq_true, ↓reduceIte]; exact rf_g hF (by decide) (by decide)
    case pos =>
      simp only [if_pos h_2, ra_10, not_true_eq_false, not_false_eq_true, ↓reduceIte]
      have hfe : s_X2_fee σx h (σm 1 0) = s_X9_feeOf σm (nI h) := by
        unfold s_X2_fee s_X2_daysInPound s_X9_feeOf
        rw [nI_clamp h31, g1, g2, e17, if_pos h_2, if_pos h_2]
      simp only [hfe]
      by_cases h_3 : s_X9_feeOf σm (nI h) ≤ σm 19 (σm 35 h).toNatClampNeg
      case neg => simp only [if_neg h_3, ra_10, not_true_eq_false, not_false_eq_true, ↓reduceIte]; exact rf_g hF (by decide) (by decide)
      case pos =>
        simp only [if_pos h_3, ra_10, not_true_eq_false, not_false_eq_true, ↓reduceIte]
        exact hF
set_option maxRecDepth 20000 in
theorem rf_covered {k : Nat} {σx σm : St} (hk : k ≤ 511) (hI : IX σx) (hJ : IR σm) (hJR : JR σm) (hR : Rel k σx σm) (a1 : Int32) : (s_X8_covered σx a1).2 810 = (s_X9_covered σm a1).2 0 := by
  obtain ⟨⟨⟨E, G, HP, HU, HO, K, K2⟩, HC⟩, hF, -⟩ := hR
  obtain ⟨c1, c2, c3, c4, c5, c6, c7⟩ := HC
  obtain ⟨e1, e2, e3, e4, e5, e6, e7, e8, e9, e10, e11, e12, e13, e14, e15, e16, e17, e18⟩ := id E
  obtain ⟨g1, g2, g3, g4, g5, g6, g7, g8, g9, g10⟩ := id G
  have hL := cov_x σx a1
  have h810 : (s_X8_lackOf σx a1).2 810 = σm 0 := (hL 810 (by decide) (by decide) (by decide) (by decide) (by decide)).trans hF
  unfold s_X8_covered s_X9_covered
  rw [ra_io, e2]
  by_cases h1 : s_X9_isIn a1 (σm 3 0) = 0
  · rw [if_pos h1, if_pos h1]
    exact rf_g (c := -1) hF (by decide) (by decide)
  · rw [if_neg h1, if_neg h1]
    (repeat' split) <;> exact h810
set_option maxRecDepth 20000 in
theorem rf_lacks {k : Nat} {σx σm : St} (hk : k ≤ 511) (hI : IX σx) (hJ : IR σm) (hJR : JR σm) (hR : Rel k σx σm) (a1 : Int32) : (s_X8_lacks σx a1).2 810 = (s_X9_lacks σm a1).2 0 := by
  obtain ⟨⟨⟨E, G, HP, HU, HO, K, K2⟩, HC⟩, hF, -⟩ := hR
  obtain ⟨c1, c2, c3, c4, c5, c6, c7⟩ := HC
  obtain ⟨e1, e2, e3, e4, e5, e6, e7, e8, e9, e10, e11, e12, e13, e14, e15, e16, e17, e18⟩ := id E
  obtain ⟨g1, g2, g3, g4, g5, g6, g7, g8, g9, g10⟩ := id G
  have hL := cov_x σx a1
  have h810 : (s_X8_lackOf σx a1).2 810 = σm 0 := (hL 810 (by decide) (by decide) (by decide) (by decide) (by decide)).trans hF
  unfold s_X8_lacks s_X9_lacks
  rw [ra_io, e2]
  by_cases h1 : s_X9_isIn a1 (σm 3 0) = 0
  · rw [if_pos h1, if_pos h1]
    exact rf_g (c := -1) hF (by decide) (by decide)
  · rw [if_neg h1, if_neg h1]
    exact h810
set_option maxRecDepth 20000 in
theorem rf_over {k : Nat} {σx σm : St} (hk : k ≤ 511) (hI : IX σx) (hJ : IR σm) (hJR : JR σm) (hR : Rel k σx σm) (a1 a2 : Int32) : (s_X8_over σx a1 a2).2 810 = (s_X9_over σm a1 a2).2 0 := by
  obtain ⟨⟨⟨E, G, HP, HU, HO, K, K2⟩, HC⟩, hF, -⟩ := hR
  obtain ⟨c1, c2, c3, c4, c5, c6, c7⟩ := HC
  obtain ⟨e1, e2, e3, e4, e5, e6, e7, e8, e9, e10, e11, e12, e13, e14, e15, e16, e17, e18⟩ := id E
  obtain ⟨g1, g2, g3, g4, g5, g6, g7, g8, g9, g10⟩ := id G
  unfold s_X8_over s_X9_over
  rw [ra_ip, e1]
  by_cases h1 : s_X9_isIn a1 (σm 2 0) = 0
  · rw [if_pos h1, if_pos h1]
    exact rf_g (c := -1) hF (by decide) (by decide)
  · rw [if_neg h1, if_neg h1]
    have ex : ∀ s, (s_X8_over_c36 σx a1 a2 s).2 = σx := fun s => by
      obtain ⟨p, q⟩ := s
      unfold s_X8_over_c36
      try dsimp only
      (repeat' split) <;> rfl
    have hm : ∀ (n j : Nat) (s : Int32 × Int32 × Int32), (s_X9_over_c32r σm (iterR (s_X9_over_l32 σm a1 a2) n j s)).2 = σm := fun n => by
      induction n with
      | zero => intro j s; obtain ⟨p, q, r⟩ := s; rfl
      | succ n ih =>
        intro j s
        obtain ⟨p, q, r⟩ := s
        show (s_X9_over_c32r σm (iterR1 (s_X9_over_l32 σm a1 a2) n j (s_X9_over_l32 σm a1 a2 j (p, q, r)))).2 = σm
        unfold s_X9_over_l32 s_X9_over_c48
        try dsimp only
        by_cases d1 : r ≤ σm 15 a1.toNatClampNeg
        · rw [if_pos d1]
          rfl
        · rw [if_neg d1]
          by_cases d2 : p = a2
          · rw [if_pos d2]
            rfl
          · rw [if_neg d2]
            exact ih (j + 1) _
    rw [ex, hm]
    exact hF
set_option maxRecDepth 20000 in
theorem rf_pieceOf {k : Nat} {σx σm : St} (hk : k ≤ 511) (hI : IX σx) (hJ : IR σm) (hJR : JR σm) (hR : Rel k σx σm) (a1 a2 : Int32) : (s_X8_pieceOf σx a1 a2).2 810 = (s_X9_pieceOf σm a1 a2).2 0 := by
  obtain ⟨⟨⟨E, G, HP, HU, HO, K, K2⟩, HC⟩, hF, -⟩ := hR
  obtain ⟨c1, c2, c3, c4, c5, c6, c7⟩ := HC
  obtain ⟨e1, e2, e3, e4, e5, e6, e7, e8, e9, e10, e11, e12, e13, e14, e15, e16, e17, e18⟩ := id E
  obtain ⟨g1, g2, g3, g4, g5, g6, g7, g8, g9, g10⟩ := id G
  unfold s_X8_pieceOf s_X9_pieceOf
  rw [ra_ip, e1]
  by_cases h1 : s_X9_isIn a1 (σm 2 0) = 0
  · rw [if_pos h1, if_pos h1]
    exact rf_g (c := -1) hF (by decide) (by decide)
  rw [if_neg h1, if_neg h1]
  by_cases q0 : a2 = 0
  · simp only [q0, ↓reduceIte, if_pos]
    first | exact hF | ((repeat' split) <;> exact hF)
  simp only [if_neg q0]
  by_cases q1 : a2 = 1
  · simp only [q1, ↓reduceIte, if_pos]
    first | exact hF | ((repeat' split) <;> exact hF)
  simp only [if_neg q1]
  by_cases q2 : a2 = 2
  · simp only [q2, ↓reduceIte, if_pos]
    first | exact hF | ((repeat' split) <;> exact hF)
  simp only [if_neg q2]
  by_cases q3 : a2 = 3
  · simp only [q3, ↓reduceIte, if_pos]
    first | exact hF | ((repeat' split) <;> exact hF)
  simp only [if_neg q3]
  by_cases q4 : a2 = 4
  · simp only [q4, ↓reduceIte, if_pos]
    first | exact hF | ((repeat' split) <;> exact hF)
  simp only [if_neg q4]
  by_cases q5 : a2 = 5
  · simp only [q5, ↓reduceIte, if_pos]
    first | exact hF | ((repeat' split) <;> exact hF)
  simp only [if_neg q5]
  by_cases q6 : a2 = 6
  · simp only [q6, ↓reduceIte, if_pos]
    first | exact hF | ((repeat' split) <;> exact hF)
  simp only [if_neg q6]
  exact rf_g (c := -2) hF (by decide) (by decide)
set_option maxRecDepth 20000 in
theorem rf_rightOf {k : Nat} {σx σm : St} (hk : k ≤ 511) (hI : IX σx) (hJ : IR σm) (hJR : JR σm) (hR : Rel k σx σm) (a1 a2 : Int32) : (s_X8_rightOf σx a1 a2).2 810 = (s_X9_rightOf σm a1 a2).2 0 := by
  obtain ⟨⟨⟨E, G, HP, HU, HO, K, K2⟩, HC⟩, hF, -⟩ := hR
  obtain ⟨c1, c2, c3, c4, c5, c6, c7⟩ := HC
  obtain ⟨e1, e2, e3, e4, e5, e6, e7, e8, e9, e10, e11, e12, e13, e14, e15, e16, e17, e18⟩ := id E
  obtain ⟨g1, g2, g3, g4, g5, g6, g7, g8, g9, g10⟩ := id G
  unfold s_X8_rightOf s_X9_rightOf
  rw [ra_ir, e4]
  by_cases h1 : s_X9_isIn a1 (σm 5 0) = 0
  · rw [if_pos h1, if_pos h1]
    exact rf_g (c := -1) hF (by decide) (by decide)
  rw [if_neg h1, if_neg h1]
  by_cases q0 : a2 = 0
  · simp only [q0, ↓reduceIte, if_pos]
    first | exact hF | ((repeat' split) <;> exact hF)
  simp only [if_neg q0]
  by_cases q1 : a2 = 1
  · simp only [q1, ↓reduceIte, if_pos]
    first | exact hF | ((repeat' split) <;> exact hF)
  simp only [if_neg q1]
  by_cases q2 : a2 = 2
  · simp only [q2, ↓reduceIte, if_pos]
    first | exact hF | ((repeat' split) <;> exact hF)
  simp only [if_neg q2]
  by_cases q3 : a2 = 3
  · simp only [q3, ↓reduceIte, if_pos]
    first | exact hF | ((repeat' split) <;> exact hF)
  simp only [if_neg q3]
  by_cases q4 : a2 = 4
  · simp only [q4, ↓reduceIte, if_pos]
    first | exact hF | ((repeat' split) <;> exact hF)
  simp only [if_neg q4]
  by_cases q5 : a2 = 5
  · simp only [q5, ↓reduceIte, if_pos]
    first | exact hF | ((repeat' split) <;> exact hF)
  simp only [if_neg q5]
  by_cases q6 : a2 = 6
  · simp only [q6, ↓reduceIte, if_pos]
    first | exact hF | ((repeat' split) <;> exact hF)
  simp only [if_neg q6]
  by_cases q7 : a2 = 7
  · simp only [q7, ↓reduceIte, if_pos]
    first | exact hF | ((repeat' split) <;> exact hF)
  simp only [if_neg q7]
  by_cases q8 : a2 = 8
  · simp only [q8, ↓reduceIte, if_pos]
    first | exact hF | ((repeat' split) <;> exact hF)
  simp only [if_neg q8]
  exact rf_g (c := -2) hF (by decide) (by decide)
set_option maxRecDepth 20000 in
theorem rf_herdOf {k : Nat} {σx σm : St} (hk : k ≤ 511) (hI : IX σx) (hJ : IR σm) (hJR : JR σm) (hR : Rel k σx σm) (a1 a2 : Int32) : (s_X8_herdOf σx a1 a2).2 810 = (s_X9_herdOf σm a1 a2).2 0 := by
  obtain ⟨⟨⟨E, G, HP, HU, HO, K, K2⟩, HC⟩, hF, -⟩ := hR
  obtain ⟨c1, c2, c3, c4, c5, c6, c7⟩ := HC
  obtain ⟨e1, e2, e3, e4, e5, e6, e7, e8, e9, e10, e11, e12, e13, e14, e15, e16, e17, e18⟩ := id E
  obtain ⟨g1, g2, g3, g4, g5, g6, g7, g8, g9, g10⟩ := id G
  unfold s_X8_herdOf s_X9_herdOf
  rw [ra_ie, e5]
  by_cases h1 : s_X9_isIn a1 (σm 6 0) = 0
  · rw [if_pos h1, if_pos h1]
    exact rf_g (c := -1) hF (by decide) (by decide)
  rw [if_neg h1, if_neg h1]
  by_cases q0 : a2 = 0
  · simp only [q0, ↓reduceIte, if_pos]
    first | exact hF | ((repeat' split) <;> exact hF)
  simp only [if_neg q0]
  by_cases q1 : a2 = 1
  · simp only [q1, ↓reduceIte, if_pos]
    first | exact hF | ((repeat' split) <;> exact hF)
  simp only [if_neg q1]
  by_cases q2 : a2 = 2
  · simp only [q2, ↓reduceIte, if_pos]
    first | exact hF | ((repeat' split) <;> exact hF)
  simp only [if_neg q2]
  by_cases q3 : a2 = 3
  · simp only [q3, ↓reduceIte, if_pos]
    first | exact hF | ((repeat' split) <;> exact hF)
  simp only [if_neg q3]
  by_cases q4 : a2 = 4
  · simp only [q4, ↓reduceIte, if_pos]
    first | exact hF | ((repeat' split) <;> exact hF)
  simp only [if_neg q4]
  by_cases q5 : a2 = 5
  · simp only [q5, ↓reduceIte, if_pos]
    first | exact hF | ((repeat' split) <;> exact hF)
  simp only [if_neg q5]
  by_cases q6 : a2 = 6
  · simp only [q6, ↓reduceIte, if_pos]
    first | exact hF | ((repeat' split) <;> exact hF)
  simp only [if_neg q6]
  exact rf_g (c := -2) hF (by decide) (by decide)
set_option maxRecDepth 20000 in
theorem rf_ownerOf {k : Nat} {σx σm : St} (hk : k ≤ 511) (hI : IX σx) (hJ : IR σm) (hJR : JR σm) (hR : Rel k σx σm) (a1 a2 : Int32) : (s_X8_ownerOf σx a1 a2).2 810 = (s_X9_ownerOf σm a1 a2).2 0 := by
  obtain ⟨⟨⟨E, G, HP, HU, HO, K, K2⟩, HC⟩, hF, -⟩ := hR
  obtain ⟨c1, c2, c3, c4, c5, c6, c7⟩ := HC
  obtain ⟨e1, e2, e3, e4, e5, e6, e7, e8, e9, e10, e11, e12, e13, e14, e15, e16, e17, e18⟩ := id E
  obtain ⟨g1, g2, g3, g4, g5, g6, g7, g8, g9, g10⟩ := id G
  have cv := (cv_eq σx a1).1
  have h810 : s_X8_coverOf σx a1 810 = σm 0 := (cv 810 (by decide) (by decide) (by decide) (by decide) (by decide)).trans hF
  unfold s_X8_ownerOf s_X9_ownerOf
  rw [ra_io, e2]
  by_cases h1 : a1 = -1
  · rw [if_pos h1, if_pos h1]
    by_cases q0 : a2 = 0
    · rw [if_pos q0, if_pos q0]
      split <;> exact hF
    rw [if_neg q0, if_neg q0]
    by_cases q1 : a2 = 1
    · rw [if_pos q1, if_pos q1]
      split <;> exact hF
    rw [if_neg q1, if_neg q1]
    by_cases q2 : a2 = 2
    · rw [if_pos q2, if_pos q2]
      exact h810
    rw [if_neg q2, if_neg q2]
    by_cases q3 : a2 = 3
    · rw [if_pos q3, if_pos q3]
      exact h810
    rw [if_neg q3, if_neg q3]
    exact rf_g (c := -2) hF (by decide) (by decide)
  · rw [if_neg h1, if_neg h1]
    by_cases h2 : s_X9_isIn a1 (σm 3 0) = 0
    · rw [if_pos h2, if_pos h2]
      exact rf_g (c := -1) hF (by decide) (by decide)
    rw [if_neg h2, if_neg h2]
    by_cases q0 : a2 = 0
    · rw [if_pos q0, if_pos q0]
      split <;> exact hF
    rw [if_neg q0, if_neg q0]
    by_cases q1 : a2 = 1
    · rw [if_pos q1, if_pos q1]
      split <;> exact hF
    rw [if_neg q1, if_neg q1]
    by_cases q2 : a2 = 2
    · rw [if_pos q2, if_pos q2]
      exact h810
    rw [if_neg q2, if_neg q2]
    by_cases q3 : a2 = 3
    · rw [if_pos q3, if_pos q3]
      exact h810
    rw [if_neg q3, if_neg q3]
    exact rf_g (c := -2) hF (by decide) (by decide)
set_option maxRecDepth 20000 in
theorem rf_plan {k : Nat} {σx σm : St} (hk : k ≤ 511) (hI : IX σx) (hJ : IR σm) (hJR : JR σm) (hR : Rel k σx σm) (a1 a2 a3 a4 : Int32) : (s_X8_plan σx a1 a2 a3 a4).2 810 = (s_X9_plan σm a1 a2 a3 a4).2 0 := by
  obtain ⟨⟨⟨E, G, HP, HU, HO, K, K2⟩, HC⟩, hF, -⟩ := hR
  obtain ⟨c1, c2, c3, c4, c5, c6, c7⟩ := HC
  obtain ⟨e1, e2, e3, e4, e5, e6, e7, e8, e9, e10, e11, e12, e13, e14, e15, e16, e17, e18⟩ := id E
  obtain ⟨g1, g2, g3, g4, g5, g6, g7, g8, g9, g10⟩ := id G
  rcases pl_eq1 hJ hJR ⟨E, G, HP, HU, HO, K, K2⟩ ⟨c1, c2, c3, c4, c5, c6, c7⟩ a1 a2 a3 a4 with ⟨c, hc, u1, u2⟩ | ⟨n, vx, vm, x, y, u1, u2, -, -, -, -, u8, u9⟩
  · rw [u1, u2]
    refine rf_g hF ?_ ?_
    · rcases hc with e | e | e | e <;> (rw [e]; decide)
    · rcases hc with e | e | e | e <;> (rw [e]; decide)
  · rw [u1, u2]
    show x 810 = y 0
    rw [u8, u9]
    exact hF
theorem p0_step (j : Nat) (v : Int32) (σ : St) : (s_X9_pass_l35 j (v, σ)).2 0 = σ 0 ∧ (s_X9_pass_l35 j (v, σ)).2 10 = σ 10 := by
  obtain ⟨t0, ht0⟩ : ∃ t, put σ 1 0 (σ 1 0 + 1) = t := ⟨_, rfl⟩
  obtain ⟨t1, ht1⟩ : ∃ t, iter s_X9_pass_l57 ((6 : Int32).toNatClampNeg - 0) 0 (s_X9_places t0) = t := ⟨_, rfl⟩
  obtain ⟨t2, ht2⟩ : ∃ t, s_X9_goesA t1 (t1 1 0) = t := ⟨_, rfl⟩
  obtain ⟨t3, ht3⟩ : ∃ t, iter s_X9_pass_l101 ((t2 2 0).toNatClampNeg - 0) 0 t2 = t := ⟨_, rfl⟩
  obtain ⟨t4, ht4⟩ : ∃ t, iter s_X9_pass_l152 ((t3 6 0).toNatClampNeg - 0) 0 (v, t3) = t := ⟨_, rfl⟩
  obtain ⟨Y, hY⟩ : ∃ Y, s_X9_lapses (s_X9_sells t4.2) = Y := ⟨_, rfl⟩
  have em : s_X9_pass_l35 j (v, σ) = (t4.1, Y) := by
    unfold s_X9_pass_l35
    try dsimp only
    rw [ht0, ht1]
    unfold s_X9_pass_c57
    try dsimp only
    rw [ht2, ht3]
    unfold s_X9_pass_c101
    try dsimp only
    rw [ht4, c152_e, hY]
  have f4 : ∀ f : Nat, f ≠ 1 → f ≠ 40 → f ≠ 17 → f ≠ 11 → f ≠ 13 → f ≠ 43 → f ≠ 46 → f ≠ 45 → t4.2 f = σ f := by
    intro f p0 p1 p2 p3 p4 p5 p6 p7
    rw [← ht4, fr_152 p1]
    show t3 f = σ f
    rw [← ht3, fr_101 p2 p3, ← ht2, fr_s_X9_goesA _ _ p4 p5 p6, ← ht1, fr_57 p6, fr_s_X9_places _ p7, ← ht0]
    exact put_fr p0
  have L : ∀ f : Nat, f ∈ [0, 10] → Y f = t4.2 f := fun f hf => by
    rw [← hY, fr_s_X9_lapses (s_X9_sells t4.2) (fun e => absurd (e ▸ hf) (by decide)) (fun e => absurd (e ▸ hf) (by decide)) (fun e => absurd (e ▸ hf) (by decide)) (fun e => absurd (e ▸ hf) (by decide)), fr_s_X9_sells t4.2 (fun e => absurd (e ▸ hf) (by decide)) (fun e => absurd (e ▸ hf) (by decide)) (fun e => absurd (e ▸ hf) (by decide))]
  have y0 : Y 0 = σ 0 := by rw [L 0 (by decide), f4 0 (by decide) (by decide) (by decide) (by decide) (by decide) (by decide) (by decide) (by decide)]
  have y10 : Y 10 = σ 10 := by rw [L 10 (by decide), f4 10 (by decide) (by decide) (by decide) (by decide) (by decide) (by decide) (by decide) (by decide)]
  rw [em]
  exact ⟨y0, y10⟩
theorem rt_step {k : Nat} {vm : Int32} {σx σm : St} (j : Nat) (R : RD 30 k σx σm) (H : RC σx σm) (K : KC σm) (hd : (σm 1 0).toInt ≤ 719) (n20 : (σm 6 0).toNatClampNeg ≤ 20) (p6 : (σm 2 0).toNatClampNeg ≤ 6) (h10 : σm 10 0 + vm = Sm (σm 40) (σm 6 0).toNatClampNeg) (h11 : σm 11 0 = Sm (σm 17) (σm 2 0).toNatClampNeg) : (s_X9_pass_l35 j (vm, σm)).2 10 0 + (s_X9_pass_l35 j (vm, σm)).1 = Sm ((s_X9_pass_l35 j (vm, σm)).2 40) (σm 6 0).toNatClampNeg ∧ (s_X9_pass_l35 j (vm, σm)).2 11 0 = Sm ((s_X9_pass_l35 j (vm, σm)).2 17) (σm 2 0).toNatClampNeg := by
  have P0 := (p0_step j vm σm).2
  have R1 := rd_day R hd
  obtain ⟨t0, ht0⟩ : ∃ t, put σm 1 0 (σm 1 0 + 1) = t := ⟨_, rfl⟩
  obtain ⟨s0, hs0⟩ : ∃ s, put σx 816 0 (σx 816 0 + 1) = s := ⟨_, rfl⟩
  rw [ht0, hs0] at R1
  have F0 : ∀ f : Nat, f ≠ 1 → t0 f = σm f := fun f q => by
    rw [← ht0]
    exact put_fr q
  have H0 : RC s0 t0 := rc_cast H (fun f hf => by
    rw [← hs0]
    exact put_fr (fun e => absurd (e ▸ hf) (by decide))) (fun f hf => F0 f (fun e => absurd (e ▸ hf) (by decide)))
  have K0 : KC t0 := fun i => by
    rw [F0 13 (by decide), F0 14 (by decide), F0 23 (by decide), F0 24 (by decide)]
    exact K i
  obtain ⟨t1, ht1⟩ : ∃ t, iter s_X9_pass_l57 ((6 : Int32).toNatClampNeg - 0) 0 (s_X9_places t0) = t := ⟨_, rfl⟩
  obtain ⟨t2, ht2⟩ : ∃ t, s_X9_goesA t1 (t1 1 0) = t := ⟨_, rfl⟩
  obtain ⟨t3, ht3⟩ : ∃ t, iter s_X9_pass_l101 ((t2 2 0).toNatClampNeg - 0) 0 t2 = t := ⟨_, rfl⟩
  obtain ⟨t4, ht4⟩ : ∃ t, iter s_X9_pass_l152 ((t3 6 0).toNatClampNeg - 0) 0 (vm, t3) = t := ⟨_, rfl⟩
  obtain ⟨Y, hY⟩ : ∃ Y, s_X9_lapses (s_X9_sells t4.2) = Y := ⟨_, rfl⟩
  have em : s_X9_pass_l35 j (vm, σm) = (t4.1, Y) := by
    unfold s_X9_pass_l35
    try dsimp only
    rw [ht0, ht1]
    unfold s_X9_pass_c57
    try dsimp only
    rw [ht2, ht3]
    unfold s_X9_pass_c101
    try dsimp only
    rw [ht4, c152_e, hY]
  obtain ⟨-, -, q3, q4, q5, q6, q7⟩ := rc_day R1 H0 K0 (by rw [F0 6 (by decide)]; exact n20) (by rw [F0 2 (by decide)]; exact p6) vm ht1 ht2 ht3 ht4
  have L : ∀ f : Nat, f ∈ [11, 17, 40] → Y f = t4.2 f := fun f hf => by
    rw [← hY, fr_s_X9_lapses (s_X9_sells t4.2) (fun e => absurd (e ▸ hf) (by decide)) (fun e => absurd (e ▸ hf) (by decide)) (fun e => absurd (e ▸ hf) (by decide)) (fun e => absurd (e ▸ hf) (by decide)), fr_s_X9_sells t4.2 (fun e => absurd (e ▸ hf) (by decide)) (fun e => absurd (e ▸ hf) (by decide)) (fun e => absurd (e ▸ hf) (by decide))]
  rw [F0 6 (by decide)] at q6 q7
  rw [F0 2 (by decide)] at q4 q5
  rw [em] at P0 ⊢
  have P0 : Y 10 = σm 10 := P0
  refine ⟨?_, ?_⟩
  · show Y 10 0 + t4.1 = Sm (Y 40) (σm 6 0).toNatClampNeg
    rw [P0, L 40 (by decide), sm_ext (f := t4.2 40) (g := fun h => t0 40 h + t2 43 h) (fun h hh => by rw [q6 h, if_pos hh]), ← sm_plus, q3, q7, ← Int32.add_assoc, h10, F0 40 (by decide)]
  · show Y 11 0 = Sm (Y 17) (σm 2 0).toNatClampNeg
    rw [L 11 (by decide), L 17 (by decide), q4, sm_ext (f := t4.2 17) (g := fun p => t0 17 p + t2 46 p) (fun p hp => by rw [q5 p, if_pos hp]), ← sm_plus, F0 11 (by decide), F0 17 (by decide), h11]
theorem x0_pass (n k : Nat) (p : Int32 × St) : (iter s_X8_pass_l35 n k p).2 810 = p.2 810 := iter_fr (P := fun s : Int32 × St => s.2 810) (L := s_X8_pass_l35) (fun j s => by
  obtain ⟨v, σ⟩ := s
  obtain ⟨s0, hs0⟩ : ∃ s, put σ 816 0 (σ 816 0 + 1) = s := ⟨_, rfl⟩
  obtain ⟨X, hX⟩ : ∃ X, s_X8_lapse (s_X8_findUsed (s_X8_sellFromPound (s_X8_grazeAll s0).2)) = X := ⟨_, rfl⟩
  have ex : s_X8_pass_l35 j (v, σ) = (v + (s_X8_grazeAll s0).1, X) := by
    unfold s_X8_pass_l35
    try dsimp only
    rw [hs0, hX]
  have eX : X 810 = σ 810 := by
    rw [← hX, fr_s_X8_lapse (s_X8_findUsed (s_X8_sellFromPound (s_X8_grazeAll s0).2)) (by decide) (by decide), fr_s_X8_findUsed (s_X8_sellFromPound (s_X8_grazeAll s0).2) (by decide), fr_s_X8_sellFromPound (s_X8_grazeAll s0).2 (by decide) (by decide) (by decide), fr_s_X8_grazeAll s0 (by decide) (by decide) (by decide) (by decide) (by decide) (by decide) (by decide) (by decide) (by decide) (by decide), ← hs0]
    exact put_fr (by decide)
  rw [ex]
  exact eX) n k p
theorem rf_pass {k : Nat} {σx σm : St} (hk : k ≤ 511) (hI : IX σx) (hJ : IR σm) (hJR : JR σm) (hR : Rel k σx σm) (a1 : Int32) : (s_X8_pass σx a1).2 810 = (s_X9_pass σm a1).2 0 ∧ RT (s_X9_pass σm a1).2 := by
  obtain ⟨⟨hB, hC⟩, hF, hT⟩ := hR
  have a816 : σx 816 0 = σm 1 0 := congrFun hB.1.2.2.2.2.2.1 0
  have hd := ir_1 hJ
  unfold s_X8_pass s_X9_pass
  rw [a816]
  by_cases h1 : (1 : Int32) ≤ a1
  · by_cases h2 : a1 ≤ 720 - σm 1 0
    · simp only [if_pos h1, if_pos h2]
      have o1 : (1 : Int32).toInt = 1 := by decide
      have o7 : (720 : Int32).toInt = 720 := by decide
      rw [Int32.le_iff_toInt_le, o1] at h1
      rw [Int32.le_iff_toInt_le, sub_ti (by rw [o7]; omega) (by rw [o7]; omega), o7] at h2
      have na : ((a1.toNatClampNeg - 0 : Nat) : Int) = a1.toInt := by
        rw [Nat.sub_zero, tn_toInt]
        omega
      have n20 : (σm 6 0).toNatClampNeg ≤ 20 := cnt_le (ir_6 hJ)
      have p6 : (σm 2 0).toNatClampNeg ≤ 6 := cnt_le (ir_2 hJ)
      have key := it_sim (L := s_X8_pass_l35) (M := s_X9_pass_l35) (P := fun j (x y : Int32 × St) => RD 30 k x.2 y.2 ∧ (y.2 1 0).toInt = (σm 1 0).toInt + (j : Int) ∧ RC x.2 y.2 ∧ KC y.2 ∧ x.1 = y.1 ∧ y.2 6 = σm 6 ∧ y.2 2 = σm 2 ∧ y.2 0 = σm 0 ∧ y.2 10 0 + y.1 = Sm (y.2 40) (σm 6 0).toNatClampNeg ∧ y.2 11 0 = Sm (y.2 17) (σm 2 0).toNatClampNeg) (s := (0, σx)) (t := (0, σm)) ⟨rd_of hJ hJR hB, by show (σm 1 0).toInt = (σm 1 0).toInt + ((0 : Nat) : Int); omega, hC, kc_of hJ, rfl, rfl, rfl, rfl, by show σm 10 0 + 0 = _; rw [Int32.add_zero]; exact hT.1, hT.2⟩ (a1.toNatClampNeg - 0) (fun j x y hj ih => by
        obtain ⟨vx, x⟩ := x
        obtain ⟨vm, y⟩ := y
        obtain ⟨i1, i2, i3, i4, i5, i6, i7, i8, i9, i10⟩ := ih
        have i2 : (y 1 0).toInt = (σm 1 0).toInt + (j : Int) := i2
        have i6 : y 6 = σm 6 := i6
        have i7 : y 2 = σm 2 := i7
        have i1 : RD 30 k x y := i1
        have i3 : RC x y := i3
        have i4 : KC y := i4
        have i5 : vx = vm := i5
        have i8 : y 0 = σm 0 := i8
        have i9 : y 10 0 + vm = Sm (y 40) (σm 6 0).toNatClampNeg := i9
        have i10 : y 11 0 = Sm (y 17) (σm 2 0).toNatClampNeg := i10
        have j8 : (y 6 0).toNatClampNeg ≤ 20 := by rw [i6]; exact n20
        have j9 : (y 2 0).toNatClampNeg ≤ 6 := by rw [i7]; exact p6
        have dd : (y 1 0).toInt ≤ 719 := by omega
        obtain ⟨r1, r2⟩ := rd_step (vx := vx) (vm := vm) (σx := x) (σm := y) j i1 dd
        obtain ⟨u1, u2, u3, u4, u5⟩ := rc_step (vx := vx) (vm := vm) (σx := x) (σm := y) j i1 i3 i4 dd j8 j9 i5
        have w := rt_step (vm := vm) (σx := x) (σm := y) j i1 i3 i4 dd j8 j9 (by rw [i6]; exact i9) (by rw [i7]; exact i10)
        rw [i6, i7] at w
        refine ⟨r1, ?_, u1, u2, u3, u4.trans i6, u5.trans i7, ((p0_step j vm y).1).trans i8, w.1, w.2⟩
        rw [r2, add_ti (by rw [o1]; omega) (by rw [o1]; omega), o1, i2]
        omega)
      have hx := x0_pass (a1.toNatClampNeg - 0) 0 ((0 : Int32), σx)
      obtain ⟨px, hpx⟩ : ∃ p, iter s_X8_pass_l35 (a1.toNatClampNeg - 0) 0 ((0 : Int32), σx) = p := ⟨_, rfl⟩
      obtain ⟨pm, hpm⟩ : ∃ p, iter s_X9_pass_l35 (a1.toNatClampNeg - 0) 0 ((0 : Int32), σm) = p := ⟨_, rfl⟩
      rw [hpx] at key hx ⊢
      rw [hpm] at key ⊢
      obtain ⟨vx, x⟩ := px
      obtain ⟨vm, y⟩ := pm
      obtain ⟨-, -, -, -, -, k6, k7, k8, k9, k10⟩ := key
      have k6 : y 6 = σm 6 := k6
      have k7 : y 2 = σm 2 := k7
      have k8 : y 0 = σm 0 := k8
      have k9 : y 10 0 + vm = Sm (y 40) (σm 6 0).toNatClampNeg := k9
      have k10 : y 11 0 = Sm (y 17) (σm 2 0).toNatClampNeg := k10
      have hx : x 810 = σx 810 := hx
      refine ⟨?_, ?_, ?_⟩
      · show x 810 = y 0
        rw [hx, k8]
        exact hF
      · show upd (y 10) 0 (y 10 0 + vm) 0 = Sm (y 40) (y 6 0).toNatClampNeg
        rw [pk_us, k9, k6]
      · show y 11 0 = Sm (y 17) (y 2 0).toNatClampNeg
        rw [k10, k7]
    · simp only [if_pos h1, if_neg h2]
      exact ⟨rf_g hF (by decide) (by decide), rt_cast hT (fun f hf => fr_s_X9_refuse σm _ (fun e => absurd (e ▸ hf) (by decide)))⟩
  · simp only [if_neg h1]
    exact ⟨rf_g hF (by decide) (by decide), rt_cast hT (fun f hf => fr_s_X9_refuse σm _ (fun e => absurd (e ▸ hf) (by decide)))⟩
theorem rl_pass {k : Nat} {σx σm : St} (hk : k ≤ 511) (hI : IX σx) (hJ : IR σm) (hJR : JR σm) (hR : Rel k σx σm) (a1 : Int32) : Rel (k + 1) (s_X8_pass σx a1).2 (s_X9_pass σm a1).2 := ⟨rlC_pass hk hI hJ hJR hR.1 a1, rf_pass hk hI hJ hJR hR a1⟩
theorem cut_0 (σ : St) (a1 : Int32) (v : Int64) : (s_X9_cut_c125 σ a1 v).2 0 = σ 0 := by
  unfold s_X9_cut_c125
  try dsimp only
  have hl : ∀ (k : Nat) (s t : Int32 × St), s_X9_cut_l159 σ a1 v k s = some t → t.2 0 = s.2 0 := by
    intro k s t e
    obtain ⟨s1, s2⟩ := s
    unfold s_X9_cut_l159 s_X9_cut_c181 at e
    dsimp only at e
    split at e
    · cases e
    · cases e
      rfl
  have h := iterC_fr (P := fun s : Int32 × St => s.2 0) hl
  unfold s_X9_cut_c159
  try dsimp only
  exact h _ _ _
theorem rf_cut {k : Nat} {σx σm : St} (hk : k ≤ 511) (hI : IX σx) (hJ : IR σm) (hJR : JR σm) (hR : Rel k σx σm) (a1 : Int32) : (s_X8_cut σx a1).2 810 = (s_X9_cut σm a1).2 0 := by
  obtain ⟨⟨⟨E, G, HP, HU, HO, K, K2⟩, HC⟩, hF, -⟩ := hR
  obtain ⟨c1, c2, c3, c4, c5, c6, c7⟩ := HC
  obtain ⟨e1, e2, e3, e4, e5, e6, e7, e8, e9, e10, e11, e12, e13, e14, e15, e16, e17, e18⟩ := id E
  obtain ⟨g1, g2, g3, g4, g5, g6, g7, g8, g9, g10⟩ := id G
  unfold s_X8_cut s_X9_cut s_X9_cut_c21
  try dsimp only
  simp only [ite_not, ra_io, ra_ih, ra_ip, ra_ir, ra_ie, ra_iw, ra_mc, e1, e2, e3, e4, e5, e6, e7, e8, e9, e10, e11, e12, e13, e14, e15, e16, e17, e18, g1, g2, g3, g4, g5, g6, g7, g8, g9, g10]
  by_cases h1 : s_X9_isIn a1 (σm 2 0) = 0
  · simp only [if_pos h1]
    exact rf_g hF (by decide) (by decide)
  · simp only [if_neg h1]
    obtain ⟨p, hp, rfl⟩ := vp_in_of (in_vp.mpr h1) (tn_lt _)
    have p31 : p < 2 ^ 31 := Nat.lt_trans hp (tn_lt _)
    have hrs := rst_eq g6 p31
    simp only [nI_clamp p31, hrs, Nat.sub_zero]
    by_cases h2 : s_X9_rests σm (nI p) = 0
    · simp only [if_pos h2]
      have n6 : (σm 6 0).toNatClampNeg ≤ 20 := cnt_le (ir_6 hJ)
      have hon : (s_X8_herdsOn σx (nI p) ≤ 0) ↔ (iter (s_X9_cut_l21 σm (nI p)) (σm 6 0).toNatClampNeg 0 0 = 0) := by
        rw [on_m, on_sum, Int32.le_iff_toInt_le, show (0 : Int32).toInt = 0 by decide, e5, e18, on_0 (fun h => σm 38 h = nI p) _ n6]
        refine ⟨fun h j hj => Or.inr (h j hj), fun h j hj e => ?_⟩
        exact (h j hj).elim (out_1 hJR.2.2.2 hj p31 e) (fun q => q e)
      by_cases h3 : s_X8_herdsOn σx (nI p) ≤ 0
      · simp only [if_pos h3, if_pos (hon.mp h3)]
        rw [cut_0, fr_s_X8_shareHay _ _ _ (by decide) (by decide) (by decide) (by decide) (by decide) (by decide) (by decide)]
        exact hF
      · simp only [if_neg h3, if_neg (fun e => h3 (hon.mpr e))]
        exact rf_g hF (by decide) (by decide)
    · simp only [if_neg h2]
      exact rf_g hF (by decide) (by decide)
theorem rt_piece {σ : St} (hJ : IR σ) (R : RT σ) (c5 : ∀ p : Nat, (σ 2 0).toNatClampNeg ≤ p → σ 17 p = 0) (a1 a2 a3 a4 : Int32) : RT (s_X9_piece σ a1 a2 a3 a4).2 := by
  have rr : ∀ d, RT (s_X9_refuse σ d).2 := fun d => R
  unfold s_X9_piece
  by_cases q0 : a1 < 0
  · rw [if_pos q0]; exact rr _
  rw [if_neg q0]
  by_cases q1 : a3 < 0
  · rw [if_pos q1]; exact rr _
  rw [if_neg q1]
  by_cases q2 : 1 ≤ a2
  case neg => rw [if_neg q2]; exact rr _
  rw [if_pos q2]
  by_cases q3 : 100000 < a2
  · rw [if_pos q3]; exact rr _
  rw [if_neg q3]
  by_cases q4 : a2 < a1
  · rw [if_pos q4]; exact rr _
  rw [if_neg q4]
  by_cases q5 : 10000 < a3
  · rw [if_pos q5]; exact rr _
  rw [if_neg q5]
  by_cases q6 : σ 2 0 = 6
  · rw [if_pos q6]; exact rr _
  rw [if_neg q6]
  refine ⟨R.1, ?_⟩
  show σ 11 0 = Sm (σ 17) (σ 2 0 + 1).toNatClampNeg
  rw [inc_n9 (N := 6) (ir_2 hJ) (by decide)]
  show σ 11 0 = Sm (σ 17) (σ 2 0).toNatClampNeg + σ 17 (σ 2 0).toNatClampNeg
  rw [c5 _ (Nat.le_refl _), Int32.add_zero]
  exact R.2
theorem rt_herd {σ : St} (hJ : IR σ) (R : RT σ) (c6 : ∀ h : Nat, (σ 6 0).toNatClampNeg ≤ h → σ 40 h = 0) (a1 a2 a3 : Int32) : RT (s_X9_herd σ a1 a2 a3).2 := by
  have rr : ∀ d, RT (s_X9_refuse σ d).2 := fun d => R
  unfold s_X9_herd
  by_cases q0 : s_X9_isIn a1 (σ 3 0) = 0
  · rw [if_pos q0]; exact rr _
  rw [if_neg q0]
  by_cases q1 : s_X9_isIn a2 3 = 0
  · rw [if_pos q1]; exact rr _
  rw [if_neg q1]
  by_cases q2 : 1 ≤ a3
  case neg => rw [if_neg q2]; exact rr _
  rw [if_pos q2]
  by_cases q3 : 100 < a3
  · rw [if_pos q3]; exact rr _
  rw [if_neg q3]
  by_cases q4 : σ 6 0 = 20
  · rw [if_pos q4]; exact rr _
  rw [if_neg q4]
  refine ⟨?_, R.2⟩
  show σ 10 0 = Sm (σ 40) (σ 6 0 + 1).toNatClampNeg
  rw [inc_n9 (N := 20) (ir_6 hJ) (by decide)]
  show σ 10 0 = Sm (σ 40) (σ 6 0).toNatClampNeg + σ 40 (σ 6 0).toNatClampNeg
  rw [c6 _ (Nat.le_refl _), Int32.add_zero]
  exact R.1
theorem rl_piece {k : Nat} {σx σm : St} (hk : k ≤ 511) (hI : IX σx) (hJ : IR σm) (hJR : JR σm) (hR : Rel k σx σm) (a1 a2 a3 a4 : Int32) (h4 : a4 = 0 ∨ a4 = 1) : Rel (k + 1) (s_X8_piece σx a1 a2 a3 a4).2 (s_X9_piece σm a1 a2 a3 a4).2 := ⟨rlC_piece hk hI hJ hJR hR.1 a1 a2 a3 a4 h4, rf_piece hk hI hJ hJR hR a1 a2 a3 a4 h4, rt_piece hJ hR.2.2 hR.1.2.2.2.2.2.1 a1 a2 a3 a4⟩
theorem rl_owner {k : Nat} {σx σm : St} (hk : k ≤ 511) (hI : IX σx) (hJ : IR σm) (hJR : JR σm) (hR : Rel k σx σm) (a1 : Int32) : Rel (k + 1) (s_X8_owner σx a1).2 (s_X9_owner σm a1).2 := ⟨rlC_owner hk hI hJ hJR hR.1 a1, rf_owner hk hI hJ hJR hR a1, rt_cast hR.2.2 (fun f hf => fr_s_X9_owner σm a1 (fun e => absurd (e ▸ hf) (by decide)) (fun e => absurd (e ▸ hf) (by decide)) (fun e => absurd (e ▸ hf) (by decide)))⟩
theorem rl_house {k : Nat} {σx σm : St} (hk : k ≤ 511) (hI : IX σx) (hJ : IR σm) (hJR : JR σm) (hR : Rel k σx σm) (a1 : Int32) : Rel (k + 1) (s_X8_house σx a1).2 (s_X9_house σm a1).2 := ⟨rlC_house hk hI hJ hJR hR.1 a1, rf_house hk hI hJ hJR hR a1, rt_cast hR.2.2 (fun f hf => fr_s_X9_house σm a1 (fun e => absurd (e ▸ hf) (by decide)) (fun e => absurd (e ▸ hf) (by decide)) (fun e => absurd (e ▸ hf) (by decide)))⟩
theorem rl_rate {k : Nat} {σx σm : St} (hk : k ≤ 511) (hI : IX σx) (hJ : IR σm) (hJR : JR σm) (hR : Rel k σx σm) (a1 a2 a3 : Int32) : Rel (k + 1) (s_X8_rate σx a1 a2 a3).2 (s_X9_rate σm a1 a2 a3).2 := ⟨rlC_rate hk hI hJ hJR hR.1 a1 a2 a3, rf_rate hk hI hJ hJR hR a1 a2 a3, rt_cast hR.2.2 (fun f hf => fr_s_X9_rate σm a1 a2 a3 (fun e => absurd (e ▸ hf) (by decide)) (fun e => absurd (e ▸ hf) (by decide)))⟩
theorem rl_weather {k : Nat} {σx σm : St} (hk : k ≤ 511) (hI : IX σx) (hJ : IR σm) (hJR : JR σm) (hR : Rel k σx σm) (a1 a2 a3 : Int32) : Rel (k + 1) (s_X8_weather σx a1 a2 a3).2 (s_X9_weather σm a1 a2 a3).2 := ⟨rlC_weather hk hI hJ hJR hR.1 a1 a2 a3, rf_weather hk hI hJ hJR hR a1 a2 a3, rt_cast hR.2.2 (fun f hf => fr_s_X9_weather σm a1 a2 a3 (fun e => absurd (e ▸ hf) (by decide)) (fun e => absurd (e ▸ hf) (by decide)) (fun e => absurd (e ▸ hf) (by decide)))⟩
theorem rl_right {k : Nat} {σx σm : St} (hk : k ≤ 511) (hI : IX σx) (hJ : IR σm) (hJR : JR σm) (hR : Rel k σx σm) (a1 a2 a3 a4 a5 : Int32) : Rel (k + 1) (s_X8_right σx a1 a2 a3 a4 a5).2 (s_X9_right σm a1 a2 a3 a4 a5).2 := ⟨rlC_right hk hI hJ hJR hR.1 a1 a2 a3 a4 a5, rf_right hk hI hJ hJR hR a1 a2 a3 a4 a5, rt_cast hR.2.2 (fun f hf => fr_s_X9_right σm a1 a2 a3 a4 a5 (fun e => absurd (e ▸ hf) (by decide)) (fun e => absurd (e ▸ hf) (by decide)) (fun e => absurd (e ▸ hf) (by decide)) (fun e => absurd (e ▸ hf) (by decide)) (fun e => absurd (e ▸ hf) (by decide)) (fun e => absurd (e ▸ hf) (by decide)) (fun e => absurd (e ▸ hf) (by decide)) (fun e => absurd (e ▸ hf) (by decide)) (fun e => absurd (e ▸ hf) (by decide)) (fun e => absurd (e ▸ hf) (by decide)))⟩
theorem rl_lend {k : Nat} {σx σm : St} (hk : k ≤ 511) (hI : IX σx) (hJ : IR σm) (hJR : JR σm) (hR : Rel k σx σm) (a1 a2 a3 a4 : Int32) : Rel (k + 1) (s_X8_lend σx a1 a2 a3 a4).2 (s_X9_lend σm a1 a2 a3 a4).2 := ⟨rlC_lend hk hI hJ hJR hR.1 a1 a2 a3 a4, rf_lend hk hI hJ hJR hR a1 a2 a3 a4, rt_cast hR.2.2 (fun f hf => fr_s_X9_lend σm a1 a2 a3 a4 (fun e => absurd (e ▸ hf) (by decide)) (fun e => absurd (e ▸ hf) (by decide)) (fun e => absurd (e ▸ hf) (by decide)) (fun e => absurd (e ▸ hf) (by decide)) (fun e => absurd (e ▸ hf) (by decide)) (fun e => absurd (e ▸ hf) (by decide)) (fun e => absurd (e ▸ hf) (by decide)) (fun e => absurd (e ▸ hf) (by decide)) (fun e => absurd (e ▸ hf) (by decide)) (fun e => absurd (e ▸ hf) (by decide)))⟩
theorem rl_sell {k : Nat} {σx σm : St} (hk : k ≤ 511) (hI : IX σx) (hJ : IR σm) (hJR : JR σm) (hR : Rel k σx σm) (a1 a2 : Int32) : Rel (k + 1) (s_X8_sell σx a1 a2).2 (s_X9_sell σm a1 a2).2 := ⟨rlC_sell hk hI hJ hJR hR.1 a1 a2, rf_sell hk hI hJ hJR hR a1 a2, rt_cast hR.2.2 (fun f hf => fr_s_X9_sell σm a1 a2 (fun e => absurd (e ▸ hf) (by decide)) (fun e => absurd (e ▸ hf) (by decide)))⟩
theorem rl_move {k : Nat} {σx σm : St} (hk : k ≤ 511) (hI : IX σx) (hJ : IR σm) (hJR : JR σm) (hR : Rel k σx σm) (a1 a2 : Int32) : Rel (k + 1) (s_X8_move σx a1 a2).2 (s_X9_move σm a1 a2).2 := ⟨rlC_move hk hI hJ hJR hR.1 a1 a2, rf_move hk hI hJ hJR hR a1 a2, rt_cast hR.2.2 (fun f hf => fr_s_X9_move σm a1 a2 (fun e => absurd (e ▸ hf) (by decide)) (fun e => absurd (e ▸ hf) (by decide)))⟩
theorem rl_herd {k : Nat} {σx σm : St} (hk : k ≤ 511) (hI : IX σx) (hJ : IR σm) (hJR : JR σm) (hR : Rel k σx σm) (a1 a2 a3 : Int32) : Rel (k + 1) (s_X8_herd σx a1 a2 a3).2 (s_X9_herd σm a1 a2 a3).2 := ⟨rlC_herd hk hI hJ hJR hR.1 a1 a2 a3, rf_herd hk hI hJ hJR hR a1 a2 a3, rt_herd hJ hR.2.2 hR.1.2.2.2.2.2.2.1 a1 a2 a3⟩
theorem rl_put {k : Nat} {σx σm : St} (hk : k ≤ 511) (hI : IX σx) (hJ : IR σm) (hJR : JR σm) (hR : Rel k σx σm) (a1 a2 : Int32) : Rel (k + 1) (s_X8_put σx a1 a2).2 (s_X9_put σm a1 a2).2 := ⟨rlC_put hk hI hJ hJR hR.1 a1 a2, rf_put hk hI hJ hJR hR a1 a2, rt_cast hR.2.2 (fun f hf => fr_s_X9_put σm a1 a2 (fun e => absurd (e ▸ hf) (by decide)) (fun e => absurd (e ▸ hf) (by decide)) (fun e => absurd (e ▸ hf) (by decide)) (fun e => absurd (e ▸ hf) (by decide)))⟩
theorem rl_drive {k : Nat} {σx σm : St} (hk : k ≤ 511) (hI : IX σx) (hJ : IR σm) (hJR : JR σm) (hR : Rel k σx σm) (a1 a2 : Int32) : Rel (k + 1) (s_X8_drive σx a1 a2).2 (s_X9_drive σm a1 a2).2 := ⟨rlC_drive hk hI hJ hJR hR.1 a1 a2, rf_drive hk hI hJ hJR hR a1 a2, rt_cast hR.2.2 (fun f hf => fr_s_X9_drive σm a1 a2 (fun e => absurd (e ▸ hf) (by decide)) (fun e => absurd (e ▸ hf) (by decide)) (fun e => absurd (e ▸ hf) (by decide)) (fun e => absurd (e ▸ hf) (by decide)))⟩
theorem rl_covered {k : Nat} {σx σm : St} (hk : k ≤ 511) (hI : IX σx) (hJ : IR σm) (hJR : JR σm) (hR : Rel k σx σm) (a1 : Int32) : Rel (k + 1) (s_X8_covered σx a1).2 (s_X9_covered σm a1).2 := ⟨rlC_covered hk hI hJ hJR hR.1 a1, rf_covered hk hI hJ hJR hR a1, rt_cast hR.2.2 (fun f hf => fr_s_X9_covered σm a1 (fun e => absurd (e ▸ hf) (by decide)))⟩
theorem rl_lacks {k : Nat} {σx σm : St} (hk : k ≤ 511) (hI : IX σx) (hJ : IR σm) (hJR : JR σm) (hR : Rel k σx σm) (a1 : Int32) : Rel (k + 1) (s_X8_lacks σx a1).2 (s_X9_lacks σm a1).2 := ⟨rlC_lacks hk hI hJ hJR hR.1 a1, rf_lacks hk hI hJ hJR hR a1, rt_cast hR.2.2 (fun f hf => fr_s_X9_lacks σm a1 (fun e => absurd (e ▸ hf) (by decide)))⟩
theorem rl_over {k : Nat} {σx σm : St} (hk : k ≤ 511) (hI : IX σx) (hJ : IR σm) (hJR : JR σm) (hR : Rel k σx σm) (a1 a2 : Int32) : Rel (k + 1) (s_X8_over σx a1 a2).2 (s_X9_over σm a1 a2).2 := ⟨rlC_over hk hI hJ hJR hR.1 a1 a2, rf_over hk hI hJ hJR hR a1 a2, rt_cast hR.2.2 (fun f hf => fr_s_X9_over σm a1 a2 (fun e => absurd (e ▸ hf) (by decide)))⟩
theorem rl_rest {k : Nat} {σx σm : St} (hk : k ≤ 511) (hI : IX σx) (hJ : IR σm) (hJR : JR σm) (hR : Rel k σx σm) (a1 a2 : Int32) : Rel (k + 1) (s_X8_rest σx a1 a2).2 (s_X9_rest σm a1 a2).2 := ⟨rlC_rest hk hI hJ hJR hR.1 a1 a2, rf_rest hk hI hJ hJR hR a1 a2, rt_cast hR.2.2 (fun f hf => fr_s_X9_rest σm a1 a2 (fun e => absurd (e ▸ hf) (by decide)) (fun e => absurd (e ▸ hf) (by decide)))⟩
theorem rl_cut {k : Nat} {σx σm : St} (hk : k ≤ 511) (hI : IX σx) (hJ : IR σm) (hJR : JR σm) (hR : Rel k σx σm) (a1 : Int32) : Rel (k + 1) (s_X8_cut σx a1).2 (s_X9_cut σm a1).2 := ⟨rlC_cut hk hI hJ hJR hR.1 a1, rf_cut hk hI hJ hJR hR a1, rt_cast hR.2.2 (fun f hf => fr_s_X9_cut σm a1 (fun e => absurd (e ▸ hf) (by decide)) (fun e => absurd (e ▸ hf) (by decide)) (fun e => absurd (e ▸ hf) (by decide)) (fun e => absurd (e ▸ hf) (by decide)) (fun e => absurd (e ▸ hf) (by decide)))⟩
theorem rl_pound {k : Nat} {σx σm : St} (hk : k ≤ 511) (hI : IX σx) (hJ : IR σm) (hJR : JR σm) (hR : Rel k σx σm) (a1 : Int32) : Rel (k + 1) (s_X8_pound σx a1).2 (s_X9_pound σm a1).2 := ⟨rlC_pound hk hI hJ hJR hR.1 a1, rf_pound hk hI hJ hJR hR a1, rt_cast hR.2.2 (fun f hf => fr_s_X9_pound σm a1 (fun e => absurd (e ▸ hf) (by decide)) (fun e => absurd (e ▸ hf) (by decide)) (fun e => absurd (e ▸ hf) (by decide)) (fun e => absurd (e ▸ hf) (by decide)))⟩
theorem rl_free {k : Nat} {σx σm : St} (hk : k ≤ 511) (hI : IX σx) (hJ : IR σm) (hJR : JR σm) (hR : Rel k σx σm) (a1 : Int32) : Rel (k + 1) (s_X8_free σx a1).2 (s_X9_free σm a1).2 := ⟨rlC_free hk hI hJ hJR hR.1 a1, rf_free hk hI hJ hJR hR a1, rt_cast hR.2.2 (fun f hf => fr_s_X9_free σm a1 (fun e => absurd (e ▸ hf) (by decide)) (fun e => absurd (e ▸ hf) (by decide)) (fun e => absurd (e ▸ hf) (by decide)) (fun e => absurd (e ▸ hf) (by decide)))⟩
theorem rl_plan {k : Nat} {σx σm : St} (hk : k ≤ 511) (hI : IX σx) (hJ : IR σm) (hJR : JR σm) (hR : Rel k σx σm) (a1 a2 a3 a4 : Int32) : Rel (k + 1) (s_X8_plan σx a1 a2 a3 a4).2 (s_X9_plan σm a1 a2 a3 a4).2 := ⟨rlC_plan hk hI hJ hJR hR.1 a1 a2 a3 a4, rf_plan hk hI hJ hJR hR a1 a2 a3 a4, rt_cast hR.2.2 (fun f hf => fr_s_X9_plan σm a1 a2 a3 a4 (fun e => absurd (e ▸ hf) (by decide)) (fun e => absurd (e ▸ hf) (by decide)) (fun e => absurd (e ▸ hf) (by decide)) (fun e => absurd (e ▸ hf) (by decide)) (fun e => absurd (e ▸ hf) (by decide)) (fun e => absurd (e ▸ hf) (by decide)) (fun e => absurd (e ▸ hf) (by decide)) (fun e => absurd (e ▸ hf) (by decide)) (fun e => absurd (e ▸ hf) (by decide)))⟩
theorem rl_pieceOf {k : Nat} {σx σm : St} (hk : k ≤ 511) (hI : IX σx) (hJ : IR σm) (hJR : JR σm) (hR : Rel k σx σm) (a1 a2 : Int32) : Rel (k + 1) (s_X8_pieceOf σx a1 a2).2 (s_X9_pieceOf σm a1 a2).2 := ⟨rlC_pieceOf hk hI hJ hJR hR.1 a1 a2, rf_pieceOf hk hI hJ hJR hR a1 a2, rt_cast hR.2.2 (fun f hf => fr_s_X9_pieceOf σm a1 a2 (fun e => absurd (e ▸ hf) (by decide)))⟩
theorem rl_rightOf {k : Nat} {σx σm : St} (hk : k ≤ 511) (hI : IX σx) (hJ : IR σm) (hJR : JR σm) (hR : Rel k σx σm) (a1 a2 : Int32) : Rel (k + 1) (s_X8_rightOf σx a1 a2).2 (s_X9_rightOf σm a1 a2).2 := ⟨rlC_rightOf hk hI hJ hJR hR.1 a1 a2, rf_rightOf hk hI hJ hJR hR a1 a2, rt_cast hR.2.2 (fun f hf => fr_s_X9_rightOf σm a1 a2 (fun e => absurd (e ▸ hf) (by decide)))⟩
theorem rl_herdOf {k : Nat} {σx σm : St} (hk : k ≤ 511) (hI : IX σx) (hJ : IR σm) (hJR : JR σm) (hR : Rel k σx σm) (a1 a2 : Int32) : Rel (k + 1) (s_X8_herdOf σx a1 a2).2 (s_X9_herdOf σm a1 a2).2 := ⟨rlC_herdOf hk hI hJ hJR hR.1 a1 a2, rf_herdOf hk hI hJ hJR hR a1 a2, rt_cast hR.2.2 (fun f hf => fr_s_X9_herdOf σm a1 a2 (fun e => absurd (e ▸ hf) (by decide)))⟩
theorem rl_ownerOf {k : Nat} {σx σm : St} (hk : k ≤ 511) (hI : IX σx) (hJ : IR σm) (hJR : JR σm) (hR : Rel k σx σm) (a1 a2 : Int32) : Rel (k + 1) (s_X8_ownerOf σx a1 a2).2 (s_X9_ownerOf σm a1 a2).2 := ⟨rlC_ownerOf hk hI hJ hJR hR.1 a1 a2, rf_ownerOf hk hI hJ hJR hR a1 a2, rt_cast hR.2.2 (fun f hf => fr_s_X9_ownerOf σm a1 a2 (fun e => absurd (e ▸ hf) (by decide)))⟩
theorem eq_count {k : Nat} {σx σm : St} (hk : k ≤ 511) (hI : IX σx) (hJ : IR σm) (hJR : JR σm) (hR : Rel k σx σm) (a1 : Int32) : s_X8_count σx a1 = s_X9_count σm a1 := by
  have hT := hR.2.2
  obtain ⟨⟨⟨E, G, HP, HU, HO, K, K2⟩, HC⟩, hF, -⟩ := hR
  obtain ⟨c1, c2, c3, c4, c5, c6, c7⟩ := HC
  obtain ⟨e1, e2, e3, e4, e5, e6, e7, e8, e9, e10, e11, e12, e13, e14, e15, e16, e17, e18⟩ := id E
  obtain ⟨g1, g2, g3, g4, g5, g6, g7, g8, g9, g10⟩ := id G
  have r4 : s_X8_rightsInForce σx = iter (s_X9_count_l102 σm) (σm 5 0).toNatClampNeg 0 (0 : Int32) := by
    unfold s_X8_rightsInForce s_X8_rightsInForce_c4
    try dsimp only
    rw [e4, Nat.sub_zero]
    refine it_sim (L := s_X8_rightsInForce_l4 σx) (M := s_X9_count_l102 σm) (P := fun _ (x y : Int32) => x = y) rfl _ (fun j x y hj ih => ?_)
    subst ih
    unfold s_X8_rightsInForce_l4 s_X9_count_l102
    try dsimp only
    rw [fo_eq E (Nat.lt_trans hj (tn_lt _)), Int32.add_zero]
  have r5 : s_X8_herdsNotLost σx = iter (s_X9_count_l136 σm) (σm 6 0).toNatClampNeg 0 (0 : Int32) := by
    unfold s_X8_herdsNotLost s_X8_herdsNotLost_c4
    try dsimp only
    rw [e5, Nat.sub_zero]
    refine it_sim (L := s_X8_herdsNotLost_l4 σx) (M := s_X9_count_l136 σm) (P := fun _ (x y : Int32) => x = y) rfl _ (fun j x y hj ih => ?_)
    subst ih
    unfold s_X8_herdsNotLost_l4 s_X9_count_l136
    try dsimp only
    rw [g1, Int32.add_zero]
  have r6 : s_X8_allGrass σx = iter (s_X9_count_l172 σm) (σm 2 0).toNatClampNeg 0 (0 : Int32) := by
    unfold s_X8_allGrass s_X8_allGrass_c4
    try dsimp only
    rw [e1, Nat.sub_zero]
    refine it_sim (L := s_X8_allGrass_l4 σx) (M := s_X9_count_l172 σm) (P := fun _ (x y : Int32) => x = y) rfl _ (fun j x y hj ih => ?_)
    subst ih
    unfold s_X8_allGrass_l4 s_X9_count_l172
    try dsimp only
    rw [c1]
  have r7 : s_X8_allHunger σx = σm 10 0 := by
    unfold s_X8_allHunger s_X8_allHunger_c4
    try dsimp only
    rw [e5, Nat.sub_zero, it_add (L := s_X8_allHunger_l4 σx) (f := σx 205) (fun k v => rfl), Int32.zero_add, c3]
    exact hT.1.symm
  have r8 : s_X8_allEaten σx = σm 11 0 := by
    unfold s_X8_allEaten s_X8_allEaten_c4
    try dsimp only
    rw [e1, Nat.sub_zero, it_add (L := s_X8_allEaten_l4 σx) (f := σx 405) (fun k v => rfl), Int32.zero_add, c2]
    exact hT.2.symm
  unfold s_X8_count s_X9_count
  rw [r4, r5, r6, r7, r8, e6, e1, e2, e3, g9, hF]
  by_cases hle : a1 ≤ 10
  · rw [if_pos hle]
    unfold s_X9_count_c102 s_X9_count_c136 s_X9_count_c172
    simp only [Nat.sub_zero]
    by_cases q0 : a1 = 0
    · rw [if_pos q0, if_pos q0]
    rw [if_neg q0, if_neg q0]
    by_cases q1 : a1 = 1
    · rw [if_pos q1, if_pos q1]
    rw [if_neg q1, if_neg q1]
    by_cases q2 : a1 = 2
    · rw [if_pos q2, if_pos q2]
    rw [if_neg q2, if_neg q2]
    by_cases q3 : a1 = 3
    · rw [if_pos q3, if_pos q3]
    rw [if_neg q3, if_neg q3]
    by_cases q4 : a1 = 4
    · rw [if_pos q4, if_pos q4]
    rw [if_neg q4, if_neg q4]
    by_cases q5 : a1 = 5
    · rw [if_pos q5, if_pos q5]
    rw [if_neg q5, if_neg q5]
    by_cases q6 : a1 = 6
    · rw [if_pos q6, if_pos q6]
    rw [if_neg q6, if_neg q6]
    by_cases q7 : a1 = 7
    · rw [if_pos q7, if_pos q7]
    rw [if_neg q7, if_neg q7]
    by_cases q8 : a1 = 8
    · rw [if_pos q8, if_pos q8]
    rw [if_neg q8, if_neg q8]
    by_cases q9 : a1 = 9
    · rw [if_pos q9, if_pos q9]
    rw [if_neg q9, if_neg q9]
    have lt : a1 < 11 := by
      rw [Int32.le_iff_toInt_le, show (10 : Int32).toInt = 10 by decide] at hle
      rw [Int32.lt_iff_toInt_lt, show (11 : Int32).toInt = 11 by decide]
      omega
    rw [if_pos lt]
  · rw [if_neg hle]
    have n : ∀ i : Int32, i ≤ 10 → ¬ a1 = i := fun i hi e => hle (by rw [e]; exact hi)
    have nlt : ¬ a1 < 11 := by
      rw [Int32.le_iff_toInt_le, show (10 : Int32).toInt = 10 by decide] at hle
      rw [Int32.lt_iff_toInt_lt, show (11 : Int32).toInt = 11 by decide]
      omega
    simp only [if_neg (n 0 (by decide)), if_neg (n 1 (by decide)), if_neg (n 2 (by decide)), if_neg (n 3 (by decide)), if_neg (n 4 (by decide)), if_neg (n 5 (by decide)), if_neg (n 6 (by decide)), if_neg (n 7 (by decide)), if_neg (n 8 (by decide)), if_neg (n 9 (by decide)), if_neg nlt]
    by_cases h17 : 17 ≤ a1
    · have g16 : (16 : Int32) < a1 := by
        rw [Int32.le_iff_toInt_le, show (17 : Int32).toInt = 17 by decide] at h17
        rw [Int32.lt_iff_toInt_lt, show (16 : Int32).toInt = 16 by decide]
        omega
      rw [if_pos h17, if_pos g16]
    · have g16 : ¬ (16 : Int32) < a1 := by
        rw [Int32.le_iff_toInt_le, show (17 : Int32).toInt = 17 by decide] at h17
        rw [Int32.lt_iff_toInt_lt, show (16 : Int32).toInt = 16 by decide]
        omega
      rw [if_neg h17, if_neg g16]
