def FXh : List Nat := [501, 591]
def FMh : List Nat := [20, 9, 3, 21, 4, 25, 26, 5]
def FMh3 : List Nat := [20, 9, 3]
def RH (σx σm : St) : Prop := σx 501 = σm 20 ∧ σx 591 0 = σm 9 0 ∧ (∀ o : Nat, (σm 3 0).toNatClampNeg ≤ o → σm 20 o = 0) ∧ KW σm
theorem rh_cast {σx σm τx τm : St} (R : RH σx σm) (x : ∀ f : Nat, f ∈ FXh → τx f = σx f) (m : ∀ f : Nat, f ∈ FMh → τm f = σm f) : RH τx τm := by
  unfold RH KW at R ⊢
  rw [x 501 (by decide), x 591 (by decide), m 20 (by decide), m 9 (by decide), m 3 (by decide), m 21 (by decide), m 4 (by decide), m 25 (by decide), m 26 (by decide), m 5 (by decide)]
  exact R
theorem rh_kw {σx σm τx τm : St} (R : RH σx σm) (x : ∀ f : Nat, f ∈ FXh → τx f = σx f) (m : ∀ f : Nat, f ∈ FMh3 → τm f = σm f) (W : KW τm) : RH τx τm := by
  obtain ⟨r1, r2, r3, -⟩ := R
  refine ⟨?_, ?_, ?_, W⟩
  · rw [x 501 (by decide), m 20 (by decide)]
    exact r1
  · rw [x 591 (by decide), m 9 (by decide)]
    exact r2
  · rw [m 20 (by decide), m 3 (by decide)]
    exact r3
def Rel (k : Nat) (σx σm : St) : Prop := RelC k σx σm ∧ RH σx σm
theorem rl_mono {k : Nat} {σx σm : St} (h : Rel k σx σm) : Rel (k + 1) σx σm := ⟨rlC_mono h.1, h.2⟩
theorem rel_0 : Rel 0 sx0 (fun _ _ => 0) := ⟨relC_0, rfl, rfl, fun _ _ => rfl, ⟨fun i h => absurd (show i < (0 : Int32).toNatClampNeg from h) (by rw [show (0 : Int32).toNatClampNeg = 0 by decide]; omega), fun i h => absurd (show i < (0 : Int32).toNatClampNeg from h) (by rw [show (0 : Int32).toNatClampNeg = 0 by decide]; omega)⟩⟩
theorem rh_ref {σx σm : St} (R : RH σx σm) (c d : Int32) : RH (s_X8_refuse σx c).2 (s_X9_refuse σm d).2 := rh_cast R (fun f hf => fr_s_X8_refuse σx c (fun e => absurd (e ▸ hf) (by decide))) (fun f hf => fr_s_X9_refuse σm d (fun e => absurd (e ▸ hf) (by decide)))
theorem kw_ref {σ : St} (W : KW σ) (d : Int32) : KW (s_X9_refuse σ d).2 := W
theorem kw_adds {σ : St} (hJ : IR σ) (W : KW σ) {kd wh pt la so pm : Int32} (hw : ¬ kd = 1 → vp_in wh (σ 3 0).toNatClampNeg) : KW (s_X9_adds σ kd wh pt la so pm).2 := by
  have hm : (σ 5 0 + 1).toNatClampNeg = (σ 5 0).toNatClampNeg + 1 := inc_n9 (N := 60) (ir_5 hJ) (by decide)
  refine ⟨W.1, fun i hi hk => ?_⟩
  replace hi : i < (σ 5 0 + 1).toNatClampNeg := hi
  replace hk : ¬ upd (σ 25) (σ 5 0).toNatClampNeg kd i = 1 := hk
  show vp_in (upd (σ 26) (σ 5 0).toNatClampNeg wh i) (σ 3 0).toNatClampNeg
  by_cases hq : i = (σ 5 0).toNatClampNeg
  · rw [hq, pk_us] at hk ⊢
    exact hw hk
  · rw [pk_un hq] at hk ⊢
    exact W.2 i (by omega) hk
theorem kw_right {σ : St} (hJ : IR σ) (W : KW σ) (a1 a2 a3 a4 a5 : Int32) : KW (s_X9_right σ a1 a2 a3 a4 a5).2 := by
  unfold s_X9_right
  by_cases q : s_X9_isIn a1 4 = 0
  · rw [if_pos q]; exact kw_ref W _
  rw [if_neg q]
  by_cases h1 : a1 = 1
  · rw [if_pos h1]
    by_cases q : s_X9_isIn a2 (σ 4 0) = 0
    · rw [if_pos q]; exact kw_ref W _
    rw [if_neg q]
    have n3 : ¬ a1 = 3 := fun e => by rw [e] at h1; exact absurd h1 (by decide)
    rw [if_neg n3]
    by_cases q : a3 < 1
    · rw [if_pos q]; exact kw_ref W _
    rw [if_neg q]
    by_cases q : σ 1 0 ≤ a4
    case neg => rw [if_neg q]; exact kw_ref W _
    rw [if_pos q]
    by_cases q : 10000 < a3
    · rw [if_pos q]; exact kw_ref W _
    rw [if_neg q]
    by_cases q : 720 < a4
    · rw [if_pos q]; exact kw_ref W _
    rw [if_neg q]
    by_cases q : σ 5 0 = 60
    · rw [if_pos q]; exact kw_ref W _
    rw [if_neg q]
    exact kw_adds hJ W (fun h => absurd h1 h)
  · rw [if_neg h1]
    by_cases h2 : s_X9_isIn a2 (σ 3 0) = 0
    · rw [if_pos h2]; exact kw_ref W _
    rw [if_neg h2]
    by_cases h3 : a1 = 3
    · rw [if_pos h3]
      by_cases q : s_X9_isIn a5 (σ 2 0) = 0
      · rw [if_pos q]; exact kw_ref W _
      rw [if_neg q]
      by_cases q : a3 < 1
      · rw [if_pos q]; exact kw_ref W _
      rw [if_neg q]
      by_cases q : σ 1 0 ≤ a4
      case neg => rw [if_neg q]; exact kw_ref W _
      rw [if_pos q]
      by_cases q : 10000 < a3
      · rw [if_pos q]; exact kw_ref W _
      rw [if_neg q]
      by_cases q : 720 < a4
      · rw [if_pos q]; exact kw_ref W _
      rw [if_neg q]
      by_cases q : σ 5 0 = 60
      · rw [if_pos q]; exact kw_ref W _
      rw [if_neg q]
      exact kw_adds hJ W (fun _ => in_vp.mpr h2)
    · rw [if_neg h3]
      by_cases q : a3 < 1
      · rw [if_pos q]; exact kw_ref W _
      rw [if_neg q]
      by_cases q : σ 1 0 ≤ a4
      case neg => rw [if_neg q]; exact kw_ref W _
      rw [if_pos q]
      by_cases q : 10000 < a3
      · rw [if_pos q]; exact kw_ref W _
      rw [if_neg q]
      by_cases q : 720 < a4
      · rw [if_pos q]; exact kw_ref W _
      rw [if_neg q]
      by_cases q : σ 5 0 = 60
      · rw [if_pos q]; exact kw_ref W _
      rw [if_neg q]
      exact kw_adds hJ W (fun _ => in_vp.mpr h2)
theorem kw_lend {σ : St} (hJ : IR σ) (W : KW σ) (a1 a2 a3 a4 : Int32) : KW (s_X9_lend σ a1 a2 a3 a4).2 := by
  unfold s_X9_lend
  by_cases q : s_X9_isIn a1 (σ 5 0) = 0
  · rw [if_pos q]; exact kw_ref W _
  rw [if_neg q]
  by_cases h2 : s_X9_isIn a2 (σ 3 0) = 0
  · rw [if_pos h2]; exact kw_ref W _
  rw [if_neg h2]
  by_cases q : s_X9_ownerOfRight σ a1 = a2
  · rw [if_pos q]; exact kw_ref W _
  rw [if_neg q]
  by_cases q : σ 25 a1.toNatClampNeg = 0
  case neg => rw [if_neg q]; exact kw_ref W _
  rw [if_pos q]
  by_cases q : s_X9_isInForce σ a1 = 0
  · rw [if_pos q]; exact kw_ref W _
  rw [if_neg q]
  by_cases q : a3 < 1
  · rw [if_pos q]; exact kw_ref W _
  rw [if_neg q]
  by_cases q : σ 1 0 ≤ a4
  case neg => rw [if_neg q]; exact kw_ref W _
  rw [if_pos q]
  by_cases q : a3 ≤ s_X9_partsOf σ a1
  case neg => rw [if_neg q]; exact kw_ref W _
  rw [if_pos q]
  by_cases q : σ 29 a1.toNatClampNeg < a4
  · rw [if_pos q]; exact kw_ref W _
  rw [if_neg q]
  by_cases q : σ 5 0 = 60
  · rw [if_pos q]; exact kw_ref W _
  rw [if_neg q]
  exact kw_adds hJ W (fun _ => in_vp.mpr h2)
theorem kw_sell {σ : St} (W : KW σ) (a1 a2 : Int32) : KW (s_X9_sell σ a1 a2).2 := by
  unfold s_X9_sell
  by_cases q : s_X9_isIn a1 (σ 5 0) = 0
  · rw [if_pos q]; exact kw_ref W _
  rw [if_neg q]
  by_cases h2 : s_X9_isIn a2 (σ 3 0) = 0
  · rw [if_pos h2]; exact kw_ref W _
  rw [if_neg h2]
  by_cases q : s_X9_ownerOfRight σ a1 = a2
  · rw [if_pos q]; exact kw_ref W _
  rw [if_neg q]
  by_cases q : σ 25 a1.toNatClampNeg = 0
  case neg => rw [if_neg q]; exact kw_ref W _
  rw [if_pos q]
  by_cases q : s_X9_isInForce σ a1 = 0
  · rw [if_pos q]; exact kw_ref W _
  rw [if_neg q]
  refine ⟨W.1, fun i hi hk => ?_⟩
  show vp_in (upd (σ 26) a1.toNatClampNeg a2 i) (σ 3 0).toNatClampNeg
  by_cases hq : i = a1.toNatClampNeg
  · rw [hq, pk_us]
    exact in_vp.mpr h2
  · rw [pk_un hq]
    exact W.2 i hi hk
theorem rl_piece {k : Nat} {σx σm : St} (hk : k ≤ 511) (hI : IX σx) (hJ : IR σm) (hJR : JR σm) (hR : Rel k σx σm) (a1 a2 a3 a4 : Int32) (h4 : a4 = 0 ∨ a4 = 1) : Rel (k + 1) (s_X8_piece σx a1 a2 a3 a4).2 (s_X9_piece σm a1 a2 a3 a4).2 := ⟨rlC_piece hk hI hJ hJR hR.1 a1 a2 a3 a4 h4, rh_cast hR.2 (fun f hf => fr_s_X8_piece σx a1 a2 a3 a4 (fun e => absurd (e ▸ hf) (by decide)) (fun e => absurd (e ▸ hf) (by decide)) (fun e => absurd (e ▸ hf) (by decide)) (fun e => absurd (e ▸ hf) (by decide)) (fun e => absurd (e ▸ hf) (by decide)) (fun e => absurd (e ▸ hf) (by decide)) (fun e => absurd (e ▸ hf) (by decide)) (fun e => absurd (e ▸ hf) (by decide))) (fun f hf => fr_s_X9_piece σm a1 a2 a3 a4 (fun e => absurd (e ▸ hf) (by decide)) (fun e => absurd (e ▸ hf) (by decide)) (fun e => absurd (e ▸ hf) (by decide)) (fun e => absurd (e ▸ hf) (by decide)) (fun e => absurd (e ▸ hf) (by decide)) (fun e => absurd (e ▸ hf) (by decide)) (fun e => absurd (e ▸ hf) (by decide)))⟩
theorem rl_rate {k : Nat} {σx σm : St} (hk : k ≤ 511) (hI : IX σx) (hJ : IR σm) (hJR : JR σm) (hR : Rel k σx σm) (a1 a2 a3 : Int32) : Rel (k + 1) (s_X8_rate σx a1 a2 a3).2 (s_X9_rate σm a1 a2 a3).2 := ⟨rlC_rate hk hI hJ hJR hR.1 a1 a2 a3, rh_cast hR.2 (fun f hf => fr_s_X8_rate σx a1 a2 a3 (fun e => absurd (e ▸ hf) (by decide)) (fun e => absurd (e ▸ hf) (by decide))) (fun f hf => fr_s_X9_rate σm a1 a2 a3 (fun e => absurd (e ▸ hf) (by decide)) (fun e => absurd (e ▸ hf) (by decide)))⟩
theorem rl_weather {k : Nat} {σx σm : St} (hk : k ≤ 511) (hI : IX σx) (hJ : IR σm) (hJR : JR σm) (hR : Rel k σx σm) (a1 a2 a3 : Int32) : Rel (k + 1) (s_X8_weather σx a1 a2 a3).2 (s_X9_weather σm a1 a2 a3).2 := ⟨rlC_weather hk hI hJ hJR hR.1 a1 a2 a3, rh_cast hR.2 (fun f hf => fr_s_X8_weather σx a1 a2 a3 (fun e => absurd (e ▸ hf) (by decide)) (fun e => absurd (e ▸ hf) (by decide))) (fun f hf => fr_s_X9_weather σm a1 a2 a3 (fun e => absurd (e ▸ hf) (by decide)) (fun e => absurd (e ▸ hf) (by decide)) (fun e => absurd (e ▸ hf) (by decide)))⟩
theorem rl_herd {k : Nat} {σx σm : St} (hk : k ≤ 511) (hI : IX σx) (hJ : IR σm) (hJR : JR σm) (hR : Rel k σx σm) (a1 a2 a3 : Int32) : Rel (k + 1) (s_X8_herd σx a1 a2 a3).2 (s_X9_herd σm a1 a2 a3).2 := ⟨rlC_herd hk hI hJ hJR hR.1 a1 a2 a3, rh_cast hR.2 (fun f hf => fr_s_X8_herd σx a1 a2 a3 (fun e => absurd (e ▸ hf) (by decide)) (fun e => absurd (e ▸ hf) (by decide)) (fun e => absurd (e ▸ hf) (by decide)) (fun e => absurd (e ▸ hf) (by decide)) (fun e => absurd (e ▸ hf) (by decide)) (fun e => absurd (e ▸ hf) (by decide)) (fun e => absurd (e ▸ hf) (by decide)) (fun e => absurd (e ▸ hf) (by decide)) (fun e => absurd (e ▸ hf) (by decide)) (fun e => absurd (e ▸ hf) (by decide))) (fun f hf => fr_s_X9_herd σm a1 a2 a3 (fun e => absurd (e ▸ hf) (by decide)) (fun e => absurd (e ▸ hf) (by decide)) (fun e => absurd (e ▸ hf) (by decide)) (fun e => absurd (e ▸ hf) (by decide)) (fun e => absurd (e ▸ hf) (by decide)) (fun e => absurd (e ▸ hf) (by decide)))⟩
theorem rl_put {k : Nat} {σx σm : St} (hk : k ≤ 511) (hI : IX σx) (hJ : IR σm) (hJR : JR σm) (hR : Rel k σx σm) (a1 a2 : Int32) : Rel (k + 1) (s_X8_put σx a1 a2).2 (s_X9_put σm a1 a2).2 := ⟨rlC_put hk hI hJ hJR hR.1 a1 a2, rh_cast hR.2 (fun f hf => fr_s_X8_put σx a1 a2 (fun e => absurd (e ▸ hf) (by decide)) (fun e => absurd (e ▸ hf) (by decide)) (fun e => absurd (e ▸ hf) (by decide)) (fun e => absurd (e ▸ hf) (by decide)) (fun e => absurd (e ▸ hf) (by decide)) (fun e => absurd (e ▸ hf) (by decide)) (fun e => absurd (e ▸ hf) (by decide)) (fun e => absurd (e ▸ hf) (by decide)) (fun e => absurd (e ▸ hf) (by decide))) (fun f hf => fr_s_X9_put σm a1 a2 (fun e => absurd (e ▸ hf) (by decide)) (fun e => absurd (e ▸ hf) (by decide)) (fun e => absurd (e ▸ hf) (by decide)) (fun e => absurd (e ▸ hf) (by decide)))⟩
theorem rl_drive {k : Nat} {σx σm : St} (hk : k ≤ 511) (hI : IX σx) (hJ : IR σm) (hJR : JR σm) (hR : Rel k σx σm) (a1 a2 : Int32) : Rel (k + 1) (s_X8_drive σx a1 a2).2 (s_X9_drive σm a1 a2).2 := ⟨rlC_drive hk hI hJ hJR hR.1 a1 a2, rh_cast hR.2 (fun f hf => fr_s_X8_drive σx a1 a2 (fun e => absurd (e ▸ hf) (by decide)) (fun e => absurd (e ▸ hf) (by decide)) (fun e => absurd (e ▸ hf) (by decide)) (fun e => absurd (e ▸ hf) (by decide))) (fun f hf => fr_s_X9_drive σm a1 a2 (fun e => absurd (e ▸ hf) (by decide)) (fun e => absurd (e ▸ hf) (by decide)) (fun e => absurd (e ▸ hf) (by decide)) (fun e => absurd (e ▸ hf) (by decide)))⟩
theorem rl_covered {k : Nat} {σx σm : St} (hk : k ≤ 511) (hI : IX σx) (hJ : IR σm) (hJR : JR σm) (hR : Rel k σx σm) (a1 : Int32) : Rel (k + 1) (s_X8_covered σx a1).2 (s_X9_covered σm a1).2 := ⟨rlC_covered hk hI hJ hJR hR.1 a1, rh_cast hR.2 (fun f hf => fr_s_X8_covered σx a1 (fun e => absurd (e ▸ hf) (by decide)) (fun e => absurd (e ▸ hf) (by decide)) (fun e => absurd (e ▸ hf) (by decide)) (fun e => absurd (e ▸ hf) (by decide)) (fun e => absurd (e ▸ hf) (by decide)) (fun e => absurd (e ▸ hf) (by decide))) (fun f hf => fr_s_X9_covered σm a1 (fun e => absurd (e ▸ hf) (by decide)))⟩
theorem rl_lacks {k : Nat} {σx σm : St} (hk : k ≤ 511) (hI : IX σx) (hJ : IR σm) (hJR : JR σm) (hR : Rel k σx σm) (a1 : Int32) : Rel (k + 1) (s_X8_lacks σx a1).2 (s_X9_lacks σm a1).2 := ⟨rlC_lacks hk hI hJ hJR hR.1 a1, rh_cast hR.2 (fun f hf => fr_s_X8_lacks σx a1 (fun e => absurd (e ▸ hf) (by decide)) (fun e => absurd (e ▸ hf) (by decide)) (fun e => absurd (e ▸ hf) (by decide)) (fun e => absurd (e ▸ hf) (by decide)) (fun e => absurd (e ▸ hf) (by decide)) (fun e => absurd (e ▸ hf) (by decide))) (fun f hf => fr_s_X9_lacks σm a1 (fun e => absurd (e ▸ hf) (by decide)))⟩
theorem rl_over {k : Nat} {σx σm : St} (hk : k ≤ 511) (hI : IX σx) (hJ : IR σm) (hJR : JR σm) (hR : Rel k σx σm) (a1 a2 : Int32) : Rel (k + 1) (s_X8_over σx a1 a2).2 (s_X9_over σm a1 a2).2 := ⟨rlC_over hk hI hJ hJR hR.1 a1 a2, rh_cast hR.2 (fun f hf => fr_s_X8_over σx a1 a2 (fun e => absurd (e ▸ hf) (by decide))) (fun f hf => fr_s_X9_over σm a1 a2 (fun e => absurd (e ▸ hf) (by decide)))⟩
theorem rl_pass {k : Nat} {σx σm : St} (hk : k ≤ 511) (hI : IX σx) (hJ : IR σm) (hJR : JR σm) (hR : Rel k σx σm) (a1 : Int32) : Rel (k + 1) (s_X8_pass σx a1).2 (s_X9_pass σm a1).2 := ⟨rlC_pass hk hI hJ hJR hR.1 a1, rh_cast hR.2 (fun f hf => fr_s_X8_pass σx a1 (fun e => absurd (e ▸ hf) (by decide)) (fun e => absurd (e ▸ hf) (by decide)) (fun e => absurd (e ▸ hf) (by decide)) (fun e => absurd (e ▸ hf) (by decide)) (fun e => absurd (e ▸ hf) (by decide)) (fun e => absurd (e ▸ hf) (by decide)) (fun e => absurd (e ▸ hf) (by decide)) (fun e => absurd (e ▸ hf) (by decide)) (fun e => absurd (e ▸ hf) (by decide)) (fun e => absurd (e ▸ hf) (by decide)) (fun e => absurd (e ▸ hf) (by decide)) (fun e => absurd (e ▸ hf) (by decide)) (fun e => absurd (e ▸ hf) (by decide)) (fun e => absurd (e ▸ hf) (by decide)) (fun e => absurd (e ▸ hf) (by decide)) (fun e => absurd (e ▸ hf) (by decide)) (fun e => absurd (e ▸ hf) (by decide)) (fun e => absurd (e ▸ hf) (by decide))) (fun f hf => fr_s_X9_pass σm a1 (fun e => absurd (e ▸ hf) (by decide)) (fun e => absurd (e ▸ hf) (by decide)) (fun e => absurd (e ▸ hf) (by decide)) (fun e => absurd (e ▸ hf) (by decide)) (fun e => absurd (e ▸ hf) (by decide)) (fun e => absurd (e ▸ hf) (by decide)) (fun e => absurd (e ▸ hf) (by decide)) (fun e => absurd (e ▸ hf) (by decide)) (fun e => absurd (e ▸ hf) (by decide)) (fun e => absurd (e ▸ hf) (by decide)) (fun e => absurd (e ▸ hf) (by decide)) (fun e => absurd (e ▸ hf) (by decide)) (fun e => absurd (e ▸ hf) (by decide)) (fun e => absurd (e ▸ hf) (by decide)) (fun e => absurd (e ▸ hf) (by decide)) (fun e => absurd (e ▸ hf) (by decide)) (fun e => absurd (e ▸ hf) (by decide)))⟩
theorem rl_rest {k : Nat} {σx σm : St} (hk : k ≤ 511) (hI : IX σx) (hJ : IR σm) (hJR : JR σm) (hR : Rel k σx σm) (a1 a2 : Int32) : Rel (k + 1) (s_X8_rest σx a1 a2).2 (s_X9_rest σm a1 a2).2 := ⟨rlC_rest hk hI hJ hJR hR.1 a1 a2, rh_cast hR.2 (fun f hf => fr_s_X8_rest σx a1 a2 (fun e => absurd (e ▸ hf) (by decide)) (fun e => absurd (e ▸ hf) (by decide))) (fun f hf => fr_s_X9_rest σm a1 a2 (fun e => absurd (e ▸ hf) (by decide)) (fun e => absurd (e ▸ hf) (by decide)))⟩
theorem rl_pound {k : Nat} {σx σm : St} (hk : k ≤ 511) (hI : IX σx) (hJ : IR σm) (hJR : JR σm) (hR : Rel k σx σm) (a1 : Int32) : Rel (k + 1) (s_X8_pound σx a1).2 (s_X9_pound σm a1).2 := ⟨rlC_pound hk hI hJ hJR hR.1 a1, rh_cast hR.2 (fun f hf => fr_s_X8_pound σx a1 (fun e => absurd (e ▸ hf) (by decide)) (fun e => absurd (e ▸ hf) (by decide)) (fun e => absurd (e ▸ hf) (by decide)) (fun e => absurd (e ▸ hf) (by decide)) (fun e => absurd (e ▸ hf) (by decide)) (fun e => absurd (e ▸ hf) (by decide)) (fun e => absurd (e ▸ hf) (by decide)) (fun e => absurd (e ▸ hf) (by decide)) (fun e => absurd (e ▸ hf) (by decide))) (fun f hf => fr_s_X9_pound σm a1 (fun e => absurd (e ▸ hf) (by decide)) (fun e => absurd (e ▸ hf) (by decide)) (fun e => absurd (e ▸ hf) (by decide)) (fun e => absurd (e ▸ hf) (by decide)))⟩
theorem rl_free {k : Nat} {σx σm : St} (hk : k ≤ 511) (hI : IX σx) (hJ : IR σm) (hJR : JR σm) (hR : Rel k σx σm) (a1 : Int32) : Rel (k + 1) (s_X8_free σx a1).2 (s_X9_free σm a1).2 := ⟨rlC_free hk hI hJ hJR hR.1 a1, rh_cast hR.2 (fun f hf => fr_s_X8_free σx a1 (fun e => absurd (e ▸ hf) (by decide)) (fun e => absurd (e ▸ hf) (by decide)) (fun e => absurd (e ▸ hf) (by decide)) (fun e => absurd (e ▸ hf) (by decide))) (fun f hf => fr_s_X9_free σm a1 (fun e => absurd (e ▸ hf) (by decide)) (fun e => absurd (e ▸ hf) (by decide)) (fun e => absurd (e ▸ hf) (by decide)) (fun e => absurd (e ▸ hf) (by decide)))⟩
theorem rl_plan {k : Nat} {σx σm : St} (hk : k ≤ 511) (hI : IX σx) (hJ : IR σm) (hJR : JR σm) (hR : Rel k σx σm) (a1 a2 a3 a4 : Int32) : Rel (k + 1) (s_X8_plan σx a1 a2 a3 a4).2 (s_X9_plan σm a1 a2 a3 a4).2 := ⟨rlC_plan hk hI hJ hJR hR.1 a1 a2 a3 a4, rh_cast hR.2 (fun f hf => fr_s_X8_plan σx a1 a2 a3 a4 (fun e => absurd (e ▸ hf) (by decide)) (fun e => absurd (e ▸ hf) (by decide)) (fun e => absurd (e ▸ hf) (by decide)) (fun e => absurd (e ▸ hf) (by decide)) (fun e => absurd (e ▸ hf) (by decide)) (fun e => absurd (e ▸ hf) (by decide)) (fun e => absurd (e ▸ hf) (by decide)) (fun e => absurd (e ▸ hf) (by decide)) (fun e => absurd (e ▸ hf) (by decide)) (fun e => absurd (e ▸ hf) (by decide)) (fun e => absurd (e ▸ hf) (by decide)) (fun e => absurd (e ▸ hf) (by decide)) (fun e => absurd (e ▸ hf) (by decide)) (fun e => absurd (e ▸ hf) (by decide)) (fun e => absurd (e ▸ hf) (by decide)) (fun e => absurd (e ▸ hf) (by decide)) (fun e => absurd (e ▸ hf) (by decide)) (fun e => absurd (e ▸ hf) (by decide)) (fun e => absurd (e ▸ hf) (by decide)) (fun e => absurd (e ▸ hf) (by decide)) (fun e => absurd (e ▸ hf) (by decide)) (fun e => absurd (e ▸ hf) (by decide)) (fun e => absurd (e ▸ hf) (by decide))) (fun f hf => fr_s_X9_plan σm a1 a2 a3 a4 (fun e => absurd (e ▸ hf) (by decide)) (fun e => absurd (e ▸ hf) (by decide)) (fun e => absurd (e ▸ hf) (by decide)) (fun e => absurd (e ▸ hf) (by decide)) (fun e => absurd (e ▸ hf) (by decide)) (fun e => absurd (e ▸ hf) (by decide)) (fun e => absurd (e ▸ hf) (by decide)) (fun e => absurd (e ▸ hf) (by decide)) (fun e => absurd (e ▸ hf) (by decide)))⟩
theorem rl_pieceOf {k : Nat} {σx σm : St} (hk : k ≤ 511) (hI : IX σx) (hJ : IR σm) (hJR : JR σm) (hR : Rel k σx σm) (a1 a2 : Int32) : Rel (k + 1) (s_X8_pieceOf σx a1 a2).2 (s_X9_pieceOf σm a1 a2).2 := ⟨rlC_pieceOf hk hI hJ hJR hR.1 a1 a2, rh_cast hR.2 (fun f hf => fr_s_X8_pieceOf σx a1 a2 (fun e => absurd (e ▸ hf) (by decide))) (fun f hf => fr_s_X9_pieceOf σm a1 a2 (fun e => absurd (e ▸ hf) (by decide)))⟩
theorem rl_rightOf {k : Nat} {σx σm : St} (hk : k ≤ 511) (hI : IX σx) (hJ : IR σm) (hJR : JR σm) (hR : Rel k σx σm) (a1 a2 : Int32) : Rel (k + 1) (s_X8_rightOf σx a1 a2).2 (s_X9_rightOf σm a1 a2).2 := ⟨rlC_rightOf hk hI hJ hJR hR.1 a1 a2, rh_cast hR.2 (fun f hf => fr_s_X8_rightOf σx a1 a2 (fun e => absurd (e ▸ hf) (by decide))) (fun f hf => fr_s_X9_rightOf σm a1 a2 (fun e => absurd (e ▸ hf) (by decide)))⟩
theorem rl_herdOf {k : Nat} {σx σm : St} (hk : k ≤ 511) (hI : IX σx) (hJ : IR σm) (hJR : JR σm) (hR : Rel k σx σm) (a1 a2 : Int32) : Rel (k + 1) (s_X8_herdOf σx a1 a2).2 (s_X9_herdOf σm a1 a2).2 := ⟨rlC_herdOf hk hI hJ hJR hR.1 a1 a2, rh_cast hR.2 (fun f hf => fr_s_X8_herdOf σx a1 a2 (fun e => absurd (e ▸ hf) (by decide))) (fun f hf => fr_s_X9_herdOf σm a1 a2 (fun e => absurd (e ▸ hf) (by decide)))⟩
theorem rl_ownerOf {k : Nat} {σx σm : St} (hk : k ≤ 511) (hI : IX σx) (hJ : IR σm) (hJR : JR σm) (hR : Rel k σx σm) (a1 a2 : Int32) : Rel (k + 1) (s_X8_ownerOf σx a1 a2).2 (s_X9_ownerOf σm a1 a2).2 := ⟨rlC_ownerOf hk hI hJ hJR hR.1 a1 a2, rh_cast hR.2 (fun f hf => fr_s_X8_ownerOf σx a1 a2 (fun e => absurd (e ▸ hf) (by decide)) (fun e => absurd (e ▸ hf) (by decide)) (fun e => absurd (e ▸ hf) (by decide)) (fun e => absurd (e ▸ hf) (by decide)) (fun e => absurd (e ▸ hf) (by decide)) (fun e => absurd (e ▸ hf) (by decide))) (fun f hf => fr_s_X9_ownerOf σm a1 a2 (fun e => absurd (e ▸ hf) (by decide)))⟩
theorem rl_right {k : Nat} {σx σm : St} (hk : k ≤ 511) (hI : IX σx) (hJ : IR σm) (hJR : JR σm) (hR : Rel k σx σm) (a1 a2 a3 a4 a5 : Int32) : Rel (k + 1) (s_X8_right σx a1 a2 a3 a4 a5).2 (s_X9_right σm a1 a2 a3 a4 a5).2 := ⟨rlC_right hk hI hJ hJR hR.1 a1 a2 a3 a4 a5, rh_kw hR.2 (fun f hf => fr_s_X8_right σx a1 a2 a3 a4 a5 (fun e => absurd (e ▸ hf) (by decide)) (fun e => absurd (e ▸ hf) (by decide)) (fun e => absurd (e ▸ hf) (by decide)) (fun e => absurd (e ▸ hf) (by decide)) (fun e => absurd (e ▸ hf) (by decide)) (fun e => absurd (e ▸ hf) (by decide)) (fun e => absurd (e ▸ hf) (by decide)) (fun e => absurd (e ▸ hf) (by decide)) (fun e => absurd (e ▸ hf) (by decide)) (fun e => absurd (e ▸ hf) (by decide)) (fun e => absurd (e ▸ hf) (by decide))) (fun f hf => fr_s_X9_right σm a1 a2 a3 a4 a5 (fun e => absurd (e ▸ hf) (by decide)) (fun e => absurd (e ▸ hf) (by decide)) (fun e => absurd (e ▸ hf) (by decide)) (fun e => absurd (e ▸ hf) (by decide)) (fun e => absurd (e ▸ hf) (by decide)) (fun e => absurd (e ▸ hf) (by decide)) (fun e => absurd (e ▸ hf) (by decide)) (fun e => absurd (e ▸ hf) (by decide)) (fun e => absurd (e ▸ hf) (by decide)) (fun e => absurd (e ▸ hf) (by decide))) (kw_right hJ hR.2.2.2.2 a1 a2 a3 a4 a5)⟩
theorem rl_lend {k : Nat} {σx σm : St} (hk : k ≤ 511) (hI : IX σx) (hJ : IR σm) (hJR : JR σm) (hR : Rel k σx σm) (a1 a2 a3 a4 : Int32) : Rel (k + 1) (s_X8_lend σx a1 a2 a3 a4).2 (s_X9_lend σm a1 a2 a3 a4).2 := ⟨rlC_lend hk hI hJ hJR hR.1 a1 a2 a3 a4, rh_kw hR.2 (fun f hf => fr_s_X8_lend σx a1 a2 a3 a4 (fun e => absurd (e ▸ hf) (by decide)) (fun e => absurd (e ▸ hf) (by decide)) (fun e => absurd (e ▸ hf) (by decide)) (fun e => absurd (e ▸ hf) (by decide)) (fun e => absurd (e ▸ hf) (by decide)) (fun e => absurd (e ▸ hf) (by decide)) (fun e => absurd (e ▸ hf) (by decide)) (fun e => absurd (e ▸ hf) (by decide)) (fun e => absurd (e ▸ hf) (by decide)) (fun e => absurd (e ▸ hf) (by decide)) (fun e => absurd (e ▸ hf) (by decide))) (fun f hf => fr_s_X9_lend σm a1 a2 a3 a4 (fun e => absurd (e ▸ hf) (by decide)) (fun e => absurd (e ▸ hf) (by decide)) (fun e => absurd (e ▸ hf) (by decide)) (fun e => absurd (e ▸ hf) (by decide)) (fun e => absurd (e ▸ hf) (by decide)) (fun e => absurd (e ▸ hf) (by decide)) (fun e => absurd (e ▸ hf) (by decide)) (fun e => absurd (e ▸ hf) (by decide)) (fun e => absurd (e ▸ hf) (by decide)) (fun e => absurd (e ▸ hf) (by decide))) (kw_lend hJ hR.2.2.2.2 a1 a2 a3 a4)⟩
theorem rl_sell {k : Nat} {σx σm : St} (hk : k ≤ 511) (hI : IX σx) (hJ : IR σm) (hJR : JR σm) (hR : Rel k σx σm) (a1 a2 : Int32) : Rel (k + 1) (s_X8_sell σx a1 a2).2 (s_X9_sell σm a1 a2).2 := ⟨rlC_sell hk hI hJ hJR hR.1 a1 a2, rh_kw hR.2 (fun f hf => fr_s_X8_sell σx a1 a2 (fun e => absurd (e ▸ hf) (by decide)) (fun e => absurd (e ▸ hf) (by decide))) (fun f hf => fr_s_X9_sell σm a1 a2 (fun e => absurd (e ▸ hf) (by decide)) (fun e => absurd (e ▸ hf) (by decide))) (kw_sell hR.2.2.2.2 a1 a2)⟩
set_option maxRecDepth 20000 in
theorem rh_owner {k : Nat} {σx σm : St} (hk : k ≤ 511) (hI : IX σx) (hJ : IR σm) (hJR : JR σm) (hR : Rel k σx σm) (a1 : Int32) : RH (s_X8_owner σx a1).2 (s_X9_owner σm a1).2 := by
  obtain ⟨⟨⟨E, G, HP, -, -, K, -⟩, HC⟩, HH⟩ := hR
  have hH0 := HH
  obtain ⟨q1, q2, q3, W⟩ := HH
  obtain ⟨c1, -⟩ := id HC
  obtain ⟨e1, e2, e3, e4, e5, e6, e7, e8, e9, e10, e11, e12, e13, e14, e15, e16, e17, e18⟩ := id E
  obtain ⟨g1, g2, g3, g4, g5, g6, g7, g8, g9, g10⟩ := id G
  unfold s_X8_owner s_X9_owner
  have hc : (σm 3 0 < 10) = ¬ (σm 3 0 = 10) := ra_lt (N := 10) (ir_3 hJ) (by decide)
  simp only [hc, ite_not, ra_io, ra_ih, ra_ip, ra_ir, ra_ie, ra_iw, ra_mc, e1, e2, e3, e4, e5, e6, e7, e8, e9, e10, e11, e12, e13, e14, e15, e16, e17, e18, g1, g2, g3, g4, g5, g6, g7, g8, g9, g10]
  by_cases h_1 : 0 ≤ a1
  case neg => simp only [if_neg h_1, ra_10, not_true_eq_false, not_false_eq_true, ↓reduceIte]; exact rh_ref hH0 _ _
  case pos =>
    simp only [if_pos h_1, ra_10, not_true_eq_false, not_false_eq_true, ↓reduceIte]
    by_cases h_2 : 100000 < a1
    · simp only [if_pos h_2, ra_10, not_true_eq_false, not_false_eq_true, ↓reduceIte]
      exact rh_ref hH0 _ _
    · simp only [if_neg h_2, ra_10, not_true_eq_false, not_false_eq_true, ↓reduceIte]
      by_cases h_3 : σm 3 0 = 10
      · simp only [if_pos h_3, ra_10, not_true_eq_false, not_false_eq_true, ↓reduceIte]
        exact rh_ref hH0 _ _
      · simp only [if_neg h_3, ra_10, not_true_eq_false, not_false_eq_true, ↓reduceIte]
        have hle : (σm 3 0).toNatClampNeg ≤ (σm 3 0 + 1).toNatClampNeg := by rw [inc_n9 (N := 10) (ir_3 hJ) (by decide)]; omega
        refine ⟨(ra_u q1 _ _).trans (upd_id (q3 _ (Nat.le_refl _))), q2, fun o ho => ?_, fun i hi => vpm_9 (W.1 i hi) hle, fun i hi hk2 => vpm_9 (W.2 i hi hk2) hle⟩
        replace ho : (σm 3 0 + 1).toNatClampNeg ≤ o := ho
        exact q3 o (by omega)
theorem rl_owner {k : Nat} {σx σm : St} (hk : k ≤ 511) (hI : IX σx) (hJ : IR σm) (hJR : JR σm) (hR : Rel k σx σm) (a1 : Int32) : Rel (k + 1) (s_X8_owner σx a1).2 (s_X9_owner σm a1).2 := ⟨rlC_owner hk hI hJ hJR hR.1 a1, rh_owner hk hI hJ hJR hR a1⟩
set_option maxRecDepth 20000 in
theorem rh_house {k : Nat} {σx σm : St} (hk : k ≤ 511) (hI : IX σx) (hJ : IR σm) (hJR : JR σm) (hR : Rel k σx σm) (a1 : Int32) : RH (s_X8_house σx a1).2 (s_X9_house σm a1).2 := by
  obtain ⟨⟨⟨E, G, HP, -, -, K, -⟩, HC⟩, HH⟩ := hR
  have hH0 := HH
  obtain ⟨q1, q2, q3, W⟩ := HH
  obtain ⟨c1, -⟩ := id HC
  obtain ⟨e1, e2, e3, e4, e5, e6, e7, e8, e9, e10, e11, e12, e13, e14, e15, e16, e17, e18⟩ := id E
  obtain ⟨g1, g2, g3, g4, g5, g6, g7, g8, g9, g10⟩ := id G
  unfold s_X8_house s_X9_house
  have hc : (σm 4 0 < 10) = ¬ (σm 4 0 = 10) := ra_lt (N := 10) (ir_4 hJ) (by decide)
  simp only [hc, ite_not, ra_io, ra_ih, ra_ip, ra_ir, ra_ie, ra_iw, ra_mc, e1, e2, e3, e4, e5, e6, e7, e8, e9, e10, e11, e12, e13, e14, e15, e16, e17, e18, g1, g2, g3, g4, g5, g6, g7, g8, g9, g10]
  by_cases h_1 : s_X9_isIn a1 (σm 3 0) = 0
  · simp only [if_pos h_1, ra_10, not_true_eq_false, not_false_eq_true, ↓reduceIte]
    exact rh_ref hH0 _ _
  · simp only [if_neg h_1, ra_10, not_true_eq_false, not_false_eq_true, ↓reduceIte]
    by_cases h_2 : σm 4 0 = 10
    · simp only [if_pos h_2, ra_10, not_true_eq_false, not_false_eq_true, ↓reduceIte]
      exact rh_ref hH0 _ _
    · simp only [if_neg h_2, ra_10, not_true_eq_false, not_false_eq_true, ↓reduceIte]
      have hm : (σm 4 0 + 1).toNatClampNeg = (σm 4 0).toNatClampNeg + 1 := inc_n9 (N := 10) (ir_4 hJ) (by decide)
      refine ⟨q1, q2, q3, fun i hi => ?_, W.2⟩
      replace hi : i < (σm 4 0 + 1).toNatClampNeg := hi
      show vp_in (upd (σm 21) (σm 4 0).toNatClampNeg a1 i) (σm 3 0).toNatClampNeg
      by_cases hq : i = (σm 4 0).toNatClampNeg
      · rw [hq, pk_us]
        exact in_vp.mpr h_1
      · rw [pk_un hq]
        exact W.1 i (by omega)
theorem rl_house {k : Nat} {σx σm : St} (hk : k ≤ 511) (hI : IX σx) (hJ : IR σm) (hJR : JR σm) (hR : Rel k σx σm) (a1 : Int32) : Rel (k + 1) (s_X8_house σx a1).2 (s_X9_house σm a1).2 := ⟨rlC_house hk hI hJ hJR hR.1 a1, rh_house hk hI hJ hJR hR a1⟩
set_option maxRecDepth 20000 in
theorem rh_move {k : Nat} {σx σm : St} (hk : k ≤ 511) (hI : IX σx) (hJ : IR σm) (hJR : JR σm) (hR : Rel k σx σm) (a1 a2 : Int32) : RH (s_X8_move σx a1 a2).2 (s_X9_move σm a1 a2).2 := by
  obtain ⟨⟨⟨E, G, HP, -, -, K, -⟩, HC⟩, HH⟩ := hR
  have hH0 := HH
  obtain ⟨q1, q2, q3, W⟩ := HH
  obtain ⟨c1, -⟩ := id HC
  obtain ⟨e1, e2, e3, e4, e5, e6, e7, e8, e9, e10, e11, e12, e13, e14, e15, e16, e17, e18⟩ := id E
  obtain ⟨g1, g2, g3, g4, g5, g6, g7, g8, g9, g10⟩ := id G
  unfold s_X8_move s_X9_move
  simp only [ite_not, ra_io, ra_ih, ra_ip, ra_ir, ra_ie, ra_iw, ra_mc, e1, e2, e3, e4, e5, e6, e7, e8, e9, e10, e11, e12, e13, e14, e15, e16, e17, e18, g1, g2, g3, g4, g5, g6, g7, g8, g9, g10]
  by_cases h_1 : s_X9_isIn a1 (σm 4 0) = 0
  · simp only [if_pos h_1, ra_10, not_true_eq_false, not_false_eq_true, ↓reduceIte]
    exact rh_ref hH0 _ _
  · simp only [if_neg h_1, ra_10, not_true_eq_false, not_false_eq_true, ↓reduceIte]
    by_cases h_2 : s_X9_isIn a2 (σm 3 0) = 0
    · simp only [if_pos h_2, ra_10, not_true_eq_false, not_false_eq_true, ↓reduceIte]
      exact rh_ref hH0 _ _
    · simp only [if_neg h_2, ra_10, not_true_eq_false, not_false_eq_true, ↓reduceIte]
      by_cases h_3 : σm 21 a1.toNatClampNeg = a2
      · simp only [if_pos h_3, ra_10, not_true_eq_false, not_false_eq_true, ↓reduceIte]
        exact rh_ref hH0 _ _
      · simp only [if_neg h_3, ra_10, not_true_eq_false, not_false_eq_true, ↓reduceIte]
        refine ⟨q1, q2, q3, fun i hi => ?_, W.2⟩
        show vp_in (upd (σm 21) a1.toNatClampNeg a2 i) (σm 3 0).toNatClampNeg
        by_cases hq : i = a1.toNatClampNeg
        · rw [hq, pk_us]
          exact in_vp.mpr h_2
        · rw [pk_un hq]
          exact W.1 i hi
theorem rl_move {k : Nat} {σx σm : St} (hk : k ≤ 511) (hI : IX σx) (hJ : IR σm) (hJR : JR σm) (hR : Rel k σx σm) (a1 a2 : Int32) : Rel (k + 1) (s_X8_move σx a1 a2).2 (s_X9_move σm a1 a2).2 := ⟨rlC_move hk hI hJ hJR hR.1 a1 a2, rh_move hk hI hJ hJR hR a1 a2⟩
theorem rh_cut {k : Nat} {σx σm : St} (hk : k ≤ 511) (hI : IX σx) (hJ : IR σm) (hJR : JR σm) (hR : Rel k σx σm) (a1 : Int32) : RH (s_X8_cut σx a1).2 (s_X9_cut σm a1).2 := by
  obtain ⟨⟨⟨E, G, HP, -, -, K, -⟩, HC⟩, HH⟩ := hR
  have hH0 := HH
  obtain ⟨q1, q2, q3, W⟩ := HH
  obtain ⟨c1, -⟩ := id HC
  obtain ⟨e1, e2, e3, e4, e5, e6, e7, e8, e9, e10, e11, e12, e13, e14, e15, e16, e17, e18⟩ := id E
  obtain ⟨g1, g2, g3, g4, g5, g6, g7, g8, g9, g10⟩ := id G
  have hK := K
  unfold s_X8_cut s_X9_cut s_X9_cut_c21
  try dsimp only
  simp only [ite_not, ra_io, ra_ih, ra_ip, ra_ir, ra_ie, ra_iw, ra_mc, e1, e2, e3, e4, e5, e6, e7, e8, e9, e10, e11, e12, e13, e14, e15, e16, e17, e18, g1, g2, g3, g4, g5, g6, g7, g8, g9, g10]
  by_cases h1 : s_X9_isIn a1 (σm 2 0) = 0
  · simp only [if_pos h1]
    exact rh_ref hH0 _ _
  · simp only [if_neg h1]
    obtain ⟨p, hp, rfl⟩ := vp_in_of (in_vp.mpr h1) (tn_lt _)
    have p31 : p < 2 ^ 31 := Nat.lt_trans hp (tn_lt _)
    have p6 : p < 6 := Nat.lt_of_lt_of_le hp (cnt_le (ir_2 hJ))
    have hrs := rst_eq g6 p31
    simp only [nI_clamp p31, hrs, Nat.sub_zero]
    by_cases h2 : s_X9_rests σm (nI p) = 0
    · simp only [if_pos h2]
      have n6 : (σm 6 0).toNatClampNeg ≤ 20 := cnt_le (ir_6 hJ)
      have hon : (s_X8_herdsOn σx (nI p) ≤ 0) ↔ (iter (s_X9_cut_l21 σm (nI p)) (σm 6 0).toNatClampNeg 0 0 = 0) := by
        rw [on_m, on_sum, Int32.le_iff_toInt_le, show (0 : Int32).toInt = 0 by decide, e5, e18, on_0 (fun h => σm 38 h = nI p) _ n6]
        refine ⟨fun h j hj => Or.inr (h j hj), fun h j hj e => ?_⟩
        exact (h j hj).elim (out_1 hJR.2.2.2 hj p31 e) (fun q => q e)
      by_cases h3 : s_X8_herdsOn σx (nI p) ≤ 0
      · simp only [if_pos h3, if_pos (hon.mp h3), c1]
        obtain ⟨hay, hhay⟩ : ∃ y, (if (0 : Int32) < σm 13 p - 100 then σm 13 p - 100 else 0) = y := ⟨_, rfl⟩
        rw [hhay]
        obtain ⟨x0, hx0⟩ : ∃ x, put (put σx 403 p (σm 13 p - hay)) 404 p (σm 1 0 + 20) = x := ⟨_, rfl⟩
        have fx0 : ∀ f : Nat, f ≠ 403 → f ≠ 404 → x0 f = σx f := fun f a b => by
          rw [← hx0]
          exact (put_fr b).trans (put_fr a)
        have E0 : RE x0 σm := by
          rw [← hx0]
          exact E
        obtain ⟨u1, u2⟩ := hx_eq E0 hK (fun i q => by rw [fx0 4 (by decide) (by decide)]; exact HP i q) W p6 hay
        obtain ⟨w1, w2⟩ := hm_eq hK (cnt_le (ir_5 hJ)) p31 hhay
        rw [hx0]
        refine ⟨?_, ?_, fun o ho => ?_, ?_⟩
        · funext j
          rw [u1 j, w1 j, fx0 501 (by decide) (by decide), q1]
        · rw [u2, w2, fx0 591 (by decide) (by decide), q2]
        · have f3 : (s_X9_cut_c125 σm (nI p) (iter (s_X9_cut_l125 σm (nI p)) (σm 5 0).toNatClampNeg 0 (0 : Int64))).2 3 = σm 3 := fr_s_X9_cut_c125 _ _ _ (by decide) (by decide) (by decide) (by decide) (by decide)
          rw [f3] at ho
          rw [w1 o, if_neg (fun z => by omega)]
          exact q3 o ho
        · have fm : ∀ f : Nat, f ≠ 0 → f ≠ 9 → f ≠ 13 → f ≠ 16 → f ≠ 20 → (s_X9_cut_c125 σm (nI p) (iter (s_X9_cut_l125 σm (nI p)) (σm 5 0).toNatClampNeg 0 (0 : Int64))).2 f = σm f := fun f a b c d e => fr_s_X9_cut_c125 _ _ _ a b c d e
          unfold KW
          rw [fm 4 (by decide) (by decide) (by decide) (by decide) (by decide), fm 21 (by decide) (by decide) (by decide) (by decide) (by decide), fm 3 (by decide) (by decide) (by decide) (by decide) (by decide), fm 5 (by decide) (by decide) (by decide) (by decide) (by decide), fm 25 (by decide) (by decide) (by decide) (by decide) (by decide), fm 26 (by decide) (by decide) (by decide) (by decide) (by decide)]
          exact W
      · simp only [if_neg h3, if_neg (fun e => h3 (hon.mpr e))]
        exact rh_ref hH0 _ _
    · simp only [if_neg h2]
      exact rh_ref hH0 _ _
theorem rl_cut {k : Nat} {σx σm : St} (hk : k ≤ 511) (hI : IX σx) (hJ : IR σm) (hJR : JR σm) (hR : Rel k σx σm) (a1 : Int32) : Rel (k + 1) (s_X8_cut σx a1).2 (s_X9_cut σm a1).2 := ⟨rlC_cut hk hI hJ hJR hR.1 a1, rh_cut hk hI hJ hJR hR a1⟩
theorem eq_ownerOf {k : Nat} {σx σm : St} (hk : k ≤ 511) (hI : IX σx) (hJ : IR σm) (hJR : JR σm) (hR : Rel k σx σm) (a1 a2 : Int32) : (s_X8_ownerOf σx a1 a2).1 = (s_X9_ownerOf σm a1 a2).1 := by
  obtain ⟨⟨⟨E, G, HP, -, -, K, -⟩, HC⟩, HH⟩ := hR
  have hH0 := HH
  obtain ⟨q1, q2, q3, W⟩ := HH
  obtain ⟨c1, -⟩ := id HC
  obtain ⟨e1, e2, e3, e4, e5, e6, e7, e8, e9, e10, e11, e12, e13, e14, e15, e16, e17, e18⟩ := id E
  obtain ⟨g1, g2, g3, g4, g5, g6, g7, g8, g9, g10⟩ := id G
  have o1 : s_X1_partsOut (s_X8_coverOf σx a1) = iter (s_X9_ownerOf_l95 σm a1) (σm 6 0).toNatClampNeg 0 (0 : Int32) := by
    rw [out_eq E K hJ hJR.2.2.2, it_add (f := fun h => if s_X9_isOut σm (nI h) = 0 then 0 else if σm 35 h = a1 then s_X9_partsOfHerd σm (nI h) else 0) (fun h v => ?_), Int32.zero_add]
    unfold s_X9_ownerOf_l95
    try dsimp only
    (repeat' split) <;> rfl
  have o2 : s_X1_partsHeld (s_X8_coverOf σx a1) = iter (s_X9_ownerOf_l148 σm a1) (σm 5 0).toNatClampNeg 0 (0 : Int32) := by
    rw [held_eq E K hJ HP, it_add (f := fun r => if s_X9_ownerOfRight σm (nI r) = a1 then s_X9_partsOf σm (nI r) else 0) (fun r v => ?_), Int32.zero_add]
    unfold s_X9_ownerOf_l148
    try dsimp only
    (repeat' split) <;> rfl
  have e95 : s_X9_ownerOf_l95_1 = s_X9_ownerOf_l95 := rfl
  have e148 : s_X9_ownerOf_l148_1 = s_X9_ownerOf_l148 := rfl
  unfold s_X8_ownerOf s_X9_ownerOf
  rw [ra_io, e2, o1, o2, g7, g8, q1, q2, e95, e148, Nat.sub_zero, Nat.sub_zero]
  by_cases h1 : a1 = -1
  · rw [if_pos h1, if_pos h1]
    have n0 : ¬ (0 : Int32) ≤ a1 := by rw [h1]; decide
    simp only [if_neg n0]
    unfold s_X9_ownerOf_c95 s_X9_ownerOf_c148
    (repeat' split) <;> rfl
  · rw [if_neg h1, if_neg h1]
    by_cases h2 : s_X9_isIn a1 (σm 3 0) = 0
    · rw [if_pos h2, if_pos h2]
      rfl
    · rw [if_neg h2, if_neg h2]
      have p0 : (0 : Int32) ≤ a1 := by
        have := (vp_in_iff.mp (in_vp.mpr h2)).1
        rw [Int32.le_iff_toInt_le, show (0 : Int32).toInt = 0 by decide]
        exact this
      simp only [if_pos p0]
      unfold s_X9_ownerOf_c95_1 s_X9_ownerOf_c148_1
      (repeat' split) <;> rfl
