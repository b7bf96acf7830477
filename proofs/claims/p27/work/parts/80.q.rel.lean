def FXc : List Nat := [403, 405, 205, 701]
def FMc : List Nat := [13, 17, 40, 23, 24, 2, 6, 22]
theorem rc_cast {σx σm τx τm : St} (R : RC σx σm) (x : ∀ f : Nat, f ∈ FXc → τx f = σx f) (m : ∀ f : Nat, f ∈ FMc → τm f = σm f) : RC τx τm := by
  unfold RC at R ⊢
  rw [x 403 (by decide), x 405 (by decide), x 205 (by decide), x 701 (by decide), m 13 (by decide), m 17 (by decide), m 40 (by decide), m 23 (by decide), m 24 (by decide), m 2 (by decide), m 6 (by decide), m 22 (by decide)]
  exact R
def RelC (k : Nat) (σx σm : St) : Prop := RelB k σx σm ∧ RC σx σm
theorem rlC_mono {k : Nat} {σx σm : St} (h : RelC k σx σm) : RelC (k + 1) σx σm := ⟨rlB_mono h.1, h.2⟩
theorem relC_0 : RelC 0 sx0 (fun _ _ => 0) := ⟨relB_0, rfl, rfl, rfl, fun d _ => by show (0 : Int32) = 10 * 0 + 0; decide, fun _ _ => rfl, fun _ _ => rfl, fun i => ⟨by dsimp only; decide, by dsimp only; decide⟩⟩
theorem rc_ref {σx σm : St} (R : RC σx σm) (c d : Int32) : RC (s_X8_refuse σx c).2 (s_X9_refuse σm d).2 := rc_cast R (fun f hf => fr_s_X8_refuse σx c (fun e => absurd (e ▸ hf) (by decide))) (fun f hf => fr_s_X9_refuse σm d (fun e => absurd (e ▸ hf) (by decide)))
theorem rlC_owner {k : Nat} {σx σm : St} (hk : k ≤ 511) (hI : IX σx) (hJ : IR σm) (hJR : JR σm) (hR : RelC k σx σm) (a1 : Int32) : RelC (k + 1) (s_X8_owner σx a1).2 (s_X9_owner σm a1).2 := ⟨rlB_owner hk hI hJ hJR hR.1 a1, rc_cast hR.2 (fun f hf => fr_s_X8_owner σx a1 (fun e => absurd (e ▸ hf) (by decide)) (fun e => absurd (e ▸ hf) (by decide)) (fun e => absurd (e ▸ hf) (by decide)) (fun e => absurd (e ▸ hf) (by decide))) (fun f hf => fr_s_X9_owner σm a1 (fun e => absurd (e ▸ hf) (by decide)) (fun e => absurd (e ▸ hf) (by decide)) (fun e => absurd (e ▸ hf) (by decide)))⟩
theorem rlC_house {k : Nat} {σx σm : St} (hk : k ≤ 511) (hI : IX σx) (hJ : IR σm) (hJR : JR σm) (hR : RelC k σx σm) (a1 : Int32) : RelC (k + 1) (s_X8_house σx a1).2 (s_X9_house σm a1).2 := ⟨rlB_house hk hI hJ hJR hR.1 a1, rc_cast hR.2 (fun f hf => fr_s_X8_house σx a1 (fun e => absurd (e ▸ hf) (by decide)) (fun e => absurd (e ▸ hf) (by decide)) (fun e => absurd (e ▸ hf) (by decide))) (fun f hf => fr_s_X9_house σm a1 (fun e => absurd (e ▸ hf) (by decide)) (fun e => absurd (e ▸ hf) (by decide)) (fun e => absurd (e ▸ hf) (by decide)))⟩
theorem rlC_move {k : Nat} {σx σm : St} (hk : k ≤ 511) (hI : IX σx) (hJ : IR σm) (hJR : JR σm) (hR : RelC k σx σm) (a1 a2 : Int32) : RelC (k + 1) (s_X8_move σx a1 a2).2 (s_X9_move σm a1 a2).2 := ⟨rlB_move hk hI hJ hJR hR.1 a1 a2, rc_cast hR.2 (fun f hf => fr_s_X8_move σx a1 a2 (fun e => absurd (e ▸ hf) (by decide)) (fun e => absurd (e ▸ hf) (by decide))) (fun f hf => fr_s_X9_move σm a1 a2 (fun e => absurd (e ▸ hf) (by decide)) (fun e => absurd (e ▸ hf) (by decide)))⟩
theorem rlC_right {k : Nat} {σx σm : St} (hk : k ≤ 511) (hI : IX σx) (hJ : IR σm) (hJR : JR σm) (hR : RelC k σx σm) (a1 a2 a3 a4 a5 : Int32) : RelC (k + 1) (s_X8_right σx a1 a2 a3 a4 a5).2 (s_X9_right σm a1 a2 a3 a4 a5).2 := ⟨rlB_right hk hI hJ hJR hR.1 a1 a2 a3 a4 a5, rc_cast hR.2 (fun f hf => fr_s_X8_right σx a1 a2 a3 a4 a5 (fun e => absurd (e ▸ hf) (by decide)) (fun e => absurd (e ▸ hf) (by decide)) (fun e => absurd (e ▸ hf) (by decide)) (fun e => absurd (e ▸ hf) (by decide)) (fun e => absurd (e ▸ hf) (by decide)) (fun e => absurd (e ▸ hf) (by decide)) (fun e => absurd (e ▸ hf) (by decide)) (fun e => absurd (e ▸ hf) (by decide)) (fun e => absurd (e ▸ hf) (by decide)) (fun e => absurd (e ▸ hf) (by decide)) (fun e => absurd (e ▸ hf) (by decide))) (fun f hf => fr_s_X9_right σm a1 a2 a3 a4 a5 (fun e => absurd (e ▸ hf) (by decide)) (fun e => absurd (e ▸ hf) (by decide)) (fun e => absurd (e ▸ hf) (by decide)) (fun e => absurd (e ▸ hf) (by decide)) (fun e => absurd (e ▸ hf) (by decide)) (fun e => absurd (e ▸ hf) (by decide)) (fun e => absurd (e ▸ hf) (by decide)) (fun e => absurd (e ▸ hf) (by decide)) (fun e => absurd (e ▸ hf) (by decide)) (fun e => absurd (e ▸ hf) (by decide)))⟩
theorem rlC_lend {k : Nat} {σx σm : St} (hk : k ≤ 511) (hI : IX σx) (hJ : IR σm) (hJR : JR σm) (hR : RelC k σx σm) (a1 a2 a3 a4 : Int32) : RelC (k + 1) (s_X8_lend σx a1 a2 a3 a4).2 (s_X9_lend σm a1 a2 a3 a4).2 := ⟨rlB_lend hk hI hJ hJR hR.1 a1 a2 a3 a4, rc_cast hR.2 (fun f hf => fr_s_X8_lend σx a1 a2 a3 a4 (fun e => absurd (e ▸ hf) (by decide)) (fun e => absurd (e ▸ hf) (by decide)) (fun e => absurd (e ▸ hf) (by decide)) (fun e => absurd (e ▸ hf) (by decide)) (fun e => absurd (e ▸ hf) (by decide)) (fun e => absurd (e ▸ hf) (by decide)) (fun e => absurd (e ▸ hf) (by decide)) (fun e => absurd (e ▸ hf) (by decide)) (fun e => absurd (e ▸ hf) (by decide)) (fun e => absurd (e ▸ hf) (by decide)) (fun e => absurd (e ▸ hf) (by decide))) (fun f hf => fr_s_X9_lend σm a1 a2 a3 a4 (fun e => absurd (e ▸ hf) (by decide)) (fun e => absurd (e ▸ hf) (by decide)) (fun e => absurd (e ▸ hf) (by decide)) (fun e => absurd (e ▸ hf) (by decide)) (fun e => absurd (e ▸ hf) (by decide)) (fun e => absurd (e ▸ hf) (by decide)) (fun e => absurd (e ▸ hf) (by decide)) (fun e => absurd (e ▸ hf) (by decide)) (fun e => absurd (e ▸ hf) (by decide)) (fun e => absurd (e ▸ hf) (by decide)))⟩
theorem rlC_sell {k : Nat} {σx σm : St} (hk : k ≤ 511) (hI : IX σx) (hJ : IR σm) (hJR : JR σm) (hR : RelC k σx σm) (a1 a2 : Int32) : RelC (k + 1) (s_X8_sell σx a1 a2).2 (s_X9_sell σm a1 a2).2 := ⟨rlB_sell hk hI hJ hJR hR.1 a1 a2, rc_cast hR.2 (fun f hf => fr_s_X8_sell σx a1 a2 (fun e => absurd (e ▸ hf) (by decide)) (fun e => absurd (e ▸ hf) (by decide))) (fun f hf => fr_s_X9_sell σm a1 a2 (fun e => absurd (e ▸ hf) (by decide)) (fun e => absurd (e ▸ hf) (by decide)))⟩
theorem rlC_put {k : Nat} {σx σm : St} (hk : k ≤ 511) (hI : IX σx) (hJ : IR σm) (hJR : JR σm) (hR : RelC k σx σm) (a1 a2 : Int32) : RelC (k + 1) (s_X8_put σx a1 a2).2 (s_X9_put σm a1 a2).2 := ⟨rlB_put hk hI hJ hJR hR.1 a1 a2, rc_cast hR.2 (fun f hf => fr_s_X8_put σx a1 a2 (fun e => absurd (e ▸ hf) (by decide)) (fun e => absurd (e ▸ hf) (by decide)) (fun e => absurd (e ▸ hf) (by decide)) (fun e => absurd (e ▸ hf) (by decide)) (fun e => absurd (e ▸ hf) (by decide)) (fun e => absurd (e ▸ hf) (by decide)) (fun e => absurd (e ▸ hf) (by decide)) (fun e => absurd (e ▸ hf) (by decide)) (fun e => absurd (e ▸ hf) (by decide))) (fun f hf => fr_s_X9_put σm a1 a2 (fun e => absurd (e ▸ hf) (by decide)) (fun e => absurd (e ▸ hf) (by decide)) (fun e => absurd (e ▸ hf) (by decide)) (fun e => absurd (e ▸ hf) (by decide)))⟩
theorem rlC_drive {k : Nat} {σx σm : St} (hk : k ≤ 511) (hI : IX σx) (hJ : IR σm) (hJR : JR σm) (hR : RelC k σx σm) (a1 a2 : Int32) : RelC (k + 1) (s_X8_drive σx a1 a2).2 (s_X9_drive σm a1 a2).2 := ⟨rlB_drive hk hI hJ hJR hR.1 a1 a2, rc_cast hR.2 (fun f hf => fr_s_X8_drive σx a1 a2 (fun e => absurd (e ▸ hf) (by decide)) (fun e => absurd (e ▸ hf) (by decide)) (fun e => absurd (e ▸ hf) (by decide)) (fun e => absurd (e ▸ hf) (by decide))) (fun f hf => fr_s_X9_drive σm a1 a2 (fun e => absurd (e ▸ hf) (by decide)) (fun e => absurd (e ▸ hf) (by decide)) (fun e => absurd (e ▸ hf) (by decide)) (fun e => absurd (e ▸ hf) (by decide)))⟩
theorem rlC_covered {k : Nat} {σx σm : St} (hk : k ≤ 511) (hI : IX σx) (hJ : IR σm) (hJR : JR σm) (hR : RelC k σx σm) (a1 : Int32) : RelC (k + 1) (s_X8_covered σx a1).2 (s_X9_covered σm a1).2 := ⟨rlB_covered hk hI hJ hJR hR.1 a1, rc_cast hR.2 (fun f hf => fr_s_X8_covered σx a1 (fun e => absurd (e ▸ hf) (by decide)) (fun e => absurd (e ▸ hf) (by decide)) (fun e => absurd (e ▸ hf) (by decide)) (fun e => absurd (e ▸ hf) (by decide)) (fun e => absurd (e ▸ hf) (by decide)) (fun e => absurd (e ▸ hf) (by decide))) (fun f hf => fr_s_X9_covered σm a1 (fun e => absurd (e ▸ hf) (by decide)))⟩
theorem rlC_lacks {k : Nat} {σx σm : St} (hk : k ≤ 511) (hI : IX σx) (hJ : IR σm) (hJR : JR σm) (hR : RelC k σx σm) (a1 : Int32) : RelC (k + 1) (s_X8_lacks σx a1).2 (s_X9_lacks σm a1).2 := ⟨rlB_lacks hk hI hJ hJR hR.1 a1, rc_cast hR.2 (fun f hf => fr_s_X8_lacks σx a1 (fun e => absurd (e ▸ hf) (by decide)) (fun e => absurd (e ▸ hf) (by decide)) (fun e => absurd (e ▸ hf) (by decide)) (fun e => absurd (e ▸ hf) (by decide)) (fun e => absurd (e ▸ hf) (by decide)) (fun e => absurd (e ▸ hf) (by decide))) (fun f hf => fr_s_X9_lacks σm a1 (fun e => absurd (e ▸ hf) (by decide)))⟩
theorem rlC_over {k : Nat} {σx σm : St} (hk : k ≤ 511) (hI : IX σx) (hJ : IR σm) (hJR : JR σm) (hR : RelC k σx σm) (a1 a2 : Int32) : RelC (k + 1) (s_X8_over σx a1 a2).2 (s_X9_over σm a1 a2).2 := ⟨rlB_over hk hI hJ hJR hR.1 a1 a2, rc_cast hR.2 (fun f hf => fr_s_X8_over σx a1 a2 (fun e => absurd (e ▸ hf) (by decide))) (fun f hf => fr_s_X9_over σm a1 a2 (fun e => absurd (e ▸ hf) (by decide)))⟩
theorem rlC_rest {k : Nat} {σx σm : St} (hk : k ≤ 511) (hI : IX σx) (hJ : IR σm) (hJR : JR σm) (hR : RelC k σx σm) (a1 a2 : Int32) : RelC (k + 1) (s_X8_rest σx a1 a2).2 (s_X9_rest σm a1 a2).2 := ⟨rlB_rest hk hI hJ hJR hR.1 a1 a2, rc_cast hR.2 (fun f hf => fr_s_X8_rest σx a1 a2 (fun e => absurd (e ▸ hf) (by decide)) (fun e => absurd (e ▸ hf) (by decide))) (fun f hf => fr_s_X9_rest σm a1 a2 (fun e => absurd (e ▸ hf) (by decide)) (fun e => absurd (e ▸ hf) (by decide)))⟩
theorem rlC_pound {k : Nat} {σx σm : St} (hk : k ≤ 511) (hI : IX σx) (hJ : IR σm) (hJR : JR σm) (hR : RelC k σx σm) (a1 : Int32) : RelC (k + 1) (s_X8_pound σx a1).2 (s_X9_pound σm a1).2 := ⟨rlB_pound hk hI hJ hJR hR.1 a1, rc_cast hR.2 (fun f hf => fr_s_X8_pound σx a1 (fun e => absurd (e ▸ hf) (by decide)) (fun e => absurd (e ▸ hf) (by decide)) (fun e => absurd (e ▸ hf) (by decide)) (fun e => absurd (e ▸ hf) (by decide)) (fun e => absurd (e ▸ hf) (by decide)) (fun e => absurd (e ▸ hf) (by decide)) (fun e => absurd (e ▸ hf) (by decide)) (fun e => absurd (e ▸ hf) (by decide)) (fun e => absurd (e ▸ hf) (by decide))) (fun f hf => fr_s_X9_pound σm a1 (fun e => absurd (e ▸ hf) (by decide)) (fun e => absurd (e ▸ hf) (by decide)) (fun e => absurd (e ▸ hf) (by decide)) (fun e => absurd (e ▸ hf) (by decide)))⟩
theorem rlC_free {k : Nat} {σx σm : St} (hk : k ≤ 511) (hI : IX σx) (hJ : IR σm) (hJR : JR σm) (hR : RelC k σx σm) (a1 : Int32) : RelC (k + 1) (s_X8_free σx a1).2 (s_X9_free σm a1).2 := ⟨rlB_free hk hI hJ hJR hR.1 a1, rc_cast hR.2 (fun f hf => fr_s_X8_free σx a1 (fun e => absurd (e ▸ hf) (by decide)) (fun e => absurd (e ▸ hf) (by decide)) (fun e => absurd (e ▸ hf) (by decide)) (fun e => absurd (e ▸ hf) (by decide))) (fun f hf => fr_s_X9_free σm a1 (fun e => absurd (e ▸ hf) (by decide)) (fun e => absurd (e ▸ hf) (by decide)) (fun e => absurd (e ▸ hf) (by decide)) (fun e => absurd (e ▸ hf) (by decide)))⟩
theorem rlC_plan {k : Nat} {σx σm : St} (hk : k ≤ 511) (hI : IX σx) (hJ : IR σm) (hJR : JR σm) (hR : RelC k σx σm) (a1 a2 a3 a4 : Int32) : RelC (k + 1) (s_X8_plan σx a1 a2 a3 a4).2 (s_X9_plan σm a1 a2 a3 a4).2 := ⟨rlB_plan hk hI hJ hJR hR.1 a1 a2 a3 a4, rc_cast hR.2 (fun f hf => fr_s_X8_plan σx a1 a2 a3 a4 (fun e => absurd (e ▸ hf) (by decide)) (fun e => absurd (e ▸ hf) (by decide)) (fun e => absurd (e ▸ hf) (by decide)) (fun e => absurd (e ▸ hf) (by decide)) (fun e => absurd (e ▸ hf) (by decide)) (fun e => absurd (e ▸ hf) (by decide)) (fun e => absurd (e ▸ hf) (by decide)) (fun e => absurd (e ▸ hf) (by decide)) (fun e => absurd (e ▸ hf) (by decide)) (fun e => absurd (e ▸ hf) (by decide)) (fun e => absurd (e ▸ hf) (by decide)) (fun e => absurd (e ▸ hf) (by decide)) (fun e => absurd (e ▸ hf) (by decide)) (fun e => absurd (e ▸ hf) (by decide)) (fun e => absurd (e ▸ hf) (by decide)) (fun e => absurd (e ▸ hf) (by decide)) (fun e => absurd (e ▸ hf) (by decide)) (fun e => absurd (e ▸ hf) (by decide)) (fun e => absurd (e ▸ hf) (by decide)) (fun e => absurd (e ▸ hf) (by decide)) (fun e => absurd (e ▸ hf) (by decide)) (fun e => absurd (e ▸ hf) (by decide)) (fun e => absurd (e ▸ hf) (by decide))) (fun f hf => fr_s_X9_plan σm a1 a2 a3 a4 (fun e => absurd (e ▸ hf) (by decide)) (fun e => absurd (e ▸ hf) (by decide)) (fun e => absurd (e ▸ hf) (by decide)) (fun e => absurd (e ▸ hf) (by decide)) (fun e => absurd (e ▸ hf) (by decide)) (fun e => absurd (e ▸ hf) (by decide)) (fun e => absurd (e ▸ hf) (by decide)) (fun e => absurd (e ▸ hf) (by decide)) (fun e => absurd (e ▸ hf) (by decide)))⟩
theorem rlC_pieceOf {k : Nat} {σx σm : St} (hk : k ≤ 511) (hI : IX σx) (hJ : IR σm) (hJR : JR σm) (hR : RelC k σx σm) (a1 a2 : Int32) : RelC (k + 1) (s_X8_pieceOf σx a1 a2).2 (s_X9_pieceOf σm a1 a2).2 := ⟨rlB_pieceOf hk hI hJ hJR hR.1 a1 a2, rc_cast hR.2 (fun f hf => fr_s_X8_pieceOf σx a1 a2 (fun e => absurd (e ▸ hf) (by decide))) (fun f hf => fr_s_X9_pieceOf σm a1 a2 (fun e => absurd (e ▸ hf) (by decide)))⟩
theorem rlC_rightOf {k : Nat} {σx σm : St} (hk : k ≤ 511) (hI : IX σx) (hJ : IR σm) (hJR : JR σm) (hR : RelC k σx σm) (a1 a2 : Int32) : RelC (k + 1) (s_X8_rightOf σx a1 a2).2 (s_X9_rightOf σm a1 a2).2 := ⟨rlB_rightOf hk hI hJ hJR hR.1 a1 a2, rc_cast hR.2 (fun f hf => fr_s_X8_rightOf σx a1 a2 (fun e => absurd (e ▸ hf) (by decide))) (fun f hf => fr_s_X9_rightOf σm a1 a2 (fun e => absurd (e ▸ hf) (by decide)))⟩
theorem rlC_herdOf {k : Nat} {σx σm : St} (hk : k ≤ 511) (hI : IX σx) (hJ : IR σm) (hJR : JR σm) (hR : RelC k σx σm) (a1 a2 : Int32) : RelC (k + 1) (s_X8_herdOf σx a1 a2).2 (s_X9_herdOf σm a1 a2).2 := ⟨rlB_herdOf hk hI hJ hJR hR.1 a1 a2, rc_cast hR.2 (fun f hf => fr_s_X8_herdOf σx a1 a2 (fun e => absurd (e ▸ hf) (by decide))) (fun f hf => fr_s_X9_herdOf σm a1 a2 (fun e => absurd (e ▸ hf) (by decide)))⟩
theorem rlC_ownerOf {k : Nat} {σx σm : St} (hk : k ≤ 511) (hI : IX σx) (hJ : IR σm) (hJR : JR σm) (hR : RelC k σx σm) (a1 a2 : Int32) : RelC (k + 1) (s_X8_ownerOf σx a1 a2).2 (s_X9_ownerOf σm a1 a2).2 := ⟨rlB_ownerOf hk hI hJ hJR hR.1 a1 a2, rc_cast hR.2 (fun f hf => fr_s_X8_ownerOf σx a1 a2 (fun e => absurd (e ▸ hf) (by decide)) (fun e => absurd (e ▸ hf) (by decide)) (fun e => absurd (e ▸ hf) (by decide)) (fun e => absurd (e ▸ hf) (by decide)) (fun e => absurd (e ▸ hf) (by decide)) (fun e => absurd (e ▸ hf) (by decide))) (fun f hf => fr_s_X9_ownerOf σm a1 a2 (fun e => absurd (e ▸ hf) (by decide)))⟩
set_option maxRecDepth 20000 in
theorem rc_piece {k : Nat} {σx σm : St} (hk : k ≤ 511) (hI : IX σx) (hJ : IR σm) (hJR : JR σm) (hR : RelC k σx σm) (a1 a2 a3 a4 : Int32) (h4 : a4 = 0 ∨ a4 = 1) : RC (s_X8_piece σx a1 a2 a3 a4).2 (s_X9_piece σm a1 a2 a3 a4).2 := by
  obtain ⟨⟨E, G, -⟩, HC⟩ := hR
  have hC0 := HC
  obtain ⟨c1, c2, c3, c4, c5, c6, c7⟩ := HC
  obtain ⟨e1, e2, e3, e4, e5, e6, e7, e8, e9, e10, e11, e12, e13, e14, e15, e16, e17, e18⟩ := id E
  obtain ⟨g1, g2, g3, g4, g5, g6, g7, g8, g9, g10⟩ := id G
  unfold s_X8_piece s_X9_piece
  have hc : (σm 2 0 < 6) = ¬ (σm 2 0 = 6) := ra_lt (N := 6) (ir_2 hJ) (by decide)
  simp only [hc, ite_not, ra_io, ra_ih, ra_ip, ra_ir, ra_ie, ra_iw, ra_mc, e1, e2, e3, e4, e5, e6, e7, e8, e9, e10, e11, e12, e13, e14, e15, e16, e17, e18, g1, g2, g3, g4, g5, g6, g7, g8, g9, g10]
  by_cases h_1 : a1 < 0
  · simp only [if_pos h_1, ra_10, not_true_eq_false, not_false_eq_true, ↓reduceIte]
    exact rc_ref hC0 _ _
  · simp only [if_neg h_1, ra_10, not_true_eq_false, not_false_eq_true, ↓reduceIte]
    by_cases h_2 : a3 < 0
    · simp only [if_pos h_2, ra_10, not_true_eq_false, not_false_eq_true, ↓reduceIte]
      exact rc_ref hC0 _ _
    · simp only [if_neg h_2, ra_10, not_true_eq_false, not_false_eq_true, ↓reduceIte]
      by_cases h_3 : 1 ≤ a2
      case neg => simp only [if_neg h_3, ra_10, not_true_eq_false, not_false_eq_true, ↓reduceIte]; exact rc_ref hC0 _ _
      case pos =>
        simp only [if_pos h_3, ra_10, not_true_eq_false, not_false_eq_true, ↓reduceIte]
        by_cases h_4 : 100000 < a2
        · simp only [if_pos h_4, ra_10, not_true_eq_false, not_false_eq_true, ↓reduceIte]
          exact rc_ref hC0 _ _
        · simp only [if_neg h_4, ra_10, not_true_eq_false, not_false_eq_true, ↓reduceIte]
          by_cases h_5 : a2 < a1
          · simp only [if_pos h_5, ra_10, not_true_eq_false, not_false_eq_true, ↓reduceIte]
            exact rc_ref hC0 _ _
          · simp only [if_neg h_5, ra_10, not_true_eq_false, not_false_eq_true, ↓reduceIte]
            by_cases h_6 : 10000 < a3
            · simp only [if_pos h_6, ra_10, not_true_eq_false, not_false_eq_true, ↓reduceIte]
              exact rc_ref hC0 _ _
            · simp only [if_neg h_6, ra_10, not_true_eq_false, not_false_eq_true, ↓reduceIte]
              by_cases h_7 : σm 2 0 = 6
              · simp only [if_pos h_7, ra_10, not_true_eq_false, not_false_eq_true, ↓reduceIte]
                exact rc_ref hC0 _ _
              · simp only [if_neg h_7, ra_10, not_true_eq_false, not_false_eq_true, ↓reduceIte]
                have hle : (σm 2 0).toNatClampNeg ≤ (σm 2 0 + 1).toNatClampNeg := by rw [inc_n9 (N := 6) (ir_2 hJ) (by decide)]; omega
                refine ⟨ra_u c1 _ _, (ra_u c2 _ _).trans (upd_id (c5 _ (Nat.le_refl _))), c3, c4, fun p hp => ?_, c6, c7⟩
                replace hp : (σm 2 0 + 1).toNatClampNeg ≤ p := hp
                exact c5 p (by omega)
theorem rlC_piece {k : Nat} {σx σm : St} (hk : k ≤ 511) (hI : IX σx) (hJ : IR σm) (hJR : JR σm) (hR : RelC k σx σm) (a1 a2 a3 a4 : Int32) (h4 : a4 = 0 ∨ a4 = 1) : RelC (k + 1) (s_X8_piece σx a1 a2 a3 a4).2 (s_X9_piece σm a1 a2 a3 a4).2 := ⟨rlB_piece hk hI hJ hJR hR.1 a1 a2 a3 a4 h4, rc_piece hk hI hJ hJR hR a1 a2 a3 a4 h4⟩
set_option maxRecDepth 20000 in
theorem rc_herd {k : Nat} {σx σm : St} (hk : k ≤ 511) (hI : IX σx) (hJ : IR σm) (hJR : JR σm) (hR : RelC k σx σm) (a1 a2 a3 : Int32) : RC (s_X8_herd σx a1 a2 a3).2 (s_X9_herd σm a1 a2 a3).2 := by
  obtain ⟨⟨E, G, -⟩, HC⟩ := hR
  have hC0 := HC
  obtain ⟨c1, c2, c3, c4, c5, c6, c7⟩ := HC
  obtain ⟨e1, e2, e3, e4, e5, e6, e7, e8, e9, e10, e11, e12, e13, e14, e15, e16, e17, e18⟩ := id E
  obtain ⟨g1, g2, g3, g4, g5, g6, g7, g8, g9, g10⟩ := id G
  unfold s_X8_herd s_X9_herd
  have hc : (σm 6 0 < 20) = ¬ (σm 6 0 = 20) := ra_lt (N := 20) (ir_6 hJ) (by decide)
  simp only [hc, ite_not, ra_io, ra_ih, ra_ip, ra_ir, ra_ie, ra_iw, ra_mc, e1, e2, e3, e4, e5, e6, e7, e8, e9, e10, e11, e12, e13, e14, e15, e16, e17, e18, g1, g2, g3, g4, g5, g6, g7, g8, g9, g10]
  have hi3 : s_X9_isIn a2 3 = if a2 < 0 then 0 else if a2 < 3 then 1 else 0 := by
    unfold s_X9_isIn
    by_cases q1 : a2 < 0
    · rw [if_pos q1, if_pos q1]
    · by_cases q2 : (3 : Int32) ≤ a2
      · rw [if_neg q1, if_neg q1, if_pos q2, if_neg (Int32.not_lt.mpr q2)]
      · rw [if_neg q1, if_neg q1, if_neg q2, if_pos (Int32.not_le.mp q2)]
  have hi4 : ∀ x y : Int32 × St, (if a2 < 0 then x else if a2 < 3 then y else x) = if s_X9_isIn a2 3 = 0 then x else y := by
    intro x y
    rw [hi3]
    by_cases q1 : a2 < 0
    · rw [if_pos q1, if_pos q1, if_pos rfl]
    · by_cases q2 : a2 < 3
      · rw [if_neg q1, if_neg q1, if_pos q2, if_pos q2, if_neg (by decide)]
      · rw [if_neg q1, if_neg q1, if_neg q2, if_neg q2, if_pos rfl]
  simp only [hi4]
  by_cases h_1 : s_X9_isIn a1 (σm 3 0) = 0
  · simp only [if_pos h_1, ra_10, not_true_eq_false, not_false_eq_true, ↓reduceIte]
    exact rc_ref hC0 _ _
  · simp only [if_neg h_1, ra_10, not_true_eq_false, not_false_eq_true, ↓reduceIte]
    by_cases h_2 : s_X9_isIn a2 3 = 0
    · simp only [if_pos h_2, ra_10, not_true_eq_false, not_false_eq_true, ↓reduceIte]
      exact rc_ref hC0 _ _
    · simp only [if_neg h_2, ra_10, not_true_eq_false, not_false_eq_true, ↓reduceIte]
      by_cases h_3 : 1 ≤ a3
      case neg => simp only [if_neg h_3, ra_10, not_true_eq_false, not_false_eq_true, ↓reduceIte]; exact rc_ref hC0 _ _
      case pos =>
        simp only [if_pos h_3, ra_10, not_true_eq_false, not_false_eq_true, ↓reduceIte]
        by_cases h_4 : 100 < a3
        · simp only [if_pos h_4, ra_10, not_true_eq_false, not_false_eq_true, ↓reduceIte]
          exact rc_ref hC0 _ _
        · simp only [if_neg h_4, ra_10, not_true_eq_false, not_false_eq_true, ↓reduceIte]
          by_cases h_5 : σm 6 0 = 20
          · simp only [if_pos h_5, ra_10, not_true_eq_false, not_false_eq_true, ↓reduceIte]
            exact rc_ref hC0 _ _
          · simp only [if_neg h_5, ra_10, not_true_eq_false, not_false_eq_true, ↓reduceIte]
            have hle : (σm 6 0).toNatClampNeg ≤ (σm 6 0 + 1).toNatClampNeg := by rw [inc_n9 (N := 20) (ir_6 hJ) (by decide)]; omega
            refine ⟨c1, c2, (ra_u c3 _ _).trans (upd_id (c6 _ (Nat.le_refl _))), c4, c5, fun p hp => ?_, c7⟩
            replace hp : (σm 6 0 + 1).toNatClampNeg ≤ p := hp
            exact c6 p (by omega)
theorem rlC_herd {k : Nat} {σx σm : St} (hk : k ≤ 511) (hI : IX σx) (hJ : IR σm) (hJR : JR σm) (hR : RelC k σx σm) (a1 a2 a3 : Int32) : RelC (k + 1) (s_X8_herd σx a1 a2 a3).2 (s_X9_herd σm a1 a2 a3).2 := ⟨rlB_herd hk hI hJ hJR hR.1 a1 a2 a3, rc_herd hk hI hJ hJR hR a1 a2 a3⟩
set_option maxRecDepth 20000 in
theorem rc_rate {k : Nat} {σx σm : St} (hk : k ≤ 511) (hI : IX σx) (hJ : IR σm) (hJR : JR σm) (hR : RelC k σx σm) (a1 a2 a3 : Int32) : RC (s_X8_rate σx a1 a2 a3).2 (s_X9_rate σm a1 a2 a3).2 := by
  obtain ⟨⟨E, G, -⟩, HC⟩ := hR
  have hC0 := HC
  obtain ⟨c1, c2, c3, c4, c5, c6, c7⟩ := HC
  obtain ⟨e1, e2, e3, e4, e5, e6, e7, e8, e9, e10, e11, e12, e13, e14, e15, e16, e17, e18⟩ := id E
  obtain ⟨g1, g2, g3, g4, g5, g6, g7, g8, g9, g10⟩ := id G
  unfold s_X8_rate s_X9_rate
  unfold s_X7_changeRate
  simp only [ite_not, ra_io, ra_ih, ra_ip, ra_ir, ra_ie, ra_iw, ra_mc, e1, e2, e3, e4, e5, e6, e7, e8, e9, e10, e11, e12, e13, e14, e15, e16, e17, e18, g1, g2, g3, g4, g5, g6, g7, g8, g9, g10]
  by_cases h_1 : s_X9_isIn a1 10 = 0
  · simp only [if_pos h_1, ra_10, not_true_eq_false, not_false_eq_true, ↓reduceIte]
    exact rc_ref hC0 _ _
  · simp only [if_neg h_1, ra_10, not_true_eq_false, not_false_eq_true, ↓reduceIte]
    by_cases h_2 : s_X9_isIn a2 10 = 0
    · simp only [if_pos h_2, ra_10, not_true_eq_false, not_false_eq_true, ↓reduceIte]
      exact rc_ref hC0 _ _
    · simp only [if_neg h_2, ra_10, not_true_eq_false, not_false_eq_true, ↓reduceIte]
      by_cases h_3 : 0 ≤ a3
      case neg => simp only [if_neg h_3, ra_10, not_true_eq_false, not_false_eq_true, ↓reduceIte]; exact rc_ref hC0 _ _
      case pos =>
        simp only [if_pos h_3, ra_10, not_true_eq_false, not_false_eq_true, ↓reduceIte]
        by_cases h_4 : a3 ≤ 1000
        case neg => simp only [if_neg h_4, ra_10, not_true_eq_false, not_false_eq_true, ↓reduceIte]; exact rc_ref hC0 _ _
        case pos =>
          simp only [if_pos h_4, ra_10, not_true_eq_false, not_false_eq_true, ↓reduceIte]
          refine ⟨c1, c2, c3, c4, c5, c6, fun i => ?_⟩
          show 0 ≤ (upd (σm 22) _ a3 i).toInt ∧ (upd (σm 22) _ a3 i).toInt ≤ 1000
          rw [Int32.le_iff_toInt_le, show (0 : Int32).toInt = 0 by decide] at h_3
          rw [Int32.le_iff_toInt_le, show (1000 : Int32).toInt = 1000 by decide] at h_4
          by_cases hq : i = (10 * a1 + a2).toNatClampNeg
          · rw [hq, pk_us]
            exact ⟨h_3, h_4⟩
          · rw [pk_un hq]
            exact c7 i
theorem rlC_rate {k : Nat} {σx σm : St} (hk : k ≤ 511) (hI : IX σx) (hJ : IR σm) (hJR : JR σm) (hR : RelC k σx σm) (a1 a2 a3 : Int32) : RelC (k + 1) (s_X8_rate σx a1 a2 a3).2 (s_X9_rate σm a1 a2 a3).2 := ⟨rlB_rate hk hI hJ hJR hR.1 a1 a2 a3, rc_rate hk hI hJ hJR hR a1 a2 a3⟩
set_option maxRecDepth 20000 in
theorem rc_weather {k : Nat} {σx σm : St} (hk : k ≤ 511) (hI : IX σx) (hJ : IR σm) (hJR : JR σm) (hR : RelC k σx σm) (a1 a2 a3 : Int32) : RC (s_X8_weather σx a1 a2 a3).2 (s_X9_weather σm a1 a2 a3).2 := by
  obtain ⟨⟨E, G, -⟩, HC⟩ := hR
  have hC0 := HC
  obtain ⟨c1, c2, c3, c4, c5, c6, c7⟩ := HC
  obtain ⟨e1, e2, e3, e4, e5, e6, e7, e8, e9, e10, e11, e12, e13, e14, e15, e16, e17, e18⟩ := id E
  obtain ⟨g1, g2, g3, g4, g5, g6, g7, g8, g9, g10⟩ := id G
  unfold s_X8_weather s_X9_weather
  unfold s_X7_changeWeather
  simp only [ite_not, ra_io, ra_ih, ra_ip, ra_ir, ra_ie, ra_iw, ra_mc, e1, e2, e3, e4, e5, e6, e7, e8, e9, e10, e11, e12, e13, e14, e15, e16, e17, e18, g1, g2, g3, g4, g5, g6, g7, g8, g9, g10]
  by_cases h_1 : s_X9_isIn a2 10 = 0
  · simp only [if_pos h_1, ra_10, not_true_eq_false, not_false_eq_true, ↓reduceIte]
    exact rc_ref hC0 _ _
  · simp only [if_neg h_1, ra_10, not_true_eq_false, not_false_eq_true, ↓reduceIte]
    by_cases h_2 : s_X9_isIn a3 10 = 0
    · simp only [if_pos h_2, ra_10, not_true_eq_false, not_false_eq_true, ↓reduceIte]
      exact rc_ref hC0 _ _
    · simp only [if_neg h_2, ra_10, not_true_eq_false, not_false_eq_true, ↓reduceIte]
      by_cases h_3 : 0 ≤ a1
      case neg => simp only [if_neg h_3, ra_10, not_true_eq_false, not_false_eq_true, ↓reduceIte]; exact rc_ref hC0 _ _
      case pos =>
        simp only [if_pos h_3, ra_10, not_true_eq_false, not_false_eq_true, ↓reduceIte]
        by_cases h_4 : a1 ≤ 720
        case neg => simp only [if_neg h_4, ra_10, not_true_eq_false, not_false_eq_true, ↓reduceIte]; exact rc_ref hC0 _ _
        case pos =>
          simp only [if_pos h_4, ra_10, not_true_eq_false, not_false_eq_true, ↓reduceIte]
          simp only [if_neg (Int32.not_lt.mpr h_3), if_neg (Int32.not_lt.mpr h_4)]
          refine ⟨c1, c2, c3, fun d hd => ?_, c5, c6, c7⟩
          show upd (σx 701) a1.toNatClampNeg (10 * a2 + a3) d = 10 * upd (σm 23) a1.toNatClampNeg a2 d + upd (σm 24) a1.toNatClampNeg a3 d
          by_cases hq : d = a1.toNatClampNeg
          · rw [hq, pk_us, pk_us, pk_us]
          · rw [pk_un hq, pk_un hq, pk_un hq]
            exact c4 d hd
theorem rlC_weather {k : Nat} {σx σm : St} (hk : k ≤ 511) (hI : IX σx) (hJ : IR σm) (hJR : JR σm) (hR : RelC k σx σm) (a1 a2 a3 : Int32) : RelC (k + 1) (s_X8_weather σx a1 a2 a3).2 (s_X9_weather σm a1 a2 a3).2 := ⟨rlB_weather hk hI hJ hJR hR.1 a1 a2 a3, rc_weather hk hI hJ hJR hR a1 a2 a3⟩
/-! a day -/
theorem z43 (σ : St) : ∀ m : Nat, (∀ f : Nat, f ≠ 43 → iter s_X9_goesA_l3 m 0 σ f = σ f) ∧ ∀ h : Nat, h < m → iter s_X9_goesA_l3 m 0 σ 43 h = 0 := by
  intro m
  refine it_ind (L := s_X9_goesA_l3) (P := fun k (t : St) => (∀ f : Nat, f ≠ 43 → t f = σ f) ∧ ∀ h : Nat, h < k → t 43 h = 0) ⟨fun _ _ => rfl, fun h q => absurd q (Nat.not_lt_zero h)⟩ m (fun k t _ ih => ?_)
  unfold s_X9_goesA_l3
  try dsimp only
  refine ⟨fun f q => (put_fr q).trans (ih.1 f q), fun h hh => ?_⟩
  show upd (t 43) k 0 h = 0
  by_cases hq : h = k
  · rw [hq, pk_us]
  · rw [pk_un hq]
    exact ih.2 h (by omega)
theorem z46 (σ : St) : ∀ m : Nat, (∀ f : Nat, f ≠ 46 → iter s_X9_pass_l57 m 0 σ f = σ f) ∧ ∀ h : Nat, h < m → iter s_X9_pass_l57 m 0 σ 46 h = 0 := by
  intro m
  refine it_ind (L := s_X9_pass_l57) (P := fun k (t : St) => (∀ f : Nat, f ≠ 46 → t f = σ f) ∧ ∀ h : Nat, h < k → t 46 h = 0) ⟨fun _ _ => rfl, fun h q => absurd q (Nat.not_lt_zero h)⟩ m (fun k t _ ih => ?_)
  unfold s_X9_pass_l57
  try dsimp only
  refine ⟨fun f q => (put_fr q).trans (ih.1 f q), fun h hh => ?_⟩
  show upd (t 46) k 0 h = 0
  by_cases hq : h = k
  · rw [hq, pk_us]
  · rw [pk_un hq]
    exact ih.2 h (by omega)
theorem a17 (σ : St) : ∀ m : Nat, (∀ f : Nat, f ≠ 17 → f ≠ 11 → iter s_X9_pass_l101 m 0 σ f = σ f) ∧ (∀ j : Nat, iter s_X9_pass_l101 m 0 σ 17 j = if j < m then σ 17 j + σ 46 j else σ 17 j) ∧ iter s_X9_pass_l101 m 0 σ 11 0 = σ 11 0 + Sm (σ 46) m := by
  intro m
  refine it_ind (L := s_X9_pass_l101) (P := fun k (t : St) => (∀ f : Nat, f ≠ 17 → f ≠ 11 → t f = σ f) ∧ (∀ j : Nat, t 17 j = if j < k then σ 17 j + σ 46 j else σ 17 j) ∧ t 11 0 = σ 11 0 + Sm (σ 46) k) ⟨fun _ _ _ => rfl, fun j => by rw [if_neg (Nat.not_lt_zero j)], by show σ 11 0 = σ 11 0 + 0; rw [Int32.add_zero]⟩ m (fun k t _ ih => ?_)
  obtain ⟨i1, i2, i3⟩ := ih
  unfold s_X9_pass_l101
  try dsimp only
  rw [i1 46 (by decide) (by decide), i3, i2 k, if_neg (Nat.lt_irrefl k)]
  refine ⟨fun f p q => (put_fr q).trans ((put_fr p).trans (i1 f p q)), fun j => ?_, ?_⟩
  · show upd (t 17) k (σ 17 k + σ 46 k) j = _
    by_cases hq : j = k
    · rw [hq, pk_us, if_pos (by omega)]
    · rw [pk_un hq, i2 j]
      by_cases h1 : j < k
      · rw [if_pos h1, if_pos (by omega)]
      · rw [if_neg h1, if_neg (by omega)]
  · show upd (t 11) 0 (σ 11 0 + Sm (σ 46) k + σ 46 k) 0 = σ 11 0 + (Sm (σ 46) k + σ 46 k)
    rw [pk_us, Int32.add_assoc]
theorem a40 (σ : St) (v : Int32) : ∀ m : Nat, (∀ f : Nat, f ≠ 40 → (iter s_X9_pass_l152 m 0 (v, σ)).2 f = σ f) ∧ (∀ j : Nat, (iter s_X9_pass_l152 m 0 (v, σ)).2 40 j = if j < m then σ 40 j + σ 43 j else σ 40 j) ∧ (iter s_X9_pass_l152 m 0 (v, σ)).1 = v + Sm (σ 43) m := by
  intro m
  refine it_ind (L := s_X9_pass_l152) (P := fun k (q : Int32 × St) => (∀ f : Nat, f ≠ 40 → q.2 f = σ f) ∧ (∀ j : Nat, q.2 40 j = if j < k then σ 40 j + σ 43 j else σ 40 j) ∧ q.1 = v + Sm (σ 43) k) (s := (v, σ)) ⟨fun _ _ => rfl, fun j => by rw [if_neg (Nat.not_lt_zero j)], by show v = v + 0; rw [Int32.add_zero]⟩ m (fun k q _ ih => ?_)
  obtain ⟨x, t⟩ := q
  obtain ⟨i1, i2, i3⟩ := ih
  have i1 : ∀ f : Nat, f ≠ 40 → t f = σ f := i1
  have i2 : ∀ j : Nat, t 40 j = if j < k then σ 40 j + σ 43 j else σ 40 j := i2
  have i3 : x = v + Sm (σ 43) k := i3
  unfold s_X9_pass_l152
  try dsimp only
  rw [i1 43 (by decide), i3, i2 k, if_neg (Nat.lt_irrefl k)]
  refine ⟨fun f q => (put_fr q).trans (i1 f q), fun j => ?_, ?_⟩
  · show upd (t 40) k (σ 40 k + σ 43 k) j = _
    by_cases hq : j = k
    · rw [hq, pk_us, if_pos (by omega)]
    · rw [pk_un hq, i2 j]
      by_cases h1 : j < k
      · rw [if_pos h1, if_pos (by omega)]
      · rw [if_neg h1, if_neg (by omega)]
  · show v + Sm (σ 43) k + σ 43 k = v + (Sm (σ 43) k + σ 43 k)
    rw [Int32.add_assoc]
/-- what a day adds to hunger and to what was eaten -/
theorem rc_day {k : Nat} {b : Int} {s0 t0 : St} (R : RD b k s0 t0) (H : RC s0 t0) (K : KC t0) (n20 : (t0 6 0).toNatClampNeg ≤ 20) (p6 : (t0 2 0).toNatClampNeg ≤ 6) (vm : Int32) {t1 t2 t3 : St} {t4 : Int32 × St} (ht1 : iter s_X9_pass_l57 ((6 : Int32).toNatClampNeg - 0) 0 (s_X9_places t0) = t1) (ht2 : s_X9_goesA t1 (t1 1 0) = t2) (ht3 : iter s_X9_pass_l101 ((t2 2 0).toNatClampNeg - 0) 0 t2 = t3) (ht4 : iter s_X9_pass_l152 ((t3 6 0).toNatClampNeg - 0) 0 (vm, t3) = t4) : RC (s_X8_grazeAll s0).2 t4.2 ∧ KC t4.2 ∧ t4.1 = vm + (s_X8_grazeAll s0).1 ∧ t4.2 11 0 = t0 11 0 + Sm (t2 46) (t0 2 0).toNatClampNeg ∧ (∀ j : Nat, t4.2 17 j = if j < (t0 2 0).toNatClampNeg then t0 17 j + t2 46 j else t0 17 j) ∧ (∀ h : Nat, t4.2 40 h = if h < (t0 6 0).toNatClampNeg then t0 40 h + t2 43 h else t0 40 h) ∧ (s_X8_grazeAll s0).1 = Sm (t2 43) (t0 6 0).toNatClampNeg := by
  obtain ⟨E, G, -, -, -, KRt, -, -, h9, hd, h11⟩ := R
  obtain ⟨c1, c2, c3, c4, c5, c6, c7⟩ := H
  have e1 : s0 811 = t0 2 := E.1
  obtain ⟨g1, g2, g3, g4, g5, g6, g7, g8, g9, g10⟩ := id G
  obtain ⟨n, hn⟩ : ∃ n, (t0 6 0).toNatClampNeg = n := ⟨_, rfl⟩
  have f1 : ∀ f : Nat, f ≠ 45 → f ≠ 46 → t1 f = t0 f := fun f p q => by
    rw [← ht1, (z46 (s_X9_places t0) _).1 f q]
    exact fr_s_X9_places t0 p
  have t45 : ∀ h : Nat, h < n → t1 45 h = t0 38 h := fun h hh => by
    rw [← ht1, (z46 (s_X9_places t0) _).1 45 (by decide)]
    exact pl_w KRt h11 n20 (by rw [hn]; exact hh)
  have t46 : ∀ j : Nat, j < 6 → t1 46 j = 0 := fun j hj => by
    rw [← ht1]
    exact (z46 (s_X9_places t0) _).2 j (by show j < (6 : Int32).toNatClampNeg - 0; rw [show (6 : Int32).toNatClampNeg = 6 by decide]; omega)
  have e16 : (t1 6 0).toNatClampNeg = n := by rw [f1 6 (by decide) (by decide), hn]
  obtain ⟨tz, htz⟩ : ∃ t, iter s_X9_goesA_l3 n 0 t1 = t := ⟨_, rfl⟩
  have Z := z43 t1 n
  rw [htz] at Z
  have z2 : (tz 2 0).toNatClampNeg = (t0 2 0).toNatClampNeg := by rw [Z.1 2 (by decide), f1 2 (by decide) (by decide)]
  have eg : t2 = iter (s_X9_goesA_l56 (t1 1 0) tz) (t0 2 0).toNatClampNeg 0 tz := by
    rw [← ht2]
    unfold s_X9_goesA
    rw [e16, Nat.sub_zero, htz]
    unfold s_X9_goesA_c3 s_X9_goesA_c56
    try dsimp only
    rw [z2, Nat.sub_zero]
  have d1 : t1 1 0 = t0 1 0 := congrFun (f1 1 (by decide) (by decide)) 0
  have ex : s_X8_grazeAll s0 = iter s_X8_grazeAll_l4 (t0 2 0).toNatClampNeg 0 ((0 : Int32), s0) := by
    have c4e : ∀ q : Int32 × St, s_X8_grazeAll_c4 q = q := fun q => by
      obtain ⟨a, b⟩ := q
      rfl
    unfold s_X8_grazeAll
    rw [e1, Nat.sub_zero, c4e]
  have key := it_sim (L := s_X8_grazeAll_l4) (M := s_X9_goesA_l56 (t1 1 0) tz) (P := DS s0 t0 tz n) (s := ((0 : Int32), s0)) (t := tz) ⟨fun _ _ _ _ _ _ _ _ _ _ _ => rfl, fun _ _ _ _ => rfl, by rw [Z.1 13 (by decide), f1 13 (by decide) (by decide)]; exact c1, fun j hj => by
      rw [Z.1 46 (by decide), t46 j (by omega), Int32.add_zero], fun _ _ => rfl, fun h hh => by rw [Z.2 h hh, Int32.add_zero], fun _ _ => rfl, (sm_0 (fun h hh => Z.2 h hh)).symm, fun h j hh _ _ _ => Z.2 h hh, fun j => by
      rw [Z.1 13 (by decide), f1 13 (by decide) (by decide), Z.1 14 (by decide), f1 14 (by decide) (by decide)]
      exact ⟨(K j).1.1, (K j).1.2.1⟩⟩ (t0 2 0).toNatClampNeg (fun p q y hp ih => ds_step E g3 g5 g10 hn (by omega) h9 hd c4 K c7 (fun f a b c => (Z.1 f a).trans (f1 f b c)) (fun h hh => by rw [Z.1 45 (by decide)]; exact t45 h hh) d1 hp ih)
  rw [← ex, ← eg] at key
  obtain ⟨gx, hgx⟩ : ∃ g, s_X8_grazeAll s0 = g := ⟨_, rfl⟩
  rw [hgx] at key ⊢
  obtain ⟨k1, k2, k3, k4, k5, k6, k7, k8, k9, k10⟩ := key
  have f2 : ∀ f : Nat, f ≠ 13 → f ≠ 43 → f ≠ 45 → f ≠ 46 → t2 f = t0 f := fun f a b c d => (k2 f a b d).trans ((Z.1 f b).trans (f1 f c d))
  have e22 : (t2 2 0).toNatClampNeg - 0 = (t0 2 0).toNatClampNeg := by rw [f2 2 (by decide) (by decide) (by decide) (by decide)]; omega
  rw [e22] at ht3
  obtain ⟨a1, a2, a3⟩ := a17 t2 (t0 2 0).toNatClampNeg
  rw [ht3] at a1 a2 a3
  have e36 : (t3 6 0).toNatClampNeg - 0 = n := by rw [a1 6 (by decide) (by decide), f2 6 (by decide) (by decide) (by decide) (by decide), hn]; omega
  rw [e36] at ht4
  obtain ⟨b1, b2, b3⟩ := a40 t3 vm n
  rw [ht4] at b1 b2 b3
  have f4 : ∀ f : Nat, f ≠ 40 → f ≠ 17 → f ≠ 11 → f ≠ 13 → f ≠ 43 → f ≠ 45 → f ≠ 46 → t4.2 f = t0 f := fun f a b c d e g h => (b1 f a).trans ((a1 f b c).trans (f2 f d e g h))
  have m17 : ∀ j : Nat, t4.2 17 j = if j < (t0 2 0).toNatClampNeg then t0 17 j + t2 46 j else t0 17 j := fun j => by
    rw [b1 17 (by decide), a2 j, f2 17 (by decide) (by decide) (by decide) (by decide)]
  have m40 : ∀ h : Nat, t4.2 40 h = if h < n then t0 40 h + t2 43 h else t0 40 h := fun h => by
    rw [b2 h, a1 43 (by decide) (by decide), a1 40 (by decide) (by decide), f2 40 (by decide) (by decide) (by decide) (by decide)]
  have m13 : t4.2 13 = t2 13 := (b1 13 (by decide)).trans (a1 13 (by decide) (by decide))
  rw [hn]
  refine ⟨⟨?_, ?_, ?_, fun d dd => ?_, fun p hp => ?_, fun h hh => ?_, fun i => ?_⟩, fun j => ?_, ?_, ?_, m17, m40, k8⟩
  · rw [m13]
    exact k3
  · funext j
    rw [m17 j]
    by_cases q : j < (t0 2 0).toNatClampNeg
    · rw [if_pos q, k4 j q, c2]
    · rw [if_neg q, k5 j (by omega), c2]
  · funext h
    rw [m40 h]
    by_cases q : h < n
    · rw [if_pos q, k6 h q, c3]
    · rw [if_neg q, k7 h (by omega), c3]
  · rw [k1 701 (by decide) (by decide) (by decide) (by decide) (by decide) (by decide) (by decide) (by decide) (by decide) (by decide), f4 23 (by decide) (by decide) (by decide) (by decide) (by decide) (by decide) (by decide), f4 24 (by decide) (by decide) (by decide) (by decide) (by decide) (by decide) (by decide)]
    exact c4 d dd
  · rw [f4 2 (by decide) (by decide) (by decide) (by decide) (by decide) (by decide) (by decide)] at hp
    rw [m17 p, if_neg (by omega)]
    exact c5 p hp
  · rw [f4 6 (by decide) (by decide) (by decide) (by decide) (by decide) (by decide) (by decide)] at hh
    rw [m40 h, if_neg (by omega)]
    exact c6 h hh
  · rw [f4 22 (by decide) (by decide) (by decide) (by decide) (by decide) (by decide) (by decide)]
    exact c7 i
  · rw [m13, f4 14 (by decide) (by decide) (by decide) (by decide) (by decide) (by decide) (by decide), f4 23 (by decide) (by decide) (by decide) (by decide) (by decide) (by decide) (by decide), f4 24 (by decide) (by decide) (by decide) (by decide) (by decide) (by decide) (by decide)]
    have := k10 j
    rw [f2 14 (by decide) (by decide) (by decide) (by decide)] at this
    exact ⟨⟨this.1, this.2, (K j).1.2.2⟩, (K j).2⟩
  · rw [b3, k8, a1 43 (by decide) (by decide)]
  · rw [b1 11 (by decide), a3, f2 11 (by decide) (by decide) (by decide) (by decide)]
theorem c152_e (p : Int32 × St) : s_X9_pass_c152 p = (p.1, s_X9_lapses (s_X9_sells p.2)) := by
  obtain ⟨a, b⟩ := p
  rfl
theorem rc_step {k : Nat} {vx vm : Int32} {σx σm : St} (j : Nat) (R : RD 30 k σx σm) (H : RC σx σm) (K : KC σm) (hd : (σm 1 0).toInt ≤ 719) (n20 : (σm 6 0).toNatClampNeg ≤ 20) (p6 : (σm 2 0).toNatClampNeg ≤ 6) (hv : vx = vm) : RC (s_X8_pass_l35 j (vx, σx)).2 (s_X9_pass_l35 j (vm, σm)).2 ∧ KC (s_X9_pass_l35 j (vm, σm)).2 ∧ (s_X8_pass_l35 j (vx, σx)).1 = (s_X9_pass_l35 j (vm, σm)).1 ∧ (s_X9_pass_l35 j (vm, σm)).2 6 = σm 6 ∧ (s_X9_pass_l35 j (vm, σm)).2 2 = σm 2 := by
  have R1 := rd_day R hd
  obtain ⟨t0, ht0⟩ : ∃ t, put σm 1 0 (σm 1 0 + 1) = t := ⟨_, rfl⟩
  obtain ⟨s0, hs0⟩ : ∃ s, put σx 816 0 (σx 816 0 + 1) = s := ⟨_, rfl⟩
  rw [ht0, hs0] at R1
  have F0 : ∀ f : Nat, f ≠ 1 → t0 f = σm f := fun f q => by
    rw [← ht0]
    exact put_fr q
  have H0 : RC s0 t0 := rc_cast H (fun f hf => by
    rw [← hs0]
    exact put_fr (fun e => absurd (e ▸ hf) (by decide))) (fun f hf => F0 f (fun e => absurd (e ▸ hf) (by decide)))
  have K0 : KC t0 := fun i => by
    rw [F0 13 (by decide), F0 14 (by decide), F0 23 (by decide), F0 24 (by decide)]
    exact K i
  obtain ⟨X, hX⟩ : ∃ X, s_X8_lapse (s_X8_findUsed (s_X8_sellFromPound (s_X8_grazeAll s0).2)) = X := ⟨_, rfl⟩
  have ex : s_X8_pass_l35 j (vx, σx) = (vx + (s_X8_grazeAll s0).1, X) := by
    unfold s_X8_pass_l35
    try dsimp only
    rw [hs0, hX]
  have FX9 : ∀ f : Nat, f ∈ FXc → X f = (s_X8_grazeAll s0).2 f := fun f hf => by
    rw [← hX, fr_s_X8_lapse (s_X8_findUsed (s_X8_sellFromPound (s_X8_grazeAll s0).2)) (fun e => absurd (e ▸ hf) (by decide)) (fun e => absurd (e ▸ hf) (by decide)), fr_s_X8_findUsed (s_X8_sellFromPound (s_X8_grazeAll s0).2) (fun e => absurd (e ▸ hf) (by decide)), fr_s_X8_sellFromPound (s_X8_grazeAll s0).2 (fun e => absurd (e ▸ hf) (by decide)) (fun e => absurd (e ▸ hf) (by decide)) (fun e => absurd (e ▸ hf) (by decide))]
  obtain ⟨t1, ht1⟩ : ∃ t, iter s_X9_pass_l57 ((6 : Int32).toNatClampNeg - 0) 0 (s_X9_places t0) = t := ⟨_, rfl⟩
  obtain ⟨t2, ht2⟩ : ∃ t, s_X9_goesA t1 (t1 1 0) = t := ⟨_, rfl⟩
  obtain ⟨t3, ht3⟩ : ∃ t, iter s_X9_pass_l101 ((t2 2 0).toNatClampNeg - 0) 0 t2 = t := ⟨_, rfl⟩
  obtain ⟨t4, ht4⟩ : ∃ t, iter s_X9_pass_l152 ((t3 6 0).toNatClampNeg - 0) 0 (vm, t3) = t := ⟨_, rfl⟩
  obtain ⟨Y, hY⟩ : ∃ Y, s_X9_lapses (s_X9_sells t4.2) = Y := ⟨_, rfl⟩
  have em : s_X9_pass_l35 j (vm, σm) = (t4.1, Y) := by
    unfold s_X9_pass_l35
    try dsimp only
    rw [ht0, ht1]
    unfold s_X9_pass_c57
    try dsimp only
    rw [ht2, ht3]
    unfold s_X9_pass_c101
    try dsimp only
    rw [ht4, c152_e, hY]
  have f4 : ∀ f : Nat, f ≠ 40 → f ≠ 17 → f ≠ 11 → f ≠ 13 → f ≠ 43 → f ≠ 46 → f ≠ 45 → t4.2 f = t0 f := by
    intro f p1 p2 p3 p4 p5 p6 p7
    rw [← ht4, fr_152 p1]
    show t3 f = t0 f
    rw [← ht3, fr_101 p2 p3, ← ht2, fr_s_X9_goesA _ _ p4 p5 p6, ← ht1, fr_57 p6, fr_s_X9_places _ p7]
  obtain ⟨q1, q2, q3, -⟩ := rc_day R1 H0 K0 (by rw [F0 6 (by decide)]; exact n20) (by rw [F0 2 (by decide)]; exact p6) vm ht1 ht2 ht3 ht4
  rw [ex, em]
  have L : ∀ f : Nat, f ∈ FMc ++ [14, 6, 2] → Y f = t4.2 f := fun f hf => by
    rw [← hY, fr_s_X9_lapses (s_X9_sells t4.2) (fun e => absurd (e ▸ hf) (by decide)) (fun e => absurd (e ▸ hf) (by decide)) (fun e => absurd (e ▸ hf) (by decide)) (fun e => absurd (e ▸ hf) (by decide)), fr_s_X9_sells t4.2 (fun e => absurd (e ▸ hf) (by decide)) (fun e => absurd (e ▸ hf) (by decide)) (fun e => absurd (e ▸ hf) (by decide))]
  have q1' : RC X Y := rc_cast q1 FX9 (fun f hf => L f (List.mem_append_left _ hf))
  have q3' : vx + (s_X8_grazeAll s0).1 = t4.1 := by rw [q3, hv]
  have KY : KC Y := fun i => by
    rw [L 13 (by decide), L 14 (by decide), L 23 (by decide), L 24 (by decide)]
    exact q2 i
  have Y6 : Y 6 = σm 6 := by rw [L 6 (by decide), f4 6 (by decide) (by decide) (by decide) (by decide) (by decide) (by decide) (by decide), F0 6 (by decide)]
  have Y2 : Y 2 = σm 2 := by rw [L 2 (by decide), f4 2 (by decide) (by decide) (by decide) (by decide) (by decide) (by decide) (by decide), F0 2 (by decide)]
  exact ⟨q1', KY, q3', Y6, Y2⟩
theorem bC_pass {k : Nat} {σx σm : St} (hk : k ≤ 511) (hI : IX σx) (hJ : IR σm) (hJR : JR σm) (hR : RelC k σx σm) (a1 : Int32) : (s_X8_pass σx a1).1 = (s_X9_pass σm a1).1 ∧ RC (s_X8_pass σx a1).2 (s_X9_pass σm a1).2 := by
  obtain ⟨hB, hC⟩ := hR
  have a816 : σx 816 0 = σm 1 0 := congrFun hB.1.2.2.2.2.2.1 0
  have hd := ir_1 hJ
  unfold s_X8_pass s_X9_pass
  rw [a816]
  by_cases h1 : (1 : Int32) ≤ a1
  · by_cases h2 : a1 ≤ 720 - σm 1 0
    · simp only [if_pos h1, if_pos h2]
      have o1 : (1 : Int32).toInt = 1 := by decide
      have o7 : (720 : Int32).toInt = 720 := by decide
      rw [Int32.le_iff_toInt_le, o1] at h1
      rw [Int32.le_iff_toInt_le, sub_ti (by rw [o7]; omega) (by rw [o7]; omega), o7] at h2
      have na : ((a1.toNatClampNeg - 0 : Nat) : Int) = a1.toInt := by
        rw [Nat.sub_zero, tn_toInt]
        omega
      have n20 : (σm 6 0).toNatClampNeg ≤ 20 := cnt_le (ir_6 hJ)
      have p6 : (σm 2 0).toNatClampNeg ≤ 6 := cnt_le (ir_2 hJ)
      have key := it_sim (L := s_X8_pass_l35) (M := s_X9_pass_l35) (P := fun j (x y : Int32 × St) => RD 30 k x.2 y.2 ∧ (y.2 1 0).toInt = (σm 1 0).toInt + (j : Int) ∧ RC x.2 y.2 ∧ KC y.2 ∧ x.1 = y.1 ∧ y.2 6 = σm 6 ∧ y.2 2 = σm 2) (s := (0, σx)) (t := (0, σm)) ⟨rd_of hJ hJR hB, by show (σm 1 0).toInt = (σm 1 0).toInt + ((0 : Nat) : Int); omega, hC, kc_of hJ, rfl, rfl, rfl⟩ (a1.toNatClampNeg - 0) (fun j x y hj ih => by
        obtain ⟨vx, x⟩ := x
        obtain ⟨vm, y⟩ := y
        obtain ⟨i1, i2, i3, i4, i5, i6, i7⟩ := ih
        have i2 : (y 1 0).toInt = (σm 1 0).toInt + (j : Int) := i2
        have i6 : y 6 = σm 6 := i6
        have i7 : y 2 = σm 2 := i7
        have i1 : RD 30 k x y := i1
        have i3 : RC x y := i3
        have i4 : KC y := i4
        have i5 : vx = vm := i5
        have i8 : (y 6 0).toNatClampNeg ≤ 20 := by rw [i6]; exact n20
        have i9 : (y 2 0).toNatClampNeg ≤ 6 := by rw [i7]; exact p6
        obtain ⟨r1, r2⟩ := rd_step (vx := vx) (vm := vm) (σx := x) (σm := y) j i1 (show (y 1 0).toInt ≤ 719 by omega)
        obtain ⟨u1, u2, u3, u4, u5⟩ := rc_step (vx := vx) (vm := vm) (σx := x) (σm := y) j i1 i3 i4 (show (y 1 0).toInt ≤ 719 by omega) i8 i9 i5
        refine ⟨r1, ?_, u1, u2, u3, u4.trans i6, u5.trans i7⟩
        rw [r2, add_ti (by rw [o1]; omega) (by rw [o1]; omega), o1, i2]
        omega)
      obtain ⟨px, hpx⟩ : ∃ p, iter s_X8_pass_l35 (a1.toNatClampNeg - 0) 0 ((0 : Int32), σx) = p := ⟨_, rfl⟩
      obtain ⟨pm, hpm⟩ : ∃ p, iter s_X9_pass_l35 (a1.toNatClampNeg - 0) 0 ((0 : Int32), σm) = p := ⟨_, rfl⟩
      rw [hpx, hpm] at key ⊢
      obtain ⟨vx, x⟩ := px
      obtain ⟨vm, y⟩ := pm
      exact ⟨key.2.2.2.2.1, rc_cast key.2.2.1 (fun f hf => rfl) (fun f hf => put_fr (fun e => absurd (e ▸ hf) (by decide)))⟩
    · simp only [if_pos h1, if_neg h2]
      exact ⟨rfl, rc_ref hC _ _⟩
  · simp only [if_neg h1]
    exact ⟨rfl, rc_ref hC _ _⟩
theorem rlC_pass {k : Nat} {σx σm : St} (hk : k ≤ 511) (hI : IX σx) (hJ : IR σm) (hJR : JR σm) (hR : RelC k σx σm) (a1 : Int32) : RelC (k + 1) (s_X8_pass σx a1).2 (s_X9_pass σm a1).2 := ⟨rlB_pass hk hI hJ hJR hR.1 a1, (bC_pass hk hI hJ hJR hR a1).2⟩
theorem eqC_pass {k : Nat} {σx σm : St} (hk : k ≤ 511) (hI : IX σx) (hJ : IR σm) (hJR : JR σm) (hR : RelC k σx σm) (a1 : Int32) : (s_X8_pass σx a1).1 = (s_X9_pass σm a1).1 := (bC_pass hk hI hJ hJR hR a1).1
/-! hay is cut -/
theorem cut_13 (σ : St) (a1 : Int32) (v : Int64) : (s_X9_cut_c125 σ a1 v).2 13 = upd (σ 13) a1.toNatClampNeg (σ 13 a1.toNatClampNeg - (if (0 : Int32) < σ 13 a1.toNatClampNeg - 100 then σ 13 a1.toNatClampNeg - 100 else 0)) ∧ (s_X9_cut_c125 σ a1 v).1 = (if (0 : Int32) < σ 13 a1.toNatClampNeg - 100 then σ 13 a1.toNatClampNeg - 100 else 0) := by
  unfold s_X9_cut_c125
  try dsimp only
  have hl : ∀ (k : Nat) (s t : Int32 × St), s_X9_cut_l159 σ a1 v k s = some t → t.2 13 = s.2 13 := by
    intro k s t e
    obtain ⟨s1, s2⟩ := s
    unfold s_X9_cut_l159 s_X9_cut_c181 at e
    dsimp only at e
    split at e
    · cases e
    · cases e
      rfl
  have h := iterC_fr (P := fun s : Int32 × St => s.2 13) hl
  unfold s_X9_cut_c159
  try dsimp only
  exact ⟨h _ _ _, rfl⟩
theorem bC_cut {k : Nat} {σx σm : St} (hk : k ≤ 511) (hI : IX σx) (hJ : IR σm) (hJR : JR σm) (hR : RelC k σx σm) (a1 : Int32) : (s_X8_cut σx a1).1 = (s_X9_cut σm a1).1 ∧ RC (s_X8_cut σx a1).2 (s_X9_cut σm a1).2 := by
  obtain ⟨⟨E, G, -⟩, HC⟩ := hR
  have hC0 := HC
  obtain ⟨c1, c2, c3, c4, c5, c6, c7⟩ := HC
  obtain ⟨e1, e2, e3, e4, e5, e6, e7, e8, e9, e10, e11, e12, e13, e14, e15, e16, e17, e18⟩ := id E
  obtain ⟨g1, g2, g3, g4, g5, g6, g7, g8, g9, g10⟩ := id G
  unfold s_X8_cut s_X9_cut s_X9_cut_c21
  try dsimp only
  simp only [ite_not, ra_io, ra_ih, ra_ip, ra_ir, ra_ie, ra_iw, ra_mc, e1, e2, e3, e4, e5, e6, e7, e8, e9, e10, e11, e12, e13, e14, e15, e16, e17, e18, g1, g2, g3, g4, g5, g6, g7, g8, g9, g10]
  by_cases h1 : s_X9_isIn a1 (σm 2 0) = 0
  · simp only [if_pos h1]
    exact ⟨rfl, rc_ref hC0 _ _⟩
  · simp only [if_neg h1]
    obtain ⟨p, hp, rfl⟩ := vp_in_of (in_vp.mpr h1) (tn_lt _)
    have p31 : p < 2 ^ 31 := Nat.lt_trans hp (tn_lt _)
    have hrs := rst_eq g6 p31
    simp only [nI_clamp p31, hrs, Nat.sub_zero]
    by_cases h2 : s_X9_rests σm (nI p) = 0
    · simp only [if_pos h2]
      have n6 : (σm 6 0).toNatClampNeg ≤ 20 := cnt_le (ir_6 hJ)
      have hon : (s_X8_herdsOn σx (nI p) ≤ 0) ↔ (iter (s_X9_cut_l21 σm (nI p)) (σm 6 0).toNatClampNeg 0 0 = 0) := by
        rw [on_m, on_sum, Int32.le_iff_toInt_le, show (0 : Int32).toInt = 0 by decide, e5, e18, on_0 (fun h => σm 38 h = nI p) _ n6]
        refine ⟨fun h j hj => Or.inr (h j hj), fun h j hj e => ?_⟩
        exact (h j hj).elim (out_1 hJR.2.2.2 hj p31 e) (fun q => q e)
      by_cases h3 : s_X8_herdsOn σx (nI p) ≤ 0
      · simp only [if_pos h3, if_pos (hon.mp h3), c1]
        obtain ⟨hay, hhay⟩ : ∃ y, (if (0 : Int32) < σm 13 p - 100 then σm 13 p - 100 else 0) = y := ⟨_, rfl⟩
        obtain ⟨u1, u2⟩ := cut_13 σm (nI p) (iter (s_X9_cut_l125 σm (nI p)) (σm 5 0).toNatClampNeg 0 0)
        rw [nI_clamp p31, hhay] at u1 u2
        rw [hhay]
        refine ⟨u2.symm, ?_⟩
        have R1 : RC (put σx 403 p (σm 13 p - hay)) (put σm 13 p (σm 13 p - hay)) := ⟨ra_u c1 _ _, c2, c3, c4, c5, c6, c7⟩
        refine rc_cast R1 (fun f hf => ?_) (fun f hf => ?_)
        · exact (fr_s_X8_shareHay _ _ _ (fun e => absurd (e ▸ hf) (by decide)) (fun e => absurd (e ▸ hf) (by decide)) (fun e => absurd (e ▸ hf) (by decide)) (fun e => absurd (e ▸ hf) (by decide)) (fun e => absurd (e ▸ hf) (by decide)) (fun e => absurd (e ▸ hf) (by decide)) (fun e => absurd (e ▸ hf) (by decide))).trans (put_fr (fun e => absurd (e ▸ hf) (by decide)))
        · by_cases hf13 : f = 13
          · subst hf13
            rw [u1]
            rfl
          · rw [put_fr hf13]
            exact fr_s_X9_cut_c125 _ _ _ (fun e => absurd (e ▸ hf) (by decide)) (fun e => absurd (e ▸ hf) (by decide)) hf13 (fun e => absurd (e ▸ hf) (by decide)) (fun e => absurd (e ▸ hf) (by decide))
      · simp only [if_neg h3, if_neg (fun e => h3 (hon.mpr e))]
        exact ⟨rfl, rc_ref hC0 _ _⟩
    · simp only [if_neg h2]
      exact ⟨rfl, rc_ref hC0 _ _⟩
theorem rlC_cut {k : Nat} {σx σm : St} (hk : k ≤ 511) (hI : IX σx) (hJ : IR σm) (hJR : JR σm) (hR : RelC k σx σm) (a1 : Int32) : RelC (k + 1) (s_X8_cut σx a1).2 (s_X9_cut σm a1).2 := ⟨rlB_cut hk hI hJ hJR hR.1 a1, (bC_cut hk hI hJ hJR hR a1).2⟩
theorem eqC_cut {k : Nat} {σx σm : St} (hk : k ≤ 511) (hI : IX σx) (hJ : IR σm) (hJR : JR σm) (hR : RelC k σx σm) (a1 : Int32) : (s_X8_cut σx a1).1 = (s_X9_cut σm a1).1 := (bC_cut hk hI hJ hJR hR a1).1
/-! what is asked of a piece, of a herd -/
theorem hn_eq {σx σm : St} (E : RE σx σm) (J4 : ∀ h : Nat, h < (σm 6 0).toNatClampNeg → ¬ σm 41 h = 0 → σm 38 h < 0) {p : Nat} (p31 : p < 2 ^ 31) : s_X8_herdsOn σx (nI p) = iter (s_X9_pieceOf_l101 σm (nI p)) (σm 6 0).toNatClampNeg 0 (0 : Int32) := by
  have e5 : σx 815 = σm 6 := E.2.2.2.2.1
  have e18 : σx 203 = σm 38 := E.2.2.2.2.2.2.2.2.2.2.2.2.2.2.2.2.2
  rw [on_sum, e5, e18, it_addB (f := fun h => if σm 38 h = nI p then 1 else 0) _ (fun h v hh => ?_), Int32.zero_add]
  unfold s_X9_pieceOf_l101
  try dsimp only
  by_cases c : σm 38 h = nI p
  · rw [if_pos c, if_neg (out_1 J4 hh p31 c), if_pos c]
  · rw [if_neg c, if_neg c]
    split <;> rfl
theorem eqC_pieceOf {k : Nat} {σx σm : St} (hk : k ≤ 511) (hI : IX σx) (hJ : IR σm) (hJR : JR σm) (hR : RelC k σx σm) (a1 a2 : Int32) : (s_X8_pieceOf σx a1 a2).1 = (s_X9_pieceOf σm a1 a2).1 := by
  obtain ⟨⟨E, G, -⟩, HC⟩ := hR
  have hC0 := HC
  obtain ⟨c1, c2, c3, c4, c5, c6, c7⟩ := HC
  obtain ⟨e1, e2, e3, e4, e5, e6, e7, e8, e9, e10, e11, e12, e13, e14, e15, e16, e17, e18⟩ := id E
  obtain ⟨g1, g2, g3, g4, g5, g6, g7, g8, g9, g10⟩ := id G
  unfold s_X8_pieceOf s_X9_pieceOf
  rw [ra_ip, e1]
  by_cases h1 : s_X9_isIn a1 (σm 2 0) = 0
  · rw [if_pos h1, if_pos h1]
    rfl
  · rw [if_neg h1, if_neg h1]
    obtain ⟨p, hp, rfl⟩ := vp_in_of (in_vp.mpr h1) (tn_lt _)
    have p31 : p < 2 ^ 31 := Nat.lt_trans hp (tn_lt _)
    rw [po_eq E hJ hJR.2.2.2 p31, hn_eq E hJR.2.2.2 p31, c1, c2, g3, g4, g6, Nat.sub_zero]
    unfold s_X9_pieceOf_c101
    (repeat' split) <;> rfl
theorem fee_eq {σx σm : St} (E : RE σx σm) (G : RG σx σm) (a1 : Int32) : s_X2_fee σx a1.toNatClampNeg (σx 816 0) = s_X9_feeOf σm a1 := by
  obtain ⟨e1, e2, e3, e4, e5, e6, e7, e8, e9, e10, e11, e12, e13, e14, e15, e16, e17, e18⟩ := id E
  obtain ⟨g1, g2, g3, g4, g5, g6, g7, g8, g9, g10⟩ := id G
  unfold s_X2_fee s_X2_daysInPound s_X9_feeOf
  rw [g1, g2, e6, e17]
  by_cases h : σm 41 a1.toNatClampNeg = 1
  · rw [if_pos h, if_pos h]
  · rw [if_neg h, if_neg h, Int32.zero_mul]
theorem eqC_herdOf {k : Nat} {σx σm : St} (hk : k ≤ 511) (hI : IX σx) (hJ : IR σm) (hJR : JR σm) (hR : RelC k σx σm) (a1 a2 : Int32) : (s_X8_herdOf σx a1 a2).1 = (s_X9_herdOf σm a1 a2).1 := by
  obtain ⟨⟨E, G, -⟩, HC⟩ := hR
  have hC0 := HC
  obtain ⟨c1, c2, c3, c4, c5, c6, c7⟩ := HC
  obtain ⟨e1, e2, e3, e4, e5, e6, e7, e8, e9, e10, e11, e12, e13, e14, e15, e16, e17, e18⟩ := id E
  obtain ⟨g1, g2, g3, g4, g5, g6, g7, g8, g9, g10⟩ := id G
  unfold s_X8_herdOf s_X9_herdOf
  rw [fee_eq E G a1, ra_ie, e5, e15, e16, e17, e18, c3, g1]
  (repeat' split) <;> rfl
