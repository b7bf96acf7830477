section LW
variable {p : Program} {l : Launch} {e : Env} {s : State} {m : MethodId} {below : List Frame} {meth : Method} {c : Code} {D : va_G} {ca : Nat → ClassId} {A : Nat → Prop} {b L tb gx gm k : Nat} {ax am : Nat → Nat} {xs : Nat → Int32}
set_option maxHeartbeats 4000000 in
set_option maxRecDepth 100000 in
/-- the head of the loop: the end, or one call more -/
theorem lw_head (G : LH p s m meth c D ca A b L tb xs) (hk5 : k ≤ 512) (nx : 6 * k + 6 ≤ L → LN p l e s m below meth c D ca A b gx gm ax am (k + 1) 18) : LN p l e s m below meth c D ca A b gx gm ax am k 18 := by
  obtain ⟨⟨hx, hb, hr, hml, hown, hts0, hX, hbl, hlocks, hgv⟩, hA, hA2, hK, hZ, hL⟩ := id G
  have hbA : ¬ A b := fun h => absurd (hA2 b h) (Nat.not_le.mpr hbl)
  intro pa σx σm H locs ls hP hD hS hl hI hJ hJR h7 hR
  refine lv_iload_n hx hb dL_law_18 rfl (lv_at hl 0 rfl) ?_
  refine lv_aload_n hx hb dL_law_19 rfl (lv_at hl 3 rfl) ?_
  refine va_slen hx hb hX hbl hbA hS dL_law_20 ?_
  refine lv_bipush (v := 6) hx hb dL_law_21 (by decide) ?_
  refine lv_isub hx hb dL_law_23 ?_
  refine lv_icmp_gt (tgt := 1099) hx hb dL_law_24 (by decide) (fun c_1 => ?_) (fun c_1 => ?_)
  · refine lv_iconst (v := 1) hx hb dL_law_1099 (by decide) ?_
    refine va_forget (fun q hq => hA2 _ (hS.2.2 q hq)) ?_
    refine W.widen (k := 600000) (n := 7302250) (by omega) (by omega) ?_
    exact lw_ret hx hb hr hlocks dL_law_1100
  · have hk : 6 * k + 6 ≤ L := by
      rw [Int32.lt_iff_toInt_lt] at c_1
      have eL : (Int32.ofNat L).toInt = (L : Int) := nI_toInt (n := L) (by omega)
      have e6 : (6 : Int32).toInt = 6 := by decide
      rw [sub_ti (by rw [eL, e6]; omega) (by rw [eL, e6]; omega), eL, e6, nI_toInt (by omega)] at c_1
      omega
    have nx := nx hk
    refine lv_aload_n hx hb dL_law_27 rfl (lv_at hl 3 rfl) ?_
    refine lv_iload_n hx hb dL_law_28 rfl (lv_at hl 0 rfl) ?_
    refine va_sld hx hb hX hbl hbA hS (lq0 hk hL) dL_law_29 ?_
    refine lv_bipush (v := 31) hx hb dL_law_30 (by decide) ?_
    refine lv_iand hx hb dL_law_32 ?_
    refine lv_topi (fun v ev => ?_)
    obtain ⟨j, hj, ej⟩ : ∃ j : Nat, j < 32 ∧ v = nI j := by rw [ev]; exact pk_andE _ 5 (by decide)
    match j, hj, ej with
    | 0, _, ej =>
      refine lv_tableIn (tgt := 156) hx hb dL_law_33 (by rw [ej]; decide) (by rw [ej]; decide) (by rw [ej]; rfl) (by decide) ?_
      exact lc_0 G hk nx pa σx σm H locs ls hP hD hS hl hI hJ hJR h7 hR
    | 1, _, ej =>
      refine lv_tableIn (tgt := 225) hx hb dL_law_33 (by rw [ej]; decide) (by rw [ej]; decide) (by rw [ej]; rfl) (by decide) ?_
      exact lc_1 G hk nx pa σx σm H locs ls hP hD hS hl hI hJ hJR h7 hR
    | 2, _, ej =>
      refine lv_tableIn (tgt := 248) hx hb dL_law_33 (by rw [ej]; decide) (by rw [ej]; decide) (by rw [ej]; rfl) (by decide) ?_
      exact lc_2 G hk nx pa σx σm H locs ls hP hD hS hl hI hJ hJR h7 hR
    | 3, _, ej =>
      refine lv_tableIn (tgt := 271) hx hb dL_law_33 (by rw [ej]; decide) (by rw [ej]; decide) (by rw [ej]; rfl) (by decide) ?_
      exact lc_3 G hk nx pa σx σm H locs ls hP hD hS hl hI hJ hJR h7 hR
    | 4, _, ej =>
      refine lv_tableIn (tgt := 314) hx hb dL_law_33 (by rw [ej]; decide) (by rw [ej]; decide) (by rw [ej]; rfl) (by decide) ?_
      exact lc_4 G hk nx pa σx σm H locs ls hP hD hS hl hI hJ hJR h7 hR
    | 5, _, ej =>
      refine lv_tableIn (tgt := 357) hx hb dL_law_33 (by rw [ej]; decide) (by rw [ej]; decide) (by rw [ej]; rfl) (by decide) ?_
      exact lc_5 G hk nx pa σx σm H locs ls hP hD hS hl hI hJ hJR h7 hR
    | 6, _, ej =>
      refine lv_tableIn (tgt := 420) hx hb dL_law_33 (by rw [ej]; decide) (by rw [ej]; decide) (by rw [ej]; rfl) (by decide) ?_
      exact lc_6 G hk nx pa σx σm H locs ls hP hD hS hl hI hJ hJR h7 hR
    | 7, _, ej =>
      refine lv_tableIn (tgt := 473) hx hb dL_law_33 (by rw [ej]; decide) (by rw [ej]; decide) (by rw [ej]; rfl) (by decide) ?_
      exact lc_7 G hk nx pa σx σm H locs ls hP hD hS hl hI hJ hJR h7 hR
    | 8, _, ej =>
      refine lv_tableIn (tgt := 506) hx hb dL_law_33 (by rw [ej]; decide) (by rw [ej]; decide) (by rw [ej]; rfl) (by decide) ?_
      exact lc_8 G hk nx pa σx σm H locs ls hP hD hS hl hI hJ hJR h7 hR
    | 9, _, ej =>
      refine lv_tableIn (tgt := 539) hx hb dL_law_33 (by rw [ej]; decide) (by rw [ej]; decide) (by rw [ej]; rfl) (by decide) ?_
      exact lc_9 G hk nx pa σx σm H locs ls hP hD hS hl hI hJ hJR h7 hR
    | 10, _, ej =>
      refine lv_tableIn (tgt := 582) hx hb dL_law_33 (by rw [ej]; decide) (by rw [ej]; decide) (by rw [ej]; rfl) (by decide) ?_
      exact lc_10 G hk nx pa σx σm H locs ls hP hD hS hl hI hJ hJR h7 hR
    | 11, _, ej =>
      refine lv_tableIn (tgt := 615) hx hb dL_law_33 (by rw [ej]; decide) (by rw [ej]; decide) (by rw [ej]; rfl) (by decide) ?_
      exact lc_11 G hk nx pa σx σm H locs ls hP hD hS hl hI hJ hJR h7 hR
    | 12, _, ej =>
      refine lv_tableIn (tgt := 648) hx hb dL_law_33 (by rw [ej]; decide) (by rw [ej]; decide) (by rw [ej]; rfl) (by decide) ?_
      exact lc_12 G hk nx pa σx σm H locs ls hP hD hS hl hI hJ hJR h7 hR
    | 13, _, ej =>
      refine lv_tableIn (tgt := 671) hx hb dL_law_33 (by rw [ej]; decide) (by rw [ej]; decide) (by rw [ej]; rfl) (by decide) ?_
      exact lc_13 G hk nx pa σx σm H locs ls hP hD hS hl hI hJ hJR h7 hR
    | 14, _, ej =>
      refine lv_tableIn (tgt := 694) hx hb dL_law_33 (by rw [ej]; decide) (by rw [ej]; decide) (by rw [ej]; rfl) (by decide) ?_
      exact lc_14 G hk nx pa σx σm H locs ls hP hD hS hl hI hJ hJR h7 hR
    | 15, _, ej =>
      refine lv_tableIn (tgt := 727) hx hb dL_law_33 (by rw [ej]; decide) (by rw [ej]; decide) (by rw [ej]; rfl) (by decide) ?_
      exact lc_15 G hk nx pa σx σm H locs ls hP hD hS hl hI hJ hJR h7 hR
    | 16, _, ej =>
      refine lv_tableIn (tgt := 750) hx hb dL_law_33 (by rw [ej]; decide) (by rw [ej]; decide) (by rw [ej]; rfl) (by decide) ?_
      exact lc_16 G hk nx pa σx σm H locs ls hP hD hS hl hI hJ hJR h7 hR
    | 17, _, ej =>
      refine lv_tableIn (tgt := 783) hx hb dL_law_33 (by rw [ej]; decide) (by rw [ej]; decide) (by rw [ej]; rfl) (by decide) ?_
      exact lc_17 G hk nx pa σx σm H locs ls hP hD hS hl hI hJ hJR h7 hR
    | 18, _, ej =>
      refine lv_tableIn (tgt := 806) hx hb dL_law_33 (by rw [ej]; decide) (by rw [ej]; decide) (by rw [ej]; rfl) (by decide) ?_
      exact lc_18 G hk nx pa σx σm H locs ls hP hD hS hl hI hJ hJR h7 hR
    | 19, _, ej =>
      refine lv_tableIn (tgt := 829) hx hb dL_law_33 (by rw [ej]; decide) (by rw [ej]; decide) (by rw [ej]; rfl) (by decide) ?_
      exact lc_19 G hk nx pa σx σm H locs ls hP hD hS hl hI hJ hJR h7 hR
    | 20, _, ej =>
      refine lv_tableIn (tgt := 852) hx hb dL_law_33 (by rw [ej]; decide) (by rw [ej]; decide) (by rw [ej]; rfl) (by decide) ?_
      exact lc_20 G hk nx pa σx σm H locs ls hP hD hS hl hI hJ hJR h7 hR
    | 21, _, ej =>
      refine lv_tableIn (tgt := 905) hx hb dL_law_33 (by rw [ej]; decide) (by rw [ej]; decide) (by rw [ej]; rfl) (by decide) ?_
      exact lc_21 G hk nx pa σx σm H locs ls hP hD hS hl hI hJ hJR h7 hR
    | 22, _, ej =>
      refine lv_tableIn (tgt := 938) hx hb dL_law_33 (by rw [ej]; decide) (by rw [ej]; decide) (by rw [ej]; rfl) (by decide) ?_
      exact lc_22 G hk nx pa σx σm H locs ls hP hD hS hl hI hJ hJR h7 hR
    | 23, _, ej =>
      refine lv_tableIn (tgt := 971) hx hb dL_law_33 (by rw [ej]; decide) (by rw [ej]; decide) (by rw [ej]; rfl) (by decide) ?_
      exact lc_23 G hk nx pa σx σm H locs ls hP hD hS hl hI hJ hJR h7 hR
    | 24, _, ej =>
      refine lv_tableIn (tgt := 1004) hx hb dL_law_33 (by rw [ej]; decide) (by rw [ej]; decide) (by rw [ej]; rfl) (by decide) ?_
      exact lc_24 G hk nx pa σx σm H locs ls hP hD hS hl hI hJ hJR h7 hR
    | 25, _, ej =>
      refine lv_tableIn (tgt := 1037) hx hb dL_law_33 (by rw [ej]; decide) (by rw [ej]; decide) (by rw [ej]; rfl) (by decide) ?_
      exact lc_25 G hk nx pa σx σm H locs ls hP hD hS hl hI hJ hJR h7 hR
    | 26, _, ej =>
      refine lv_tableIn (tgt := 1070) hx hb dL_law_33 (by rw [ej]; decide) (by rw [ej]; decide) (by rw [ej]; rfl) (by decide) ?_
      exact lc_26 G hk nx pa σx σm H locs ls hP hD hS hl hI hJ hJR h7 hR
    | 27, _, ej =>
      refine lv_tableOut (tgt := 1093) hx hb dL_law_33 (by rw [ej]; decide) (by decide) ?_
      exact W.widen (k := 70 + (k + 1)) (n := 3691 + 10 * (k + 1)) (by omega) (by omega) (lc_next G nx pa σx σm H locs ls hP hD hS hl hI hJ hJR (o7a rfl h7) (rl_mono hR))
    | 28, _, ej =>
      refine lv_tableOut (tgt := 1093) hx hb dL_law_33 (by rw [ej]; decide) (by decide) ?_
      exact W.widen (k := 70 + (k + 1)) (n := 3691 + 10 * (k + 1)) (by omega) (by omega) (lc_next G nx pa σx σm H locs ls hP hD hS hl hI hJ hJR (o7a rfl h7) (rl_mono hR))
    | 29, _, ej =>
      refine lv_tableOut (tgt := 1093) hx hb dL_law_33 (by rw [ej]; decide) (by decide) ?_
      exact W.widen (k := 70 + (k + 1)) (n := 3691 + 10 * (k + 1)) (by omega) (by omega) (lc_next G nx pa σx σm H locs ls hP hD hS hl hI hJ hJR (o7a rfl h7) (rl_mono hR))
    | 30, _, ej =>
      refine lv_tableOut (tgt := 1093) hx hb dL_law_33 (by rw [ej]; decide) (by decide) ?_
      exact W.widen (k := 70 + (k + 1)) (n := 3691 + 10 * (k + 1)) (by omega) (by omega) (lc_next G nx pa σx σm H locs ls hP hD hS hl hI hJ hJR (o7a rfl h7) (rl_mono hR))
    | 31, _, ej =>
      refine lv_tableOut (tgt := 1093) hx hb dL_law_33 (by rw [ej]; decide) (by decide) ?_
      exact W.widen (k := 70 + (k + 1)) (n := 3691 + 10 * (k + 1)) (by omega) (by omega) (lc_next G nx pa σx σm H locs ls hP hD hS hl hI hJ hJR (o7a rfl h7) (rl_mono hR))
    | j + 32, hj, _ => exact absurd hj (Nat.not_lt.mpr (Nat.le_add_left _ _))
theorem lw_all (G : LH p s m meth c D ca A b L tb xs) : ∀ (n k : Nat), L ≤ 6 * k + n → k ≤ 512 → LN p l e s m below meth c D ca A b gx gm ax am k 18 := by
  intro n
  induction n with
  | zero => exact fun k h h5 => lw_head G h5 (fun h6 => absurd h (by omega))
  | succ n ih => exact fun k h h5 => lw_head G h5 (fun h6 => ih (k + 1) (by omega) (by have hL := G.2.2.2.2.2; omega))
end LW
