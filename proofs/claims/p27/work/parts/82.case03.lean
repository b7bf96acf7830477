section LW
variable {p : Program} {l : Launch} {e : Env} {s : State} {m : MethodId} {below : List Frame} {meth : Method} {c : Code} {D : va_G} {ca : Nat → ClassId} {A : Nat → Prop} {b L tb gx gm k : Nat} {ax am : Nat → Nat} {xs : Nat → Int32}
set_option maxHeartbeats 4000000 in
set_option maxRecDepth 100000 in
theorem lc_9 (G : LH p s m meth c D ca A b L tb xs) (hk : 6 * k + 6 ≤ L) (nx : LN p l e s m below meth c D ca A b gx gm ax am (k + 1) 18) : LN p l e s m below meth c D ca A b gx gm ax am k 539 := by
  obtain ⟨⟨hx, hb, hr, hml, hown, hts0, hX, hbl, hlocks, hgv⟩, hA, hA2, hK, hZ, hL⟩ := id G
  have hown : s.vm.findClass RL = some m.cls := hown
  have hts : ∀ w ∈ wsL_law, w.before #[Value.ref b] s = true := fun w h => hts0 w (wsL_law_in w h)
  have hbA : ¬ A b := fun h => absurd (hA2 b h) (Nat.not_le.mpr hbl)
  intro pa σx σm H locs ls hP hD hS hl hI hJ hJR h7 hR
  have q1 := lq (v := 1) (n := 1) (by decide) (by decide) hk hL
  have q2 := lq (v := 2) (n := 2) (by decide) (by decide) hk hL
  have q3 := lq (v := 3) (n := 3) (by decide) (by decide) hk hL
  obtain ⟨i, hi⟩ : ∃ i : Int32, nI (6 * k) = i := ⟨_, rfl⟩
  rw [hi] at hl q1 q2 q3
  refine lv_aload_n hx hb dL_law_539 rfl (lv_at hl 2 rfl) ?_
  refine lv_aload_n hx hb dL_law_540 rfl (lv_at hl 3 rfl) ?_
  refine lv_iload_n hx hb dL_law_541 rfl (lv_at hl 0 rfl) ?_
  refine lv_iconst (v := 1) hx hb dL_law_542 (by decide) ?_
  refine lv_iadd hx hb dL_law_543 ?_
  refine va_sld hx hb hX hbl hbA hS q1 dL_law_544 ?_
  refine lv_aload_n hx hb dL_law_545 rfl (lv_at hl 3 rfl) ?_
  refine lv_iload_n hx hb dL_law_546 rfl (lv_at hl 0 rfl) ?_
  refine lv_iconst (v := 2) hx hb dL_law_547 (by decide) ?_
  refine lv_iadd hx hb dL_law_548 ?_
  refine va_sld hx hb hX hbl hbA hS q2 dL_law_549 ?_
  refine lv_aload_n hx hb dL_law_550 rfl (lv_at hl 3 rfl) ?_
  refine lv_iload_n hx hb dL_law_551 rfl (lv_at hl 0 rfl) ?_
  refine lv_iconst (v := 3) hx hb dL_law_552 (by decide) ?_
  refine lv_iadd hx hb dL_law_553 ?_
  refine va_sld hx hb hX hbl hbA hS q3 dL_law_554 ?_
  have hF := tw_fl hD hS hA
  refine va_calli (va_runV (As := [.int (xs (i + 1).toNatClampNeg), .int (xs (i + 2).toNatClampNeg), .int (xs (i + 3).toNatClampNeg)]) (rest := []) ⟨hx, hb, hml, hown, hts⟩ (k_X8_herd l D ca gx ax pa tb σx (xs (i + 1).toNatClampNeg) (xs (i + 2).toNatClampNeg) (xs (i + 3).toNatClampNeg) H.size hI _ _ (Prod.eta _).symm) (cwV 3 hts gL_law_X8_herd rfl rfl rfl (by decide +kernel) ⟨Nat.le_of_ble_eq_true rfl, Nat.le_of_ble_eq_true rfl⟩) ⟨cw_blind, va_recv hK (tw_pl hP) (ci := 8) (q0 := 0) rfl rfl, cw_give (tw_pl hP) hK (tw_dl hD) hZ hS hF⟩ rfl rfl hl.1 rfl (lv_room (Nat.le_of_ble_eq_true rfl)) dL_law_555 (rm_ok (a := 1) (d := 8) (by omega) (by decide) (by decide))) hS (fun q _ h => hF q h) hF (fun r_1 u t H1 locs ht hvm hw hB hz1 hk1 hS => ?_)
  rw [hw]
  obtain ⟨pa9, hB⟩ := hB
  obtain ⟨hB, hI9⟩ := hB
  obtain ⟨hP, hD⟩ := tw_L hP hD hF hk1 ht hB
  clear hB hk1 hz1 hF hw ht
  generalize H1 = H at hP hS ⊢
  obtain ⟨τx, hτx⟩ : ∃ t9, (s_X8_herd σx (xs (i + 1).toNatClampNeg) (xs (i + 2).toNatClampNeg) (xs (i + 3).toNatClampNeg)).2 = t9 := ⟨_, rfl⟩
  rw [hτx] at hP hD hI9
  obtain ⟨vx, hvx⟩ : ∃ t9, (s_X8_herd σx (xs (i + 1).toNatClampNeg) (xs (i + 2).toNatClampNeg) (xs (i + 3).toNatClampNeg)).1 = t9 := ⟨_, rfl⟩
  rw [hvx]
  refine W.widen (k := 70 + (k + 1)) (n := 3691 + 10 * (k + 1)) (by omega) (by omega) ?_
  refine lv_pop hx hb dL_law_558 rfl ?_
  refine lv_aload_n hx hb dL_law_559 rfl (lv_at hl 1 rfl) ?_
  refine lv_aload_n hx hb dL_law_560 rfl (lv_at hl 3 rfl) ?_
  refine lv_iload_n hx hb dL_law_561 rfl (lv_at hl 0 rfl) ?_
  refine lv_iconst (v := 1) hx hb dL_law_562 (by decide) ?_
  refine lv_iadd hx hb dL_law_563 ?_
  refine va_sld hx hb hX hbl hbA hS q1 dL_law_564 ?_
  refine lv_aload_n hx hb dL_law_565 rfl (lv_at hl 3 rfl) ?_
  refine lv_iload_n hx hb dL_law_566 rfl (lv_at hl 0 rfl) ?_
  refine lv_iconst (v := 2) hx hb dL_law_567 (by decide) ?_
  refine lv_iadd hx hb dL_law_568 ?_
  refine va_sld hx hb hX hbl hbA hS q2 dL_law_569 ?_
  refine lv_aload_n hx hb dL_law_570 rfl (lv_at hl 3 rfl) ?_
  refine lv_iload_n hx hb dL_law_571 rfl (lv_at hl 0 rfl) ?_
  refine lv_iconst (v := 3) hx hb dL_law_572 (by decide) ?_
  refine lv_iadd hx hb dL_law_573 ?_
  refine va_sld hx hb hX hbl hbA hS q3 dL_law_574 ?_
  have hF := tw_fr hD hS hA
  refine va_calli (va_runV (As := [.int (xs (i + 1).toNatClampNeg), .int (xs (i + 2).toNatClampNeg), .int (xs (i + 3).toNatClampNeg)]) (rest := []) ⟨hx, hb, hml, hown, hts⟩ (k_X9_herd l D ca gm am σm (xs (i + 1).toNatClampNeg) (xs (i + 2).toNatClampNeg) (xs (i + 3).toNatClampNeg) H.size hJ _ rfl) (cwV 3 hts gL_law_X9_herd rfl rfl rfl (by decide +kernel) ⟨Nat.le_of_ble_eq_true rfl, Nat.le_of_ble_eq_true rfl⟩) ⟨pw_blind, va_recv hK (tw_pr hP) (ci := 9) (q0 := 0) rfl rfl, pw_give (tw_pr hP) hK (tw_dr hD)⟩ rfl rfl hl.1 rfl (lv_room (Nat.le_of_ble_eq_true rfl)) dL_law_575 (rm_ok (k := k + 1) (a := 0) (d := 0) (by omega) (by decide) (by decide))) hS (fun q _ h => hF q h) hF (fun r_2 u t H1 locs ht hvm hw hB hz1 hk1 hS => ?_)
  rw [hw]
  obtain ⟨hB, hJ9⟩ := hB
  obtain ⟨hP, hD⟩ := tw_R hP hD hF hk1 ht hB
  clear hB hk1 hz1 hF hw ht
  generalize H1 = H at hP hS ⊢
  obtain ⟨τm, hτm⟩ : ∃ t9, (s_X9_herd σm (xs (i + 1).toNatClampNeg) (xs (i + 2).toNatClampNeg) (xs (i + 3).toNatClampNeg)).2 = t9 := ⟨_, rfl⟩
  rw [hτm] at hP hD hJ9
  obtain ⟨vm9, hvm9⟩ : ∃ t9, (s_X9_herd σm (xs (i + 1).toNatClampNeg) (xs (i + 2).toNatClampNeg) (xs (i + 3).toNatClampNeg)).1 = t9 := ⟨_, rfl⟩
  rw [hvm9]
  refine lv_pop hx hb dL_law_578 rfl ?_
  refine lv_goto (tgt := 1093) hx hb dL_law_579 (by decide) ?_
  have hRel : Rel (k + 1) (s_X8_herd σx (xs (i + 1).toNatClampNeg) (xs (i + 2).toNatClampNeg) (xs (i + 3).toNatClampNeg)).2 (s_X9_herd σm (xs (i + 1).toNatClampNeg) (xs (i + 2).toNatClampNeg) (xs (i + 3).toNatClampNeg)).2 := rl_herd (by omega) hI hJ hJR hR (xs (i + 1).toNatClampNeg) (xs (i + 2).toNatClampNeg) (xs (i + 3).toNatClampNeg)
  have hJR2 : JR (s_X9_herd σm (xs (i + 1).toNatClampNeg) (xs (i + 2).toNatClampNeg) (xs (i + 3).toNatClampNeg)).2 := jr_herd hJ hJR (xs (i + 1).toNatClampNeg) (xs (i + 2).toNatClampNeg) (xs (i + 3).toNatClampNeg)
  have h72 : ((s_X9_herd σm (xs (i + 1).toNatClampNeg) (xs (i + 2).toNatClampNeg) (xs (i + 3).toNatClampNeg)).2 7 0).toInt ≤ ((k + 1 : Nat) : Int) := o7a (o7_herd σm (xs (i + 1).toNatClampNeg) (xs (i + 2).toNatClampNeg) (xs (i + 3).toNatClampNeg)) h7
  rw [hτx, hτm] at hRel
  rw [hτm] at hJR2 h72
  exact lc_next G nx pa9 τx τm H _ ls hP hD hS (by rw [hi]; exact hl) hI9 hJ9 hJR2 h72 hRel
set_option maxHeartbeats 4000000 in
set_option maxRecDepth 100000 in
theorem lc_10 (G : LH p s m meth c D ca A b L tb xs) (hk : 6 * k + 6 ≤ L) (nx : LN p l e s m below meth c D ca A b gx gm ax am (k + 1) 18) : LN p l e s m below meth c D ca A b gx gm ax am k 582 := by
  obtain ⟨⟨hx, hb, hr, hml, hown, hts0, hX, hbl, hlocks, hgv⟩, hA, hA2, hK, hZ, hL⟩ := id G
  have hown : s.vm.findClass RL = some m.cls := hown
  have hts : ∀ w ∈ wsL_law, w.before #[Value.ref b] s = true := fun w h => hts0 w (wsL_law_in w h)
  have hbA : ¬ A b := fun h => absurd (hA2 b h) (Nat.not_le.mpr hbl)
  intro pa σx σm H locs ls hP hD hS hl hI hJ hJR h7 hR
  have q1 := lq (v := 1) (n := 1) (by decide) (by decide) hk hL
  have q2 := lq (v := 2) (n := 2) (by decide) (by decide) hk hL
  obtain ⟨i, hi⟩ : ∃ i : Int32, nI (6 * k) = i := ⟨_, rfl⟩
  rw [hi] at hl q1 q2
  refine lv_aload_n hx hb dL_law_582 rfl (lv_at hl 2 rfl) ?_
  refine lv_aload_n hx hb dL_law_583 rfl (lv_at hl 3 rfl) ?_
  refine lv_iload_n hx hb dL_law_584 rfl (lv_at hl 0 rfl) ?_
  refine lv_iconst (v := 1) hx hb dL_law_585 (by decide) ?_
  refine lv_iadd hx hb dL_law_586 ?_
  refine va_sld hx hb hX hbl hbA hS q1 dL_law_587 ?_
  refine lv_aload_n hx hb dL_law_588 rfl (lv_at hl 3 rfl) ?_
  refine lv_iload_n hx hb dL_law_589 rfl (lv_at hl 0 rfl) ?_
  refine lv_iconst (v := 2) hx hb dL_law_590 (by decide) ?_
  refine lv_iadd hx hb dL_law_591 ?_
  refine va_sld hx hb hX hbl hbA hS q2 dL_law_592 ?_
  have hF := tw_fl hD hS hA
  refine va_calli (va_runV (As := [.int (xs (i + 1).toNatClampNeg), .int (xs (i + 2).toNatClampNeg)]) (rest := []) ⟨hx, hb, hml, hown, hts⟩ (k_X8_put l D ca gx ax pa tb σx (xs (i + 1).toNatClampNeg) (xs (i + 2).toNatClampNeg) H.size hI _ _ (Prod.eta _).symm) (cwV 2 hts gL_law_X8_put rfl rfl rfl (by decide +kernel) ⟨Nat.le_of_ble_eq_true rfl, Nat.le_of_ble_eq_true rfl⟩) ⟨cw_blind, va_recv hK (tw_pl hP) (ci := 8) (q0 := 0) rfl rfl, cw_give (tw_pl hP) hK (tw_dl hD) hZ hS hF⟩ rfl rfl hl.1 rfl (lv_room (Nat.le_of_ble_eq_true rfl)) dL_law_593 (rm_ok (a := 0) (d := 0) (by omega) (by decide) (by decide))) hS (fun q _ h => hF q h) hF (fun r_1 u t H1 locs ht hvm hw hB hz1 hk1 hS => ?_)
  rw [hw]
  obtain ⟨hB, hI9⟩ := hB
  obtain ⟨hP, hD⟩ := tw_L hP hD hF hk1 ht hB
  clear hB hk1 hz1 hF hw ht
  generalize H1 = H at hP hS ⊢
  obtain ⟨τx, hτx⟩ : ∃ t9, (s_X8_put σx (xs (i + 1).toNatClampNeg) (xs (i + 2).toNatClampNeg)).2 = t9 := ⟨_, rfl⟩
  rw [hτx] at hP hD hI9
  obtain ⟨vx, hvx⟩ : ∃ t9, (s_X8_put σx (xs (i + 1).toNatClampNeg) (xs (i + 2).toNatClampNeg)).1 = t9 := ⟨_, rfl⟩
  rw [hvx]
  refine W.widen (k := 70 + (k + 1)) (n := 3691 + 10 * (k + 1)) (by omega) (by omega) ?_
  refine lv_pop hx hb dL_law_596 rfl ?_
  refine lv_aload_n hx hb dL_law_597 rfl (lv_at hl 1 rfl) ?_
  refine lv_aload_n hx hb dL_law_598 rfl (lv_at hl 3 rfl) ?_
  refine lv_iload_n hx hb dL_law_599 rfl (lv_at hl 0 rfl) ?_
  refine lv_iconst (v := 1) hx hb dL_law_600 (by decide) ?_
  refine lv_iadd hx hb dL_law_601 ?_
  refine va_sld hx hb hX hbl hbA hS q1 dL_law_602 ?_
  refine lv_aload_n hx hb dL_law_603 rfl (lv_at hl 3 rfl) ?_
  refine lv_iload_n hx hb dL_law_604 rfl (lv_at hl 0 rfl) ?_
  refine lv_iconst (v := 2) hx hb dL_law_605 (by decide) ?_
  refine lv_iadd hx hb dL_law_606 ?_
  refine va_sld hx hb hX hbl hbA hS q2 dL_law_607 ?_
  have hF := tw_fr hD hS hA
  refine va_calli (va_runV (As := [.int (xs (i + 1).toNatClampNeg), .int (xs (i + 2).toNatClampNeg)]) (rest := []) ⟨hx, hb, hml, hown, hts⟩ (k_X9_put l D ca gm am σm (xs (i + 1).toNatClampNeg) (xs (i + 2).toNatClampNeg) H.size hJ _ rfl) (cwV 2 hts gL_law_X9_put rfl rfl rfl (by decide +kernel) ⟨Nat.le_of_ble_eq_true rfl, Nat.le_of_ble_eq_true rfl⟩) ⟨pw_blind, va_recv hK (tw_pr hP) (ci := 9) (q0 := 0) rfl rfl, pw_give (tw_pr hP) hK (tw_dr hD)⟩ rfl rfl hl.1 rfl (lv_room (Nat.le_of_ble_eq_true rfl)) dL_law_608 (rm_ok (k := k + 1) (a := 0) (d := 0) (by omega) (by decide) (by decide))) hS (fun q _ h => hF q h) hF (fun r_2 u t H1 locs ht hvm hw hB hz1 hk1 hS => ?_)
  rw [hw]
  obtain ⟨hB, hJ9⟩ := hB
  obtain ⟨hP, hD⟩ := tw_R hP hD hF hk1 ht hB
  clear hB hk1 hz1 hF hw ht
  generalize H1 = H at hP hS ⊢
  obtain ⟨τm, hτm⟩ : ∃ t9, (s_X9_put σm (xs (i + 1).toNatClampNeg) (xs (i + 2).toNatClampNeg)).2 = t9 := ⟨_, rfl⟩
  rw [hτm] at hP hD hJ9
  obtain ⟨vm9, hvm9⟩ : ∃ t9, (s_X9_put σm (xs (i + 1).toNatClampNeg) (xs (i + 2).toNatClampNeg)).1 = t9 := ⟨_, rfl⟩
  rw [hvm9]
  refine lv_pop hx hb dL_law_611 rfl ?_
  refine lv_goto (tgt := 1093) hx hb dL_law_612 (by decide) ?_
  have hRel : Rel (k + 1) (s_X8_put σx (xs (i + 1).toNatClampNeg) (xs (i + 2).toNatClampNeg)).2 (s_X9_put σm (xs (i + 1).toNatClampNeg) (xs (i + 2).toNatClampNeg)).2 := rl_put (by omega) hI hJ hJR hR (xs (i + 1).toNatClampNeg) (xs (i + 2).toNatClampNeg)
  have hJR2 : JR (s_X9_put σm (xs (i + 1).toNatClampNeg) (xs (i + 2).toNatClampNeg)).2 := jr_put hJR (by omega) (xs (i + 1).toNatClampNeg) (xs (i + 2).toNatClampNeg)
  have h72 : ((s_X9_put σm (xs (i + 1).toNatClampNeg) (xs (i + 2).toNatClampNeg)).2 7 0).toInt ≤ ((k + 1 : Nat) : Int) := o7b (o7_put σm (xs (i + 1).toNatClampNeg) (xs (i + 2).toNatClampNeg)) h7 (by omega)
  rw [hτx, hτm] at hRel
  rw [hτm] at hJR2 h72
  exact lc_next G nx pa τx τm H _ ls hP hD hS (by rw [hi]; exact hl) hI9 hJ9 hJR2 h72 hRel
set_option maxHeartbeats 4000000 in
set_option maxRecDepth 100000 in
theorem lc_11 (G : LH p s m meth c D ca A b L tb xs) (hk : 6 * k + 6 ≤ L) (nx : LN p l e s m below meth c D ca A b gx gm ax am (k + 1) 18) : LN p l e s m below meth c D ca A b gx gm ax am k 615 := by
  obtain ⟨⟨hx, hb, hr, hml, hown, hts0, hX, hbl, hlocks, hgv⟩, hA, hA2, hK, hZ, hL⟩ := id G
  have hown : s.vm.findClass RL = some m.cls := hown
  have hts : ∀ w ∈ wsL_law, w.before #[Value.ref b] s = true := fun w h => hts0 w (wsL_law_in w h)
  have hbA : ¬ A b := fun h => absurd (hA2 b h) (Nat.not_le.mpr hbl)
  intro pa σx σm H locs ls hP hD hS hl hI hJ hJR h7 hR
  have q1 := lq (v := 1) (n := 1) (by decide) (by decide) hk hL
  have q2 := lq (v := 2) (n := 2) (by decide) (by decide) hk hL
  obtain ⟨i, hi⟩ : ∃ i : Int32, nI (6 * k) = i := ⟨_, rfl⟩
  rw [hi] at hl q1 q2
  refine lv_aload_n hx hb dL_law_615 rfl (lv_at hl 2 rfl) ?_
  refine lv_aload_n hx hb dL_law_616 rfl (lv_at hl 3 rfl) ?_
  refine lv_iload_n hx hb dL_law_617 rfl (lv_at hl 0 rfl) ?_
  refine lv_iconst (v := 1) hx hb dL_law_618 (by decide) ?_
  refine lv_iadd hx hb dL_law_619 ?_
  refine va_sld hx hb hX hbl hbA hS q1 dL_law_620 ?_
  refine lv_aload_n hx hb dL_law_621 rfl (lv_at hl 3 rfl) ?_
  refine lv_iload_n hx hb dL_law_622 rfl (lv_at hl 0 rfl) ?_
  refine lv_iconst (v := 2) hx hb dL_law_623 (by decide) ?_
  refine lv_iadd hx hb dL_law_624 ?_
  refine va_sld hx hb hX hbl hbA hS q2 dL_law_625 ?_
  have hF := tw_fl hD hS hA
  refine va_calli (va_runV (As := [.int (xs (i + 1).toNatClampNeg), .int (xs (i + 2).toNatClampNeg)]) (rest := []) ⟨hx, hb, hml, hown, hts⟩ (k_X8_drive l D ca gx ax pa tb σx (xs (i + 1).toNatClampNeg) (xs (i + 2).toNatClampNeg) H.size hI _ _ (Prod.eta _).symm) (cwV 2 hts gL_law_X8_drive rfl rfl rfl (by decide +kernel) ⟨Nat.le_of_ble_eq_true rfl, Nat.le_of_ble_eq_true rfl⟩) ⟨cw_blind, va_recv hK (tw_pl hP) (ci := 8) (q0 := 0) rfl rfl, cw_give (tw_pl hP) hK (tw_dl hD) hZ hS hF⟩ rfl rfl hl.1 rfl (lv_room (Nat.le_of_ble_eq_true rfl)) dL_law_626 (rm_ok (a := 0) (d := 0) (by omega) (by decide) (by decide))) hS (fun q _ h => hF q h) hF (fun r_1 u t H1 locs ht hvm hw hB hz1 hk1 hS => ?_)
  rw [hw]
  obtain ⟨hB, hI9⟩ := hB
  obtain ⟨hP, hD⟩ := tw_L hP hD hF hk1 ht hB
  clear hB hk1 hz1 hF hw ht
  generalize H1 = H at hP hS ⊢
  obtain ⟨τx, hτx⟩ : ∃ t9, (s_X8_drive σx (xs (i + 1).toNatClampNeg) (xs (i + 2).toNatClampNeg)).2 = t9 := ⟨_, rfl⟩
  rw [hτx] at hP hD hI9
  obtain ⟨vx, hvx⟩ : ∃ t9, (s_X8_drive σx (xs (i + 1).toNatClampNeg) (xs (i + 2).toNatClampNeg)).1 = t9 := ⟨_, rfl⟩
  rw [hvx]
  refine W.widen (k := 70 + (k + 1)) (n := 3691 + 10 * (k + 1)) (by omega) (by omega) ?_
  refine lv_pop hx hb dL_law_629 rfl ?_
  refine lv_aload_n hx hb dL_law_630 rfl (lv_at hl 1 rfl) ?_
  refine lv_aload_n hx hb dL_law_631 rfl (lv_at hl 3 rfl) ?_
  refine lv_iload_n hx hb dL_law_632 rfl (lv_at hl 0 rfl) ?_
  refine lv_iconst (v := 1) hx hb dL_law_633 (by decide) ?_
  refine lv_iadd hx hb dL_law_634 ?_
  refine va_sld hx hb hX hbl hbA hS q1 dL_law_635 ?_
  refine lv_aload_n hx hb dL_law_636 rfl (lv_at hl 3 rfl) ?_
  refine lv_iload_n hx hb dL_law_637 rfl (lv_at hl 0 rfl) ?_
  refine lv_iconst (v := 2) hx hb dL_law_638 (by decide) ?_
  refine lv_iadd hx hb dL_law_639 ?_
  refine va_sld hx hb hX hbl hbA hS q2 dL_law_640 ?_
  have hF := tw_fr hD hS hA
  refine va_calli (va_runV (As := [.int (xs (i + 1).toNatClampNeg), .int (xs (i + 2).toNatClampNeg)]) (rest := []) ⟨hx, hb, hml, hown, hts⟩ (k_X9_drive l D ca gm am σm (xs (i + 1).toNatClampNeg) (xs (i + 2).toNatClampNeg) H.size hJ _ rfl) (cwV 2 hts gL_law_X9_drive rfl rfl rfl (by decide +kernel) ⟨Nat.le_of_ble_eq_true rfl, Nat.le_of_ble_eq_true rfl⟩) ⟨pw_blind, va_recv hK (tw_pr hP) (ci := 9) (q0 := 0) rfl rfl, pw_give (tw_pr hP) hK (tw_dr hD)⟩ rfl rfl hl.1 rfl (lv_room (Nat.le_of_ble_eq_true rfl)) dL_law_641 (rm_ok (k := k + 1) (a := 0) (d := 0) (by omega) (by decide) (by decide))) hS (fun q _ h => hF q h) hF (fun r_2 u t H1 locs ht hvm hw hB hz1 hk1 hS => ?_)
  rw [hw]
  obtain ⟨hB, hJ9⟩ := hB
  obtain ⟨hP, hD⟩ := tw_R hP hD hF hk1 ht hB
  clear hB hk1 hz1 hF hw ht
  generalize H1 = H at hP hS ⊢
  obtain ⟨τm, hτm⟩ : ∃ t9, (s_X9_drive σm (xs (i + 1).toNatClampNeg) (xs (i + 2).toNatClampNeg)).2 = t9 := ⟨_, rfl⟩
  rw [hτm] at hP hD hJ9
  obtain ⟨vm9, hvm9⟩ : ∃ t9, (s_X9_drive σm (xs (i + 1).toNatClampNeg) (xs (i + 2).toNatClampNeg)).1 = t9 := ⟨_, rfl⟩
  rw [hvm9]
  refine lv_pop hx hb dL_law_644 rfl ?_
  refine lv_goto (tgt := 1093) hx hb dL_law_645 (by decide) ?_
  have hRel : Rel (k + 1) (s_X8_drive σx (xs (i + 1).toNatClampNeg) (xs (i + 2).toNatClampNeg)).2 (s_X9_drive σm (xs (i + 1).toNatClampNeg) (xs (i + 2).toNatClampNeg)).2 := rl_drive (by omega) hI hJ hJR hR (xs (i + 1).toNatClampNeg) (xs (i + 2).toNatClampNeg)
  have hJR2 : JR (s_X9_drive σm (xs (i + 1).toNatClampNeg) (xs (i + 2).toNatClampNeg)).2 := jr_drive hJR (by omega) (xs (i + 1).toNatClampNeg) (xs (i + 2).toNatClampNeg)
  have h72 : ((s_X9_drive σm (xs (i + 1).toNatClampNeg) (xs (i + 2).toNatClampNeg)).2 7 0).toInt ≤ ((k + 1 : Nat) : Int) := o7b (o7_drive σm (xs (i + 1).toNatClampNeg) (xs (i + 2).toNatClampNeg)) h7 (by omega)
  rw [hτx, hτm] at hRel
  rw [hτm] at hJR2 h72
  exact lc_next G nx pa τx τm H _ ls hP hD hS (by rw [hi]; exact hl) hI9 hJ9 hJR2 h72 hRel
end LW
