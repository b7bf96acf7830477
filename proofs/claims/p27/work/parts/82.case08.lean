section LW
variable {p : Program} {l : Launch} {e : Env} {s : State} {m : MethodId} {below : List Frame} {meth : Method} {c : Code} {D : va_G} {ca : Nat → ClassId} {A : Nat → Prop} {b L tb gx gm k : Nat} {ax am : Nat → Nat} {xs : Nat → Int32}
set_option maxHeartbeats 4000000 in
set_option maxRecDepth 100000 in
theorem lc_24 (G : LH p s m meth c D ca A b L tb xs) (hk : 6 * k + 6 ≤ L) (nx : LN p l e s m below meth c D ca A b gx gm ax am (k + 1) 18) : LN p l e s m below meth c D ca A b gx gm ax am k 1004 := by
  obtain ⟨⟨hx, hb, hr, hml, hown, hts0, hX, hbl, hlocks, hgv⟩, hA, hA2, hK, hZ, hL⟩ := id G
  have hown : s.vm.findClass RL = some m.cls := hown
  have hts : ∀ w ∈ wsL_law, w.before #[Value.ref b] s = true := fun w h => hts0 w (wsL_law_in w h)
  have hbA : ¬ A b := fun h => absurd (hA2 b h) (Nat.not_le.mpr hbl)
  intro pa σx σm H locs ls hP hD hS hl hI hJ hJR h7 hR
  have q1 := lq (v := 1) (n := 1) (by decide) (by decide) hk hL
  have q2 := lq (v := 2) (n := 2) (by decide) (by decide) hk hL
  obtain ⟨i, hi⟩ : ∃ i : Int32, nI (6 * k) = i := ⟨_, rfl⟩
  rw [hi] at hl q1 q2
  refine lv_aload_n hx hb dL_law_1004 rfl (lv_at hl 2 rfl) ?_
  refine lv_aload_n hx hb dL_law_1005 rfl (lv_at hl 3 rfl) ?_
  refine lv_iload_n hx hb dL_law_1006 rfl (lv_at hl 0 rfl) ?_
  refine lv_iconst (v := 1) hx hb dL_law_1007 (by decide) ?_
  refine lv_iadd hx hb dL_law_1008 ?_
  refine va_sld hx hb hX hbl hbA hS q1 dL_law_1009 ?_
  refine lv_aload_n hx hb dL_law_1010 rfl (lv_at hl 3 rfl) ?_
  refine lv_iload_n hx hb dL_law_1011 rfl (lv_at hl 0 rfl) ?_
  refine lv_iconst (v := 2) hx hb dL_law_1012 (by decide) ?_
  refine lv_iadd hx hb dL_law_1013 ?_
  refine va_sld hx hb hX hbl hbA hS q2 dL_law_1014 ?_
  have hF := tw_fl hD hS hA
  refine va_calli (va_runV (As := [.int (xs (i + 1).toNatClampNeg), .int (xs (i + 2).toNatClampNeg)]) (rest := []) ⟨hx, hb, hml, hown, hts⟩ (k_X8_herdOf l D ca gx ax pa tb σx (xs (i + 1).toNatClampNeg) (xs (i + 2).toNatClampNeg) H.size hI _ _ (Prod.eta _).symm) (cwV 2 hts gL_law_X8_herdOf rfl rfl rfl (by decide +kernel) ⟨Nat.le_of_ble_eq_true rfl, Nat.le_of_ble_eq_true rfl⟩) ⟨cw_blind, va_recv hK (tw_pl hP) (ci := 8) (q0 := 0) rfl rfl, cw_give (tw_pl hP) hK (tw_dl hD) hZ hS hF⟩ rfl rfl hl.1 rfl (lv_room (Nat.le_of_ble_eq_true rfl)) dL_law_1015 (rm_ok (a := 0) (d := 0) (by omega) (by decide) (by decide))) hS (fun q _ h => hF q h) hF (fun r_1 u t H1 locs ht hvm hw hB hz1 hk1 hS => ?_)
  rw [hw]
  obtain ⟨hB, hI9⟩ := hB
  obtain ⟨hP, hD⟩ := tw_L hP hD hF hk1 ht hB
  clear hB hk1 hz1 hF hw ht
  generalize H1 = H at hP hS ⊢
  obtain ⟨τx, hτx⟩ : ∃ t9, (s_X8_herdOf σx (xs (i + 1).toNatClampNeg) (xs (i + 2).toNatClampNeg)).2 = t9 := ⟨_, rfl⟩
  rw [hτx] at hP hD hI9
  obtain ⟨vx, hvx⟩ : ∃ t9, (s_X8_herdOf σx (xs (i + 1).toNatClampNeg) (xs (i + 2).toNatClampNeg)).1 = t9 := ⟨_, rfl⟩
  rw [hvx]
  refine W.widen (k := 70 + (k + 1)) (n := 3691 + 10 * (k + 1)) (by omega) (by omega) ?_
  refine lv_pop hx hb dL_law_1018 rfl ?_
  refine lv_aload_n hx hb dL_law_1019 rfl (lv_at hl 1 rfl) ?_
  refine lv_aload_n hx hb dL_law_1020 rfl (lv_at hl 3 rfl) ?_
  refine lv_iload_n hx hb dL_law_1021 rfl (lv_at hl 0 rfl) ?_
  refine lv_iconst (v := 1) hx hb dL_law_1022 (by decide) ?_
  refine lv_iadd hx hb dL_law_1023 ?_
  refine va_sld hx hb hX hbl hbA hS q1 dL_law_1024 ?_
  refine lv_aload_n hx hb dL_law_1025 rfl (lv_at hl 3 rfl) ?_
  refine lv_iload_n hx hb dL_law_1026 rfl (lv_at hl 0 rfl) ?_
  refine lv_iconst (v := 2) hx hb dL_law_1027 (by decide) ?_
  refine lv_iadd hx hb dL_law_1028 ?_
  refine va_sld hx hb hX hbl hbA hS q2 dL_law_1029 ?_
  have hF := tw_fr hD hS hA
  refine va_calli (va_runV (As := [.int (xs (i + 1).toNatClampNeg), .int (xs (i + 2).toNatClampNeg)]) (rest := []) ⟨hx, hb, hml, hown, hts⟩ (k_X9_herdOf l D ca gm am σm (xs (i + 1).toNatClampNeg) (xs (i + 2).toNatClampNeg) H.size hJ _ rfl) (cwV 2 hts gL_law_X9_herdOf rfl rfl rfl (by decide +kernel) ⟨Nat.le_of_ble_eq_true rfl, Nat.le_of_ble_eq_true rfl⟩) ⟨pw_blind, va_recv hK (tw_pr hP) (ci := 9) (q0 := 0) rfl rfl, pw_give (tw_pr hP) hK (tw_dr hD)⟩ rfl rfl hl.1 rfl (lv_room (Nat.le_of_ble_eq_true rfl)) dL_law_1030 (rm_ok (k := k + 1) (a := 0) (d := 0) (by omega) (by decide) (by decide))) hS (fun q _ h => hF q h) hF (fun r_2 u t H1 locs ht hvm hw hB hz1 hk1 hS => ?_)
  rw [hw]
  obtain ⟨hB, hJ9⟩ := hB
  obtain ⟨hP, hD⟩ := tw_R hP hD hF hk1 ht hB
  clear hB hk1 hz1 hF hw ht
  generalize H1 = H at hP hS ⊢
  obtain ⟨τm, hτm⟩ : ∃ t9, (s_X9_herdOf σm (xs (i + 1).toNatClampNeg) (xs (i + 2).toNatClampNeg)).2 = t9 := ⟨_, rfl⟩
  rw [hτm] at hP hD hJ9
  obtain ⟨vm9, hvm9⟩ : ∃ t9, (s_X9_herdOf σm (xs (i + 1).toNatClampNeg) (xs (i + 2).toNatClampNeg)).1 = t9 := ⟨_, rfl⟩
  rw [hvm9]
  refine lv_pop hx hb dL_law_1033 rfl ?_
  refine lv_goto (tgt := 1093) hx hb dL_law_1034 (by decide) ?_
  have hRel : Rel (k + 1) (s_X8_herdOf σx (xs (i + 1).toNatClampNeg) (xs (i + 2).toNatClampNeg)).2 (s_X9_herdOf σm (xs (i + 1).toNatClampNeg) (xs (i + 2).toNatClampNeg)).2 := rl_herdOf (by omega) hI hJ hJR hR (xs (i + 1).toNatClampNeg) (xs (i + 2).toNatClampNeg)
  have hJR2 : JR (s_X9_herdOf σm (xs (i + 1).toNatClampNeg) (xs (i + 2).toNatClampNeg)).2 := jr_herdOf hJR (xs (i + 1).toNatClampNeg) (xs (i + 2).toNatClampNeg)
  have h72 : ((s_X9_herdOf σm (xs (i + 1).toNatClampNeg) (xs (i + 2).toNatClampNeg)).2 7 0).toInt ≤ ((k + 1 : Nat) : Int) := o7a (o7_herdOf σm (xs (i + 1).toNatClampNeg) (xs (i + 2).toNatClampNeg)) h7
  rw [hτx, hτm] at hRel
  rw [hτm] at hJR2 h72
  exact lc_next G nx pa τx τm H _ ls hP hD hS (by rw [hi]; exact hl) hI9 hJ9 hJR2 h72 hRel
set_option maxHeartbeats 4000000 in
set_option maxRecDepth 100000 in
theorem lc_25 (G : LH p s m meth c D ca A b L tb xs) (hk : 6 * k + 6 ≤ L) (nx : LN p l e s m below meth c D ca A b gx gm ax am (k + 1) 18) : LN p l e s m below meth c D ca A b gx gm ax am k 1037 := by
  obtain ⟨⟨hx, hb, hr, hml, hown, hts0, hX, hbl, hlocks, hgv⟩, hA, hA2, hK, hZ, hL⟩ := id G
  have hown : s.vm.findClass RL = some m.cls := hown
  have hts : ∀ w ∈ wsL_law, w.before #[Value.ref b] s = true := fun w h => hts0 w (wsL_law_in w h)
  have hbA : ¬ A b := fun h => absurd (hA2 b h) (Nat.not_le.mpr hbl)
  intro pa σx σm H locs ls hP hD hS hl hI hJ hJR h7 hR
  have q1 := lq (v := 1) (n := 1) (by decide) (by decide) hk hL
  have q2 := lq (v := 2) (n := 2) (by decide) (by decide) hk hL
  obtain ⟨i, hi⟩ : ∃ i : Int32, nI (6 * k) = i := ⟨_, rfl⟩
  rw [hi] at hl q1 q2
  refine lv_aload_n hx hb dL_law_1037 rfl (lv_at hl 2 rfl) ?_
  refine lv_aload_n hx hb dL_law_1038 rfl (lv_at hl 3 rfl) ?_
  refine lv_iload_n hx hb dL_law_1039 rfl (lv_at hl 0 rfl) ?_
  refine lv_iconst (v := 1) hx hb dL_law_1040 (by decide) ?_
  refine lv_iadd hx hb dL_law_1041 ?_
  refine va_sld hx hb hX hbl hbA hS q1 dL_law_1042 ?_
  refine lv_aload_n hx hb dL_law_1043 rfl (lv_at hl 3 rfl) ?_
  refine lv_iload_n hx hb dL_law_1044 rfl (lv_at hl 0 rfl) ?_
  refine lv_iconst (v := 2) hx hb dL_law_1045 (by decide) ?_
  refine lv_iadd hx hb dL_law_1046 ?_
  refine va_sld hx hb hX hbl hbA hS q2 dL_law_1047 ?_
  have hF := tw_fl hD hS hA
  refine va_calli (va_runV (As := [.int (xs (i + 1).toNatClampNeg), .int (xs (i + 2).toNatClampNeg)]) (rest := []) ⟨hx, hb, hml, hown, hts⟩ (k_X8_ownerOf l D ca gx ax pa tb σx (xs (i + 1).toNatClampNeg) (xs (i + 2).toNatClampNeg) H.size hI _ _ (Prod.eta _).symm) (cwV 2 hts gL_law_X8_ownerOf rfl rfl rfl (by decide +kernel) ⟨Nat.le_of_ble_eq_true rfl, Nat.le_of_ble_eq_true rfl⟩) ⟨cw_blind, va_recv hK (tw_pl hP) (ci := 8) (q0 := 0) rfl rfl, cw_give (tw_pl hP) hK (tw_dl hD) hZ hS hF⟩ rfl rfl hl.1 rfl (lv_room (Nat.le_of_ble_eq_true rfl)) dL_law_1048 (rm_ok (a := 0) (d := 0) (by omega) (by decide) (by decide))) hS (fun q _ h => hF q h) hF (fun r_1 u t H1 locs ht hvm hw hB hz1 hk1 hS => ?_)
  rw [hw]
  obtain ⟨hB, hI9⟩ := hB
  obtain ⟨hP, hD⟩ := tw_L hP hD hF hk1 ht hB
  clear hB hk1 hz1 hF hw ht
  generalize H1 = H at hP hS ⊢
  obtain ⟨τx, hτx⟩ : ∃ t9, (s_X8_ownerOf σx (xs (i + 1).toNatClampNeg) (xs (i + 2).toNatClampNeg)).2 = t9 := ⟨_, rfl⟩
  rw [hτx] at hP hD hI9
  obtain ⟨vx, hvx⟩ : ∃ t9, (s_X8_ownerOf σx (xs (i + 1).toNatClampNeg) (xs (i + 2).toNatClampNeg)).1 = t9 := ⟨_, rfl⟩
  rw [hvx]
  refine W.widen (k := 70 + (k + 1)) (n := 3691 + 10 * (k + 1)) (by omega) (by omega) ?_
  refine lv_aload_n hx hb dL_law_1051 rfl (lv_at hl 1 rfl) ?_
  refine lv_aload_n hx hb dL_law_1052 rfl (lv_at hl 3 rfl) ?_
  refine lv_iload_n hx hb dL_law_1053 rfl (lv_at hl 0 rfl) ?_
  refine lv_iconst (v := 1) hx hb dL_law_1054 (by decide) ?_
  refine lv_iadd hx hb dL_law_1055 ?_
  refine va_sld hx hb hX hbl hbA hS q1 dL_law_1056 ?_
  refine lv_aload_n hx hb dL_law_1057 rfl (lv_at hl 3 rfl) ?_
  refine lv_iload_n hx hb dL_law_1058 rfl (lv_at hl 0 rfl) ?_
  refine lv_iconst (v := 2) hx hb dL_law_1059 (by decide) ?_
  refine lv_iadd hx hb dL_law_1060 ?_
  refine va_sld hx hb hX hbl hbA hS q2 dL_law_1061 ?_
  have hF := tw_fr hD hS hA
  refine va_calli (va_runV (As := [.int (xs (i + 1).toNatClampNeg), .int (xs (i + 2).toNatClampNeg)]) (rest := [.int vx]) ⟨hx, hb, hml, hown, hts⟩ (k_X9_ownerOf l D ca gm am σm (xs (i + 1).toNatClampNeg) (xs (i + 2).toNatClampNeg) H.size hJ _ rfl) (cwV 2 hts gL_law_X9_ownerOf rfl rfl rfl (by decide +kernel) ⟨Nat.le_of_ble_eq_true rfl, Nat.le_of_ble_eq_true rfl⟩) ⟨pw_blind, va_recv hK (tw_pr hP) (ci := 9) (q0 := 0) rfl rfl, pw_give (tw_pr hP) hK (tw_dr hD)⟩ rfl rfl hl.1 rfl (lv_room (Nat.le_of_ble_eq_true rfl)) dL_law_1062 (rm_ok (k := k + 1) (a := 0) (d := 0) (by omega) (by decide) (by decide))) hS (fun q _ h => hF q h) hF (fun r_2 u t H1 locs ht hvm hw hB hz1 hk1 hS => ?_)
  rw [hw]
  obtain ⟨hB, hJ9⟩ := hB
  obtain ⟨hP, hD⟩ := tw_R hP hD hF hk1 ht hB
  clear hB hk1 hz1 hF hw ht
  generalize H1 = H at hP hS ⊢
  obtain ⟨τm, hτm⟩ : ∃ t9, (s_X9_ownerOf σm (xs (i + 1).toNatClampNeg) (xs (i + 2).toNatClampNeg)).2 = t9 := ⟨_, rfl⟩
  rw [hτm] at hP hD hJ9
  obtain ⟨vm9, hvm9⟩ : ∃ t9, (s_X9_ownerOf σm (xs (i + 1).toNatClampNeg) (xs (i + 2).toNatClampNeg)).1 = t9 := ⟨_, rfl⟩
  rw [hvm9]
  refine lv_icmp_eq (tgt := 1093) hx hb dL_law_1065 (by decide) (fun _ => ?_) (fun c9 => absurd (hvx.symm.trans ((eq_ownerOf (by omega) hI hJ hJR hR (xs (i + 1).toNatClampNeg) (xs (i + 2).toNatClampNeg)).trans hvm9)) c9)
  have hRel : Rel (k + 1) (s_X8_ownerOf σx (xs (i + 1).toNatClampNeg) (xs (i + 2).toNatClampNeg)).2 (s_X9_ownerOf σm (xs (i + 1).toNatClampNeg) (xs (i + 2).toNatClampNeg)).2 := rl_ownerOf (by omega) hI hJ hJR hR (xs (i + 1).toNatClampNeg) (xs (i + 2).toNatClampNeg)
  have hJR2 : JR (s_X9_ownerOf σm (xs (i + 1).toNatClampNeg) (xs (i + 2).toNatClampNeg)).2 := jr_ownerOf hJR (xs (i + 1).toNatClampNeg) (xs (i + 2).toNatClampNeg)
  have h72 : ((s_X9_ownerOf σm (xs (i + 1).toNatClampNeg) (xs (i + 2).toNatClampNeg)).2 7 0).toInt ≤ ((k + 1 : Nat) : Int) := o7a (o7_ownerOf σm (xs (i + 1).toNatClampNeg) (xs (i + 2).toNatClampNeg)) h7
  rw [hτx, hτm] at hRel
  rw [hτm] at hJR2 h72
  exact lc_next G nx pa τx τm H _ ls hP hD hS (by rw [hi]; exact hl) hI9 hJ9 hJR2 h72 hRel
set_option maxHeartbeats 4000000 in
set_option maxRecDepth 100000 in
theorem lc_26 (G : LH p s m meth c D ca A b L tb xs) (hk : 6 * k + 6 ≤ L) (nx : LN p l e s m below meth c D ca A b gx gm ax am (k + 1) 18) : LN p l e s m below meth c D ca A b gx gm ax am k 1070 := by
  obtain ⟨⟨hx, hb, hr, hml, hown, hts0, hX, hbl, hlocks, hgv⟩, hA, hA2, hK, hZ, hL⟩ := id G
  have hown : s.vm.findClass RL = some m.cls := hown
  have hts : ∀ w ∈ wsL_law, w.before #[Value.ref b] s = true := fun w h => hts0 w (wsL_law_in w h)
  have hbA : ¬ A b := fun h => absurd (hA2 b h) (Nat.not_le.mpr hbl)
  intro pa σx σm H locs ls hP hD hS hl hI hJ hJR h7 hR
  have q1 := lq (v := 1) (n := 1) (by decide) (by decide) hk hL
  obtain ⟨i, hi⟩ : ∃ i : Int32, nI (6 * k) = i := ⟨_, rfl⟩
  rw [hi] at hl q1
  refine lv_aload_n hx hb dL_law_1070 rfl (lv_at hl 2 rfl) ?_
  refine lv_aload_n hx hb dL_law_1071 rfl (lv_at hl 3 rfl) ?_
  refine lv_iload_n hx hb dL_law_1072 rfl (lv_at hl 0 rfl) ?_
  refine lv_iconst (v := 1) hx hb dL_law_1073 (by decide) ?_
  refine lv_iadd hx hb dL_law_1074 ?_
  refine va_sld hx hb hX hbl hbA hS q1 dL_law_1075 ?_
  have hF := tw_fl hD hS hA
  refine va_calli (va_runV (As := [.int (xs (i + 1).toNatClampNeg)]) (rest := []) ⟨hx, hb, hml, hown, hts⟩ (k_X8_count l D ca gx ax pa tb σx (xs (i + 1).toNatClampNeg) H.size hI _ rfl) (cwV 1 hts gL_law_X8_count rfl rfl rfl (by decide +kernel) ⟨Nat.le_of_ble_eq_true rfl, Nat.le_of_ble_eq_true rfl⟩) ⟨cw_blind, va_recv hK (tw_pl hP) (ci := 8) (q0 := 0) rfl rfl, cw_give (tw_pl hP) hK (tw_dl hD) hZ hS hF⟩ rfl rfl hl.1 rfl (lv_room (Nat.le_of_ble_eq_true rfl)) dL_law_1076 (rm_ok (a := 0) (d := 0) (by omega) (by decide) (by decide))) hS (fun q _ h => hF q h) hF (fun r_1 u t H1 locs ht hvm hw hB hz1 hk1 hS => ?_)
  rw [hw]
  obtain ⟨hP, hD⟩ := tw_L hP hD hF hk1 ht hB
  clear hB hk1 hz1 hF hw ht
  generalize H1 = H at hP hS ⊢
  obtain ⟨vx, hvx⟩ : ∃ t9, s_X8_count σx (xs (i + 1).toNatClampNeg) = t9 := ⟨_, rfl⟩
  rw [hvx]
  refine W.widen (k := 70 + (k + 1)) (n := 3691 + 10 * (k + 1)) (by omega) (by omega) ?_
  refine lv_pop hx hb dL_law_1079 rfl ?_
  refine lv_aload_n hx hb dL_law_1080 rfl (lv_at hl 1 rfl) ?_
  refine lv_aload_n hx hb dL_law_1081 rfl (lv_at hl 3 rfl) ?_
  refine lv_iload_n hx hb dL_law_1082 rfl (lv_at hl 0 rfl) ?_
  refine lv_iconst (v := 1) hx hb dL_law_1083 (by decide) ?_
  refine lv_iadd hx hb dL_law_1084 ?_
  refine va_sld hx hb hX hbl hbA hS q1 dL_law_1085 ?_
  have hF := tw_fr hD hS hA
  refine va_calli (va_runV (As := [.int (xs (i + 1).toNatClampNeg)]) (rest := []) ⟨hx, hb, hml, hown, hts⟩ (k_X9_count l D ca gm am σm (xs (i + 1).toNatClampNeg) H.size hJ _ rfl) (cwV 1 hts gL_law_X9_count rfl rfl rfl (by decide +kernel) ⟨Nat.le_of_ble_eq_true rfl, Nat.le_of_ble_eq_true rfl⟩) ⟨pw_blind, va_recv hK (tw_pr hP) (ci := 9) (q0 := 0) rfl rfl, pw_give (tw_pr hP) hK (tw_dr hD)⟩ rfl rfl hl.1 rfl (lv_room (Nat.le_of_ble_eq_true rfl)) dL_law_1086 (rm_ok (k := k + 1) (a := 0) (d := 0) (by omega) (by decide) (by decide))) hS (fun q _ h => hF q h) hF (fun r_2 u t H1 locs ht hvm hw hB hz1 hk1 hS => ?_)
  rw [hw]
  obtain ⟨hP, hD⟩ := tw_R hP hD hF hk1 ht hB
  clear hB hk1 hz1 hF hw ht
  generalize H1 = H at hP hS ⊢
  obtain ⟨vm9, hvm9⟩ : ∃ t9, s_X9_count σm (xs (i + 1).toNatClampNeg) = t9 := ⟨_, rfl⟩
  rw [hvm9]
  refine lv_pop hx hb dL_law_1089 rfl ?_
  refine lv_goto (tgt := 1093) hx hb dL_law_1090 (by decide) ?_
  exact lc_next G nx pa σx σm H _ ls hP hD hS (by rw [hi]; exact hl) hI hJ hJR (o7a rfl h7) (rl_mono hR)
end LW
