section LW
variable {p : Program} {l : Launch} {e : Env} {s : State} {m : MethodId} {below : List Frame} {meth : Method} {c : Code} {D : va_G} {ca : Nat → ClassId} {A : Nat → Prop} {b L tb gx gm k : Nat} {ax am : Nat → Nat} {xs : Nat → Int32}
set_option maxHeartbeats 4000000 in
set_option maxRecDepth 100000 in
theorem lc_21 (G : LH p s m meth c D ca A b L tb xs) (hk : 6 * k + 6 ≤ L) (nx : LN p l e s m below meth c D ca A b gx gm ax am (k + 1) 18) : LN p l e s m below meth c D ca A b gx gm ax am k 905 := by
  obtain ⟨⟨hx, hb, hr, hml, hown, hts0, hX, hbl, hlocks, hgv⟩, hA, hA2, hK, hZ, hL⟩ := id G
  have hown : s.vm.findClass RL = some m.cls := hown
  have hts : ∀ w ∈ wsL_law, w.before #[Value.ref b] s = true := fun w h => hts0 w (wsL_law_in w h)
  have hbA : ¬ A b := fun h => absurd (hA2 b h) (Nat.not_le.mpr hbl)
  intro pa σx σm H locs ls hP hD hS hl hI hJ hJR h7 hR
  have q1 := lq (v := 1) (n := 1) (by decide) (by decide) hk hL
  have q2 := lq (v := 2) (n := 2) (by decide) (by decide) hk hL
  obtain ⟨i, hi⟩ : ∃ i : Int32, nI (6 * k) = i := ⟨_, rfl⟩
  rw [hi] at hl q1 q2
  refine lv_aload_n hx hb dL_law_905 rfl (lv_at hl 2 rfl) ?_
  refine lv_aload_n hx hb dL_law_906 rfl (lv_at hl 3 rfl) ?_
  refine lv_iload_n hx hb dL_law_907 rfl (lv_at hl 0 rfl) ?_
  refine lv_iconst (v := 1) hx hb dL_law_908 (by decide) ?_
  refine lv_iadd hx hb dL_law_909 ?_
  refine va_sld hx hb hX hbl hbA hS q1 dL_law_910 ?_
  refine lv_aload_n hx hb dL_law_911 rfl (lv_at hl 3 rfl) ?_
  refine lv_iload_n hx hb dL_law_912 rfl (lv_at hl 0 rfl) ?_
  refine lv_iconst (v := 2) hx hb dL_law_913 (by decide) ?_
  refine lv_iadd hx hb dL_law_914 ?_
  refine va_sld hx hb hX hbl hbA hS q2 dL_law_915 ?_
  have hF := tw_fl hD hS hA
  refine va_calli (va_runV (As := [.int (xs (i + 1).toNatClampNeg), .int (xs (i + 2).toNatClampNeg)]) (rest := []) ⟨hx, hb, hml, hown, hts⟩ (k_X8_planned l D ca gx ax pa tb σx (xs (i + 1).toNatClampNeg) (xs (i + 2).toNatClampNeg) H.size hI _ rfl) (cwV 2 hts gL_law_X8_planned rfl rfl rfl (by decide +kernel) ⟨Nat.le_of_ble_eq_true rfl, Nat.le_of_ble_eq_true rfl⟩) ⟨cw_blind, va_recv hK (tw_pl hP) (ci := 8) (q0 := 0) rfl rfl, cw_give (tw_pl hP) hK (tw_dl hD) hZ hS hF⟩ rfl rfl hl.1 rfl (lv_room (Nat.le_of_ble_eq_true rfl)) dL_law_916 (rm_ok (a := 0) (d := 0) (by omega) (by decide) (by decide))) hS (fun q _ h => hF q h) hF (fun r_1 u t H1 locs ht hvm hw hB hz1 hk1 hS => ?_)
  rw [hw]
  obtain ⟨hP, hD⟩ := tw_L hP hD hF hk1 ht hB
  clear hB hk1 hz1 hF hw ht
  generalize H1 = H at hP hS ⊢
  obtain ⟨vx, hvx⟩ : ∃ t9, s_X8_planned σx (xs (i + 1).toNatClampNeg) (xs (i + 2).toNatClampNeg) = t9 := ⟨_, rfl⟩
  rw [hvx]
  refine W.widen (k := 70 + (k + 1)) (n := 3691 + 10 * (k + 1)) (by omega) (by omega) ?_
  refine lv_pop hx hb dL_law_919 rfl ?_
  refine lv_aload_n hx hb dL_law_920 rfl (lv_at hl 1 rfl) ?_
  refine lv_aload_n hx hb dL_law_921 rfl (lv_at hl 3 rfl) ?_
  refine lv_iload_n hx hb dL_law_922 rfl (lv_at hl 0 rfl) ?_
  refine lv_iconst (v := 1) hx hb dL_law_923 (by decide) ?_
  refine lv_iadd hx hb dL_law_924 ?_
  refine va_sld hx hb hX hbl hbA hS q1 dL_law_925 ?_
  refine lv_aload_n hx hb dL_law_926 rfl (lv_at hl 3 rfl) ?_
  refine lv_iload_n hx hb dL_law_927 rfl (lv_at hl 0 rfl) ?_
  refine lv_iconst (v := 2) hx hb dL_law_928 (by decide) ?_
  refine lv_iadd hx hb dL_law_929 ?_
  refine va_sld hx hb hX hbl hbA hS q2 dL_law_930 ?_
  have hF := tw_fr hD hS hA
  refine va_calli (va_runV (As := [.int (xs (i + 1).toNatClampNeg), .int (xs (i + 2).toNatClampNeg)]) (rest := []) ⟨hx, hb, hml, hown, hts⟩ (k_X9_planned l D ca gm am σm (xs (i + 1).toNatClampNeg) (xs (i + 2).toNatClampNeg) H.size hJ _ rfl) (cwV 2 hts gL_law_X9_planned rfl rfl rfl (by decide +kernel) ⟨Nat.le_of_ble_eq_true rfl, Nat.le_of_ble_eq_true rfl⟩) ⟨pw_blind, va_recv hK (tw_pr hP) (ci := 9) (q0 := 0) rfl rfl, pw_give (tw_pr hP) hK (tw_dr hD)⟩ rfl rfl hl.1 rfl (lv_room (Nat.le_of_ble_eq_true rfl)) dL_law_931 (rm_ok (k := k + 1) (a := 0) (d := 0) (by omega) (by decide) (by decide))) hS (fun q _ h => hF q h) hF (fun r_2 u t H1 locs ht hvm hw hB hz1 hk1 hS => ?_)
  rw [hw]
  obtain ⟨hP, hD⟩ := tw_R hP hD hF hk1 ht hB
  clear hB hk1 hz1 hF hw ht
  generalize H1 = H at hP hS ⊢
  obtain ⟨vm9, hvm9⟩ : ∃ t9, s_X9_planned σm (xs (i + 1).toNatClampNeg) (xs (i + 2).toNatClampNeg) = t9 := ⟨_, rfl⟩
  rw [hvm9]
  refine lv_pop hx hb dL_law_934 rfl ?_
  refine lv_goto (tgt := 1093) hx hb dL_law_935 (by decide) ?_
  exact lc_next G nx pa σx σm H _ ls hP hD hS (by rw [hi]; exact hl) hI hJ hJR (o7a rfl h7) (rl_mono hR)
set_option maxHeartbeats 4000000 in
set_option maxRecDepth 100000 in
theorem lc_22 (G : LH p s m meth c D ca A b L tb xs) (hk : 6 * k + 6 ≤ L) (nx : LN p l e s m below meth c D ca A b gx gm ax am (k + 1) 18) : LN p l e s m below meth c D ca A b gx gm ax am k 938 := by
  obtain ⟨⟨hx, hb, hr, hml, hown, hts0, hX, hbl, hlocks, hgv⟩, hA, hA2, hK, hZ, hL⟩ := id G
  have hown : s.vm.findClass RL = some m.cls := hown
  have hts : ∀ w ∈ wsL_law, w.before #[Value.ref b] s = true := fun w h => hts0 w (wsL_law_in w h)
  have hbA : ¬ A b := fun h => absurd (hA2 b h) (Nat.not_le.mpr hbl)
  intro pa σx σm H locs ls hP hD hS hl hI hJ hJR h7 hR
  have q1 := lq (v := 1) (n := 1) (by decide) (by decide) hk hL
  have q2 := lq (v := 2) (n := 2) (by decide) (by decide) hk hL
  obtain ⟨i, hi⟩ : ∃ i : Int32, nI (6 * k) = i := ⟨_, rfl⟩
  rw [hi] at hl q1 q2
  refine lv_aload_n hx hb dL_law_938 rfl (lv_at hl 2 rfl) ?_
  refine lv_aload_n hx hb dL_law_939 rfl (lv_at hl 3 rfl) ?_
  refine lv_iload_n hx hb dL_law_940 rfl (lv_at hl 0 rfl) ?_
  refine lv_iconst (v := 1) hx hb dL_law_941 (by decide) ?_
  refine lv_iadd hx hb dL_law_942 ?_
  refine va_sld hx hb hX hbl hbA hS q1 dL_law_943 ?_
  refine lv_aload_n hx hb dL_law_944 rfl (lv_at hl 3 rfl) ?_
  refine lv_iload_n hx hb dL_law_945 rfl (lv_at hl 0 rfl) ?_
  refine lv_iconst (v := 2) hx hb dL_law_946 (by decide) ?_
  refine lv_iadd hx hb dL_law_947 ?_
  refine va_sld hx hb hX hbl hbA hS q2 dL_law_948 ?_
  have hF := tw_fl hD hS hA
  refine va_calli (va_runV (As := [.int (xs (i + 1).toNatClampNeg), .int (xs (i + 2).toNatClampNeg)]) (rest := []) ⟨hx, hb, hml, hown, hts⟩ (k_X8_pieceOf l D ca gx ax pa tb σx (xs (i + 1).toNatClampNeg) (xs (i + 2).toNatClampNeg) H.size hI _ _ (Prod.eta _).symm) (cwV 2 hts gL_law_X8_pieceOf rfl rfl rfl (by decide +kernel) ⟨Nat.le_of_ble_eq_true rfl, Nat.le_of_ble_eq_true rfl⟩) ⟨cw_blind, va_recv hK (tw_pl hP) (ci := 8) (q0 := 0) rfl rfl, cw_give (tw_pl hP) hK (tw_dl hD) hZ hS hF⟩ rfl rfl hl.1 rfl (lv_room (Nat.le_of_ble_eq_true rfl)) dL_law_949 (rm_ok (a := 0) (d := 0) (by omega) (by decide) (by decide))) hS (fun q _ h => hF q h) hF (fun r_1 u t H1 locs ht hvm hw hB hz1 hk1 hS => ?_)
  rw [hw]
  obtain ⟨hB, hI9⟩ := hB
  obtain ⟨hP, hD⟩ := tw_L hP hD hF hk1 ht hB
  clear hB hk1 hz1 hF hw ht
  generalize H1 = H at hP hS ⊢
  obtain ⟨τx, hτx⟩ : ∃ t9, (s_X8_pieceOf σx (xs (i + 1).toNatClampNeg) (xs (i + 2).toNatClampNeg)).2 = t9 := ⟨_, rfl⟩
  rw [hτx] at hP hD hI9
  obtain ⟨vx, hvx⟩ : ∃ t9, (s_X8_pieceOf σx (xs (i + 1).toNatClampNeg) (xs (i + 2).toNatClampNeg)).1 = t9 := ⟨_, rfl⟩
  rw [hvx]
  refine W.widen (k := 70 + (k + 1)) (n := 3691 + 10 * (k + 1)) (by omega) (by omega) ?_
  refine lv_pop hx hb dL_law_952 rfl ?_
  refine lv_aload_n hx hb dL_law_953 rfl (lv_at hl 1 rfl) ?_
  refine lv_aload_n hx hb dL_law_954 rfl (lv_at hl 3 rfl) ?_
  refine lv_iload_n hx hb dL_law_955 rfl (lv_at hl 0 rfl) ?_
  refine lv_iconst (v := 1) hx hb dL_law_956 (by decide) ?_
  refine lv_iadd hx hb dL_law_957 ?_
  refine va_sld hx hb hX hbl hbA hS q1 dL_law_958 ?_
  refine lv_aload_n hx hb dL_law_959 rfl (lv_at hl 3 rfl) ?_
  refine lv_iload_n hx hb dL_law_960 rfl (lv_at hl 0 rfl) ?_
  refine lv_iconst (v := 2) hx hb dL_law_961 (by decide) ?_
  refine lv_iadd hx hb dL_law_962 ?_
  refine va_sld hx hb hX hbl hbA hS q2 dL_law_963 ?_
  have hF := tw_fr hD hS hA
  refine va_calli (va_runV (As := [.int (xs (i + 1).toNatClampNeg), .int (xs (i + 2).toNatClampNeg)]) (rest := []) ⟨hx, hb, hml, hown, hts⟩ (k_X9_pieceOf l D ca gm am σm (xs (i + 1).toNatClampNeg) (xs (i + 2).toNatClampNeg) H.size hJ _ rfl) (cwV 2 hts gL_law_X9_pieceOf rfl rfl rfl (by decide +kernel) ⟨Nat.le_of_ble_eq_true rfl, Nat.le_of_ble_eq_true rfl⟩) ⟨pw_blind, va_recv hK (tw_pr hP) (ci := 9) (q0 := 0) rfl rfl, pw_give (tw_pr hP) hK (tw_dr hD)⟩ rfl rfl hl.1 rfl (lv_room (Nat.le_of_ble_eq_true rfl)) dL_law_964 (rm_ok (k := k + 1) (a := 0) (d := 0) (by omega) (by decide) (by decide))) hS (fun q _ h => hF q h) hF (fun r_2 u t H1 locs ht hvm hw hB hz1 hk1 hS => ?_)
  rw [hw]
  obtain ⟨hB, hJ9⟩ := hB
  obtain ⟨hP, hD⟩ := tw_R hP hD hF hk1 ht hB
  clear hB hk1 hz1 hF hw ht
  generalize H1 = H at hP hS ⊢
  obtain ⟨τm, hτm⟩ : ∃ t9, (s_X9_pieceOf σm (xs (i + 1).toNatClampNeg) (xs (i + 2).toNatClampNeg)).2 = t9 := ⟨_, rfl⟩
  rw [hτm] at hP hD hJ9
  obtain ⟨vm9, hvm9⟩ : ∃ t9, (s_X9_pieceOf σm (xs (i + 1).toNatClampNeg) (xs (i + 2).toNatClampNeg)).1 = t9 := ⟨_, rfl⟩
  rw [hvm9]
  refine lv_pop hx hb dL_law_967 rfl ?_
  refine lv_goto (tgt := 1093) hx hb dL_law_968 (by decide) ?_
  have hRel : Rel (k + 1) (s_X8_pieceOf σx (xs (i + 1).toNatClampNeg) (xs (i + 2).toNatClampNeg)).2 (s_X9_pieceOf σm (xs (i + 1).toNatClampNeg) (xs (i + 2).toNatClampNeg)).2 := rl_pieceOf (by omega) hI hJ hJR hR (xs (i + 1).toNatClampNeg) (xs (i + 2).toNatClampNeg)
  have hJR2 : JR (s_X9_pieceOf σm (xs (i + 1).toNatClampNeg) (xs (i + 2).toNatClampNeg)).2 := jr_pieceOf hJR (xs (i + 1).toNatClampNeg) (xs (i + 2).toNatClampNeg)
  have h72 : ((s_X9_pieceOf σm (xs (i + 1).toNatClampNeg) (xs (i + 2).toNatClampNeg)).2 7 0).toInt ≤ ((k + 1 : Nat) : Int) := o7a (o7_pieceOf σm (xs (i + 1).toNatClampNeg) (xs (i + 2).toNatClampNeg)) h7
  rw [hτx, hτm] at hRel
  rw [hτm] at hJR2 h72
  exact lc_next G nx pa τx τm H _ ls hP hD hS (by rw [hi]; exact hl) hI9 hJ9 hJR2 h72 hRel
set_option maxHeartbeats 4000000 in
set_option maxRecDepth 100000 in
theorem lc_23 (G : LH p s m meth c D ca A b L tb xs) (hk : 6 * k + 6 ≤ L) (nx : LN p l e s m below meth c D ca A b gx gm ax am (k + 1) 18) : LN p l e s m below meth c D ca A b gx gm ax am k 971 := by
  obtain ⟨⟨hx, hb, hr, hml, hown, hts0, hX, hbl, hlocks, hgv⟩, hA, hA2, hK, hZ, hL⟩ := id G
  have hown : s.vm.findClass RL = some m.cls := hown
  have hts : ∀ w ∈ wsL_law, w.before #[Value.ref b] s = true := fun w h => hts0 w (wsL_law_in w h)
  have hbA : ¬ A b := fun h => absurd (hA2 b h) (Nat.not_le.mpr hbl)
  intro pa σx σm H locs ls hP hD hS hl hI hJ hJR h7 hR
  have q1 := lq (v := 1) (n := 1) (by decide) (by decide) hk hL
  have q2 := lq (v := 2) (n := 2) (by decide) (by decide) hk hL
  obtain ⟨i, hi⟩ : ∃ i : Int32, nI (6 * k) = i := ⟨_, rfl⟩
  rw [hi] at hl q1 q2
  refine lv_aload_n hx hb dL_law_971 rfl (lv_at hl 2 rfl) ?_
  refine lv_aload_n hx hb dL_law_972 rfl (lv_at hl 3 rfl) ?_
  refine lv_iload_n hx hb dL_law_973 rfl (lv_at hl 0 rfl) ?_
  refine lv_iconst (v := 1) hx hb dL_law_974 (by decide) ?_
  refine lv_iadd hx hb dL_law_975 ?_
  refine va_sld hx hb hX hbl hbA hS q1 dL_law_976 ?_
  refine lv_aload_n hx hb dL_law_977 rfl (lv_at hl 3 rfl) ?_
  refine lv_iload_n hx hb dL_law_978 rfl (lv_at hl 0 rfl) ?_
  refine lv_iconst (v := 2) hx hb dL_law_979 (by decide) ?_
  refine lv_iadd hx hb dL_law_980 ?_
  refine va_sld hx hb hX hbl hbA hS q2 dL_law_981 ?_
  have hF := tw_fl hD hS hA
  refine va_calli (va_runV (As := [.int (xs (i + 1).toNatClampNeg), .int (xs (i + 2).toNatClampNeg)]) (rest := []) ⟨hx, hb, hml, hown, hts⟩ (k_X8_rightOf l D ca gx ax pa tb σx (xs (i + 1).toNatClampNeg) (xs (i + 2).toNatClampNeg) H.size hI _ _ (Prod.eta _).symm) (cwV 2 hts gL_law_X8_rightOf rfl rfl rfl (by decide +kernel) ⟨Nat.le_of_ble_eq_true rfl, Nat.le_of_ble_eq_true rfl⟩) ⟨cw_blind, va_recv hK (tw_pl hP) (ci := 8) (q0 := 0) rfl rfl, cw_give (tw_pl hP) hK (tw_dl hD) hZ hS hF⟩ rfl rfl hl.1 rfl (lv_room (Nat.le_of_ble_eq_true rfl)) dL_law_982 (rm_ok (a := 0) (d := 0) (by omega) (by decide) (by decide))) hS (fun q _ h => hF q h) hF (fun r_1 u t H1 locs ht hvm hw hB hz1 hk1 hS => ?_)
  rw [hw]
  obtain ⟨hB, hI9⟩ := hB
  obtain ⟨hP, hD⟩ := tw_L hP hD hF hk1 ht hB
  clear hB hk1 hz1 hF hw ht
  generalize H1 = H at hP hS ⊢
  obtain ⟨τx, hτx⟩ : ∃ t9, (s_X8_rightOf σx (xs (i + 1).toNatClampNeg) (xs (i + 2).toNatClampNeg)).2 = t9 := ⟨_, rfl⟩
  rw [hτx] at hP hD hI9
  obtain ⟨vx, hvx⟩ : ∃ t9, (s_X8_rightOf σx (xs (i + 1).toNatClampNeg) (xs (i + 2).toNatClampNeg)).1 = t9 := ⟨_, rfl⟩
  rw [hvx]
  refine W.widen (k := 70 + (k + 1)) (n := 3691 + 10 * (k + 1)) (by omega) (by omega) ?_
  refine lv_pop hx hb dL_law_985 rfl ?_
  refine lv_aload_n hx hb dL_law_986 rfl (lv_at hl 1 rfl) ?_
  refine lv_aload_n hx hb dL_law_987 rfl (lv_at hl 3 rfl) ?_
  refine lv_iload_n hx hb dL_law_988 rfl (lv_at hl 0 rfl) ?_
  refine lv_iconst (v := 1) hx hb dL_law_989 (by decide) ?_
  refine lv_iadd hx hb dL_law_990 ?_
  refine va_sld hx hb hX hbl hbA hS q1 dL_law_991 ?_
  refine lv_aload_n hx hb dL_law_992 rfl (lv_at hl 3 rfl) ?_
  refine lv_iload_n hx hb dL_law_993 rfl (lv_at hl 0 rfl) ?_
  refine lv_iconst (v := 2) hx hb dL_law_994 (by decide) ?_
  refine lv_iadd hx hb dL_law_995 ?_
  refine va_sld hx hb hX hbl hbA hS q2 dL_law_996 ?_
  have hF := tw_fr hD hS hA
  refine va_calli (va_runV (As := [.int (xs (i + 1).toNatClampNeg), .int (xs (i + 2).toNatClampNeg)]) (rest := []) ⟨hx, hb, hml, hown, hts⟩ (k_X9_rightOf l D ca gm am σm (xs (i + 1).toNatClampNeg) (xs (i + 2).toNatClampNeg) H.size hJ _ rfl) (cwV 2 hts gL_law_X9_rightOf rfl rfl rfl (by decide +kernel) ⟨Nat.le_of_ble_eq_true rfl, Nat.le_of_ble_eq_true rfl⟩) ⟨pw_blind, va_recv hK (tw_pr hP) (ci := 9) (q0 := 0) rfl rfl, pw_give (tw_pr hP) hK (tw_dr hD)⟩ rfl rfl hl.1 rfl (lv_room (Nat.le_of_ble_eq_true rfl)) dL_law_997 (rm_ok (k := k + 1) (a := 0) (d := 0) (by omega) (by decide) (by decide))) hS (fun q _ h => hF q h) hF (fun r_2 u t H1 locs ht hvm hw hB hz1 hk1 hS => ?_)
  rw [hw]
  obtain ⟨hB, hJ9⟩ := hB
  obtain ⟨hP, hD⟩ := tw_R hP hD hF hk1 ht hB
  clear hB hk1 hz1 hF hw ht
  generalize H1 = H at hP hS ⊢
  obtain ⟨τm, hτm⟩ : ∃ t9, (s_X9_rightOf σm (xs (i + 1).toNatClampNeg) (xs (i + 2).toNatClampNeg)).2 = t9 := ⟨_, rfl⟩
  rw [hτm] at hP hD hJ9
  obtain ⟨vm9, hvm9⟩ : ∃ t9, (s_X9_rightOf σm (xs (i + 1).toNatClampNeg) (xs (i + 2).toNatClampNeg)).1 = t9 := ⟨_, rfl⟩
  rw [hvm9]
  refine lv_pop hx hb dL_law_1000 rfl ?_
  refine lv_goto (tgt := 1093) hx hb dL_law_1001 (by decide) ?_
  have hRel : Rel (k + 1) (s_X8_rightOf σx (xs (i + 1).toNatClampNeg) (xs (i + 2).toNatClampNeg)).2 (s_X9_rightOf σm (xs (i + 1).toNatClampNeg) (xs (i + 2).toNatClampNeg)).2 := rl_rightOf (by omega) hI hJ hJR hR (xs (i + 1).toNatClampNeg) (xs (i + 2).toNatClampNeg)
  have hJR2 : JR (s_X9_rightOf σm (xs (i + 1).toNatClampNeg) (xs (i + 2).toNatClampNeg)).2 := jr_rightOf hJR (xs (i + 1).toNatClampNeg) (xs (i + 2).toNatClampNeg)
  have h72 : ((s_X9_rightOf σm (xs (i + 1).toNatClampNeg) (xs (i + 2).toNatClampNeg)).2 7 0).toInt ≤ ((k + 1 : Nat) : Int) := o7a (o7_rightOf σm (xs (i + 1).toNatClampNeg) (xs (i + 2).toNatClampNeg)) h7
  rw [hτx, hτm] at hRel
  rw [hτm] at hJR2 h72
  exact lc_next G nx pa τx τm H _ ls hP hD hS (by rw [hi]; exact hl) hI9 hJ9 hJR2 h72 hRel
end LW
