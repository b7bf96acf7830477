section LW
variable {p : Program} {l : Launch} {e : Env} {s : State} {m : MethodId} {below : List Frame} {meth : Method} {c : Code} {D : va_G} {ca : Nat → ClassId} {A : Nat → Prop} {b L tb gx gm k : Nat} {ax am : Nat → Nat} {xs : Nat → Int32}
set_option maxHeartbeats 4000000 in
set_option maxRecDepth 100000 in
theorem lc_18 (G : LH p s m meth c D ca A b L tb xs) (hk : 6 * k + 6 ≤ L) (nx : LN p l e s m below meth c D ca A b gx gm ax am (k + 1) 18) : LN p l e s m below meth c D ca A b gx gm ax am k 806 := by
  obtain ⟨⟨hx, hb, hr, hml, hown, hts0, hX, hbl, hlocks, hgv⟩, hA, hA2, hK, hZ, hL⟩ := id G
  have hown : s.vm.findClass RL = some m.cls := hown
  have hts : ∀ w ∈ wsL_law, w.before #[Value.ref b] s = true := fun w h => hts0 w (wsL_law_in w h)
  have hbA : ¬ A b := fun h => absurd (hA2 b h) (Nat.not_le.mpr hbl)
  intro pa σx σm H locs ls hP hD hS hl hI hJ hJR h7 hR
  have q1 := lq (v := 1) (n := 1) (by decide) (by decide) hk hL
  obtain ⟨i, hi⟩ : ∃ i : Int32, nI (6 * k) = i := ⟨_, rfl⟩
  rw [hi] at hl q1
  refine lv_aload_n hx hb dL_law_806 rfl (lv_at hl 2 rfl) ?_
  refine lv_aload_n hx hb dL_law_807 rfl (lv_at hl 3 rfl) ?_
  refine lv_iload_n hx hb dL_law_808 rfl (lv_at hl 0 rfl) ?_
  refine lv_iconst (v := 1) hx hb dL_law_809 (by decide) ?_
  refine lv_iadd hx hb dL_law_810 ?_
  refine va_sld hx hb hX hbl hbA hS q1 dL_law_811 ?_
  have hF := tw_fl hD hS hA
  refine va_calli (va_runV (As := [.int (xs (i + 1).toNatClampNeg)]) (rest := []) ⟨hx, hb, hml, hown, hts⟩ (k_X8_pound l D ca gx ax pa tb σx (xs (i + 1).toNatClampNeg) H.size hI _ _ (Prod.eta _).symm) (cwV 1 hts gL_law_X8_pound rfl rfl rfl (by decide +kernel) ⟨Nat.le_of_ble_eq_true rfl, Nat.le_of_ble_eq_true rfl⟩) ⟨cw_blind, va_recv hK (tw_pl hP) (ci := 8) (q0 := 0) rfl rfl, cw_give (tw_pl hP) hK (tw_dl hD) hZ hS hF⟩ rfl rfl hl.1 rfl (lv_room (Nat.le_of_ble_eq_true rfl)) dL_law_812 (rm_ok (a := 0) (d := 0) (by omega) (by decide) (by decide))) hS (fun q _ h => hF q h) hF (fun r_1 u t H1 locs ht hvm hw hB hz1 hk1 hS => ?_)
  rw [hw]
  obtain ⟨hB, hI9⟩ := hB
  obtain ⟨hP, hD⟩ := tw_L hP hD hF hk1 ht hB
  clear hB hk1 hz1 hF hw ht
  generalize H1 = H at hP hS ⊢
  obtain ⟨τx, hτx⟩ : ∃ t9, (s_X8_pound σx (xs (i + 1).toNatClampNeg)).2 = t9 := ⟨_, rfl⟩
  rw [hτx] at hP hD hI9
  obtain ⟨vx, hvx⟩ : ∃ t9, (s_X8_pound σx (xs (i + 1).toNatClampNeg)).1 = t9 := ⟨_, rfl⟩
  rw [hvx]
  refine W.widen (k := 70 + (k + 1)) (n := 3691 + 10 * (k + 1)) (by omega) (by omega) ?_
  refine lv_pop hx hb dL_law_815 rfl ?_
  refine lv_aload_n hx hb dL_law_816 rfl (lv_at hl 1 rfl) ?_
  refine lv_aload_n hx hb dL_law_817 rfl (lv_at hl 3 rfl) ?_
  refine lv_iload_n hx hb dL_law_818 rfl (lv_at hl 0 rfl) ?_
  refine lv_iconst (v := 1) hx hb dL_law_819 (by decide) ?_
  refine lv_iadd hx hb dL_law_820 ?_
  refine va_sld hx hb hX hbl hbA hS q1 dL_law_821 ?_
  have hF := tw_fr hD hS hA
  refine va_calli (va_runV (As := [.int (xs (i + 1).toNatClampNeg)]) (rest := []) ⟨hx, hb, hml, hown, hts⟩ (k_X9_pound l D ca gm am σm (xs (i + 1).toNatClampNeg) H.size hJ _ rfl) (cwV 1 hts gL_law_X9_pound rfl rfl rfl (by decide +kernel) ⟨Nat.le_of_ble_eq_true rfl, Nat.le_of_ble_eq_true rfl⟩) ⟨pw_blind, va_recv hK (tw_pr hP) (ci := 9) (q0 := 0) rfl rfl, pw_give (tw_pr hP) hK (tw_dr hD)⟩ rfl rfl hl.1 rfl (lv_room (Nat.le_of_ble_eq_true rfl)) dL_law_822 (rm_ok (k := k + 1) (a := 0) (d := 0) (by omega) (by decide) (by decide))) hS (fun q _ h => hF q h) hF (fun r_2 u t H1 locs ht hvm hw hB hz1 hk1 hS => ?_)
  rw [hw]
  obtain ⟨hB, hJ9⟩ := hB
  obtain ⟨hP, hD⟩ := tw_R hP hD hF hk1 ht hB
  clear hB hk1 hz1 hF hw ht
  generalize H1 = H at hP hS ⊢
  obtain ⟨τm, hτm⟩ : ∃ t9, (s_X9_pound σm (xs (i + 1).toNatClampNeg)).2 = t9 := ⟨_, rfl⟩
  rw [hτm] at hP hD hJ9
  obtain ⟨vm9, hvm9⟩ : ∃ t9, (s_X9_pound σm (xs (i + 1).toNatClampNeg)).1 = t9 := ⟨_, rfl⟩
  rw [hvm9]
  refine lv_pop hx hb dL_law_825 rfl ?_
  refine lv_goto (tgt := 1093) hx hb dL_law_826 (by decide) ?_
  have hRel : Rel (k + 1) (s_X8_pound σx (xs (i + 1).toNatClampNeg)).2 (s_X9_pound σm (xs (i + 1).toNatClampNeg)).2 := rl_pound (by omega) hI hJ hJR hR (xs (i + 1).toNatClampNeg)
  have hJR2 : JR (s_X9_pound σm (xs (i + 1).toNatClampNeg)).2 := jr_pound hJR (xs (i + 1).toNatClampNeg)
  have h72 : ((s_X9_pound σm (xs (i + 1).toNatClampNeg)).2 7 0).toInt ≤ ((k + 1 : Nat) : Int) := o7a (o7_pound σm (xs (i + 1).toNatClampNeg)) h7
  rw [hτx, hτm] at hRel
  rw [hτm] at hJR2 h72
  exact lc_next G nx pa τx τm H _ ls hP hD hS (by rw [hi]; exact hl) hI9 hJ9 hJR2 h72 hRel
set_option maxHeartbeats 4000000 in
set_option maxRecDepth 100000 in
theorem lc_19 (G : LH p s m meth c D ca A b L tb xs) (hk : 6 * k + 6 ≤ L) (nx : LN p l e s m below meth c D ca A b gx gm ax am (k + 1) 18) : LN p l e s m below meth c D ca A b gx gm ax am k 829 := by
  obtain ⟨⟨hx, hb, hr, hml, hown, hts0, hX, hbl, hlocks, hgv⟩, hA, hA2, hK, hZ, hL⟩ := id G
  have hown : s.vm.findClass RL = some m.cls := hown
  have hts : ∀ w ∈ wsL_law, w.before #[Value.ref b] s = true := fun w h => hts0 w (wsL_law_in w h)
  have hbA : ¬ A b := fun h => absurd (hA2 b h) (Nat.not_le.mpr hbl)
  intro pa σx σm H locs ls hP hD hS hl hI hJ hJR h7 hR
  have q1 := lq (v := 1) (n := 1) (by decide) (by decide) hk hL
  obtain ⟨i, hi⟩ : ∃ i : Int32, nI (6 * k) = i := ⟨_, rfl⟩
  rw [hi] at hl q1
  refine lv_aload_n hx hb dL_law_829 rfl (lv_at hl 2 rfl) ?_
  refine lv_aload_n hx hb dL_law_830 rfl (lv_at hl 3 rfl) ?_
  refine lv_iload_n hx hb dL_law_831 rfl (lv_at hl 0 rfl) ?_
  refine lv_iconst (v := 1) hx hb dL_law_832 (by decide) ?_
  refine lv_iadd hx hb dL_law_833 ?_
  refine va_sld hx hb hX hbl hbA hS q1 dL_law_834 ?_
  have hF := tw_fl hD hS hA
  refine va_calli (va_runV (As := [.int (xs (i + 1).toNatClampNeg)]) (rest := []) ⟨hx, hb, hml, hown, hts⟩ (k_X8_free l D ca gx ax pa tb σx (xs (i + 1).toNatClampNeg) H.size hI _ _ (Prod.eta _).symm) (cwV 1 hts gL_law_X8_free rfl rfl rfl (by decide +kernel) ⟨Nat.le_of_ble_eq_true rfl, Nat.le_of_ble_eq_true rfl⟩) ⟨cw_blind, va_recv hK (tw_pl hP) (ci := 8) (q0 := 0) rfl rfl, cw_give (tw_pl hP) hK (tw_dl hD) hZ hS hF⟩ rfl rfl hl.1 rfl (lv_room (Nat.le_of_ble_eq_true rfl)) dL_law_835 (rm_ok (a := 0) (d := 0) (by omega) (by decide) (by decide))) hS (fun q _ h => hF q h) hF (fun r_1 u t H1 locs ht hvm hw hB hz1 hk1 hS => ?_)
  rw [hw]
  obtain ⟨hB, hI9⟩ := hB
  obtain ⟨hP, hD⟩ := tw_L hP hD hF hk1 ht hB
  clear hB hk1 hz1 hF hw ht
  generalize H1 = H at hP hS ⊢
  obtain ⟨τx, hτx⟩ : ∃ t9, (s_X8_free σx (xs (i + 1).toNatClampNeg)).2 = t9 := ⟨_, rfl⟩
  rw [hτx] at hP hD hI9
  obtain ⟨vx, hvx⟩ : ∃ t9, (s_X8_free σx (xs (i + 1).toNatClampNeg)).1 = t9 := ⟨_, rfl⟩
  rw [hvx]
  refine W.widen (k := 70 + (k + 1)) (n := 3691 + 10 * (k + 1)) (by omega) (by omega) ?_
  refine lv_pop hx hb dL_law_838 rfl ?_
  refine lv_aload_n hx hb dL_law_839 rfl (lv_at hl 1 rfl) ?_
  refine lv_aload_n hx hb dL_law_840 rfl (lv_at hl 3 rfl) ?_
  refine lv_iload_n hx hb dL_law_841 rfl (lv_at hl 0 rfl) ?_
  refine lv_iconst (v := 1) hx hb dL_law_842 (by decide) ?_
  refine lv_iadd hx hb dL_law_843 ?_
  refine va_sld hx hb hX hbl hbA hS q1 dL_law_844 ?_
  have hF := tw_fr hD hS hA
  refine va_calli (va_runV (As := [.int (xs (i + 1).toNatClampNeg)]) (rest := []) ⟨hx, hb, hml, hown, hts⟩ (k_X9_free l D ca gm am σm (xs (i + 1).toNatClampNeg) H.size hJ _ rfl) (cwV 1 hts gL_law_X9_free rfl rfl rfl (by decide +kernel) ⟨Nat.le_of_ble_eq_true rfl, Nat.le_of_ble_eq_true rfl⟩) ⟨pw_blind, va_recv hK (tw_pr hP) (ci := 9) (q0 := 0) rfl rfl, pw_give (tw_pr hP) hK (tw_dr hD)⟩ rfl rfl hl.1 rfl (lv_room (Nat.le_of_ble_eq_true rfl)) dL_law_845 (rm_ok (k := k + 1) (a := 0) (d := 0) (by omega) (by decide) (by decide))) hS (fun q _ h => hF q h) hF (fun r_2 u t H1 locs ht hvm hw hB hz1 hk1 hS => ?_)
  rw [hw]
  obtain ⟨hB, hJ9⟩ := hB
  obtain ⟨hP, hD⟩ := tw_R hP hD hF hk1 ht hB
  clear hB hk1 hz1 hF hw ht
  generalize H1 = H at hP hS ⊢
  obtain ⟨τm, hτm⟩ : ∃ t9, (s_X9_free σm (xs (i + 1).toNatClampNeg)).2 = t9 := ⟨_, rfl⟩
  rw [hτm] at hP hD hJ9
  obtain ⟨vm9, hvm9⟩ : ∃ t9, (s_X9_free σm (xs (i + 1).toNatClampNeg)).1 = t9 := ⟨_, rfl⟩
  rw [hvm9]
  refine lv_pop hx hb dL_law_848 rfl ?_
  refine lv_goto (tgt := 1093) hx hb dL_law_849 (by decide) ?_
  have hRel : Rel (k + 1) (s_X8_free σx (xs (i + 1).toNatClampNeg)).2 (s_X9_free σm (xs (i + 1).toNatClampNeg)).2 := rl_free (by omega) hI hJ hJR hR (xs (i + 1).toNatClampNeg)
  have hJR2 : JR (s_X9_free σm (xs (i + 1).toNatClampNeg)).2 := jr_free hJ hJR (xs (i + 1).toNatClampNeg)
  have h72 : ((s_X9_free σm (xs (i + 1).toNatClampNeg)).2 7 0).toInt ≤ ((k + 1 : Nat) : Int) := o7a (o7_free σm (xs (i + 1).toNatClampNeg)) h7
  rw [hτx, hτm] at hRel
  rw [hτm] at hJR2 h72
  exact lc_next G nx pa τx τm H _ ls hP hD hS (by rw [hi]; exact hl) hI9 hJ9 hJR2 h72 hRel
set_option maxHeartbeats 4000000 in
set_option maxRecDepth 100000 in
theorem lc_20 (G : LH p s m meth c D ca A b L tb xs) (hk : 6 * k + 6 ≤ L) (nx : LN p l e s m below meth c D ca A b gx gm ax am (k + 1) 18) : LN p l e s m below meth c D ca A b gx gm ax am k 852 := by
  obtain ⟨⟨hx, hb, hr, hml, hown, hts0, hX, hbl, hlocks, hgv⟩, hA, hA2, hK, hZ, hL⟩ := id G
  have hown : s.vm.findClass RL = some m.cls := hown
  have hts : ∀ w ∈ wsL_law, w.before #[Value.ref b] s = true := fun w h => hts0 w (wsL_law_in w h)
  have hbA : ¬ A b := fun h => absurd (hA2 b h) (Nat.not_le.mpr hbl)
  intro pa σx σm H locs ls hP hD hS hl hI hJ hJR h7 hR
  have q1 := lq (v := 1) (n := 1) (by decide) (by decide) hk hL
  have q2 := lq (v := 2) (n := 2) (by decide) (by decide) hk hL
  have q3 := lq (v := 3) (n := 3) (by decide) (by decide) hk hL
  have q4 := lq (v := 4) (n := 4) (by decide) (by decide) hk hL
  obtain ⟨i, hi⟩ : ∃ i : Int32, nI (6 * k) = i := ⟨_, rfl⟩
  rw [hi] at hl q1 q2 q3 q4
  refine lv_aload_n hx hb dL_law_852 rfl (lv_at hl 2 rfl) ?_
  refine lv_aload_n hx hb dL_law_853 rfl (lv_at hl 3 rfl) ?_
  refine lv_iload_n hx hb dL_law_854 rfl (lv_at hl 0 rfl) ?_
  refine lv_iconst (v := 1) hx hb dL_law_855 (by decide) ?_
  refine lv_iadd hx hb dL_law_856 ?_
  refine va_sld hx hb hX hbl hbA hS q1 dL_law_857 ?_
  refine lv_aload_n hx hb dL_law_858 rfl (lv_at hl 3 rfl) ?_
  refine lv_iload_n hx hb dL_law_859 rfl (lv_at hl 0 rfl) ?_
  refine lv_iconst (v := 2) hx hb dL_law_860 (by decide) ?_
  refine lv_iadd hx hb dL_law_861 ?_
  refine va_sld hx hb hX hbl hbA hS q2 dL_law_862 ?_
  refine lv_aload_n hx hb dL_law_863 rfl (lv_at hl 3 rfl) ?_
  refine lv_iload_n hx hb dL_law_864 rfl (lv_at hl 0 rfl) ?_
  refine lv_iconst (v := 3) hx hb dL_law_865 (by decide) ?_
  refine lv_iadd hx hb dL_law_866 ?_
  refine va_sld hx hb hX hbl hbA hS q3 dL_law_867 ?_
  refine lv_aload_n hx hb dL_law_868 rfl (lv_at hl 3 rfl) ?_
  refine lv_iload_n hx hb dL_law_869 rfl (lv_at hl 0 rfl) ?_
  refine lv_iconst (v := 4) hx hb dL_law_870 (by decide) ?_
  refine lv_iadd hx hb dL_law_871 ?_
  refine va_sld hx hb hX hbl hbA hS q4 dL_law_872 ?_
  have hF := tw_fl hD hS hA
  refine va_calli (va_runV (As := [.int (xs (i + 1).toNatClampNeg), .int (xs (i + 2).toNatClampNeg), .int (xs (i + 3).toNatClampNeg), .int (xs (i + 4).toNatClampNeg)]) (rest := []) ⟨hx, hb, hml, hown, hts⟩ (k_X8_plan l D ca gx ax pa tb σx (xs (i + 1).toNatClampNeg) (xs (i + 2).toNatClampNeg) (xs (i + 3).toNatClampNeg) (xs (i + 4).toNatClampNeg) H.size hI _ _ (Prod.eta _).symm) (cwV 4 hts gL_law_X8_plan rfl rfl rfl (by decide +kernel) ⟨Nat.le_of_ble_eq_true rfl, Nat.le_of_ble_eq_true rfl⟩) ⟨cw_blind, va_recv hK (tw_pl hP) (ci := 8) (q0 := 0) rfl rfl, cw_give (tw_pl hP) hK (tw_dl hD) hZ hS hF⟩ rfl rfl hl.1 rfl (lv_room (Nat.le_of_ble_eq_true rfl)) dL_law_873 (rm_ok (a := 0) (d := 0) (by omega) (by decide) (by decide))) hS (fun q _ h => hF q h) hF (fun r_1 u t H1 locs ht hvm hw hB hz1 hk1 hS => ?_)
  rw [hw]
  obtain ⟨hB, hI9⟩ := hB
  obtain ⟨hP, hD⟩ := tw_L hP hD hF hk1 ht hB
  clear hB hk1 hz1 hF hw ht
  generalize H1 = H at hP hS ⊢
  obtain ⟨τx, hτx⟩ : ∃ t9, (s_X8_plan σx (xs (i + 1).toNatClampNeg) (xs (i + 2).toNatClampNeg) (xs (i + 3).toNatClampNeg) (xs (i + 4).toNatClampNeg)).2 = t9 := ⟨_, rfl⟩
  rw [hτx] at hP hD hI9
  obtain ⟨vx, hvx⟩ : ∃ t9, (s_X8_plan σx (xs (i + 1).toNatClampNeg) (xs (i + 2).toNatClampNeg) (xs (i + 3).toNatClampNeg) (xs (i + 4).toNatClampNeg)).1 = t9 := ⟨_, rfl⟩
  rw [hvx]
  refine W.widen (k := 70 + (k + 1)) (n := 3691 + 10 * (k + 1)) (by omega) (by omega) ?_
  refine lv_pop hx hb dL_law_876 rfl ?_
  refine lv_aload_n hx hb dL_law_877 rfl (lv_at hl 1 rfl) ?_
  refine lv_aload_n hx hb dL_law_878 rfl (lv_at hl 3 rfl) ?_
  refine lv_iload_n hx hb dL_law_879 rfl (lv_at hl 0 rfl) ?_
  refine lv_iconst (v := 1) hx hb dL_law_880 (by decide) ?_
  refine lv_iadd hx hb dL_law_881 ?_
  refine va_sld hx hb hX hbl hbA hS q1 dL_law_882 ?_
  refine lv_aload_n hx hb dL_law_883 rfl (lv_at hl 3 rfl) ?_
  refine lv_iload_n hx hb dL_law_884 rfl (lv_at hl 0 rfl) ?_
  refine lv_iconst (v := 2) hx hb dL_law_885 (by decide) ?_
  refine lv_iadd hx hb dL_law_886 ?_
  refine va_sld hx hb hX hbl hbA hS q2 dL_law_887 ?_
  refine lv_aload_n hx hb dL_law_888 rfl (lv_at hl 3 rfl) ?_
  refine lv_iload_n hx hb dL_law_889 rfl (lv_at hl 0 rfl) ?_
  refine lv_iconst (v := 3) hx hb dL_law_890 (by decide) ?_
  refine lv_iadd hx hb dL_law_891 ?_
  refine va_sld hx hb hX hbl hbA hS q3 dL_law_892 ?_
  refine lv_aload_n hx hb dL_law_893 rfl (lv_at hl 3 rfl) ?_
  refine lv_iload_n hx hb dL_law_894 rfl (lv_at hl 0 rfl) ?_
  refine lv_iconst (v := 4) hx hb dL_law_895 (by decide) ?_
  refine lv_iadd hx hb dL_law_896 ?_
  refine va_sld hx hb hX hbl hbA hS q4 dL_law_897 ?_
  have hF := tw_fr hD hS hA
  refine va_calli (va_runV (As := [.int (xs (i + 1).toNatClampNeg), .int (xs (i + 2).toNatClampNeg), .int (xs (i + 3).toNatClampNeg), .int (xs (i + 4).toNatClampNeg)]) (rest := []) ⟨hx, hb, hml, hown, hts⟩ (k_X9_plan l D ca gm am σm (xs (i + 1).toNatClampNeg) (xs (i + 2).toNatClampNeg) (xs (i + 3).toNatClampNeg) (xs (i + 4).toNatClampNeg) H.size hJ _ rfl) (cwV 4 hts gL_law_X9_plan rfl rfl rfl (by decide +kernel) ⟨Nat.le_of_ble_eq_true rfl, Nat.le_of_ble_eq_true rfl⟩) ⟨pw_blind, va_recv hK (tw_pr hP) (ci := 9) (q0 := 0) rfl rfl, pw_give (tw_pr hP) hK (tw_dr hD)⟩ rfl rfl hl.1 rfl (lv_room (Nat.le_of_ble_eq_true rfl)) dL_law_898 (rm_ok (k := k + 1) (a := 0) (d := 0) (by omega) (by decide) (by decide))) hS (fun q _ h => hF q h) hF (fun r_2 u t H1 locs ht hvm hw hB hz1 hk1 hS => ?_)
  rw [hw]
  obtain ⟨hB, hJ9⟩ := hB
  obtain ⟨hP, hD⟩ := tw_R hP hD hF hk1 ht hB
  clear hB hk1 hz1 hF hw ht
  generalize H1 = H at hP hS ⊢
  obtain ⟨τm, hτm⟩ : ∃ t9, (s_X9_plan σm (xs (i + 1).toNatClampNeg) (xs (i + 2).toNatClampNeg) (xs (i + 3).toNatClampNeg) (xs (i + 4).toNatClampNeg)).2 = t9 := ⟨_, rfl⟩
  rw [hτm] at hP hD hJ9
  obtain ⟨vm9, hvm9⟩ : ∃ t9, (s_X9_plan σm (xs (i + 1).toNatClampNeg) (xs (i + 2).toNatClampNeg) (xs (i + 3).toNatClampNeg) (xs (i + 4).toNatClampNeg)).1 = t9 := ⟨_, rfl⟩
  rw [hvm9]
  refine lv_pop hx hb dL_law_901 rfl ?_
  refine lv_goto (tgt := 1093) hx hb dL_law_902 (by decide) ?_
  have hRel : Rel (k + 1) (s_X8_plan σx (xs (i + 1).toNatClampNeg) (xs (i + 2).toNatClampNeg) (xs (i + 3).toNatClampNeg) (xs (i + 4).toNatClampNeg)).2 (s_X9_plan σm (xs (i + 1).toNatClampNeg) (xs (i + 2).toNatClampNeg) (xs (i + 3).toNatClampNeg) (xs (i + 4).toNatClampNeg)).2 := rl_plan (by omega) hI hJ hJR hR (xs (i + 1).toNatClampNeg) (xs (i + 2).toNatClampNeg) (xs (i + 3).toNatClampNeg) (xs (i + 4).toNatClampNeg)
  have hJR2 : JR (s_X9_plan σm (xs (i + 1).toNatClampNeg) (xs (i + 2).toNatClampNeg) (xs (i + 3).toNatClampNeg) (xs (i + 4).toNatClampNeg)).2 := jr_plan hJR (xs (i + 1).toNatClampNeg) (xs (i + 2).toNatClampNeg) (xs (i + 3).toNatClampNeg) (xs (i + 4).toNatClampNeg)
  have h72 : ((s_X9_plan σm (xs (i + 1).toNatClampNeg) (xs (i + 2).toNatClampNeg) (xs (i + 3).toNatClampNeg) (xs (i + 4).toNatClampNeg)).2 7 0).toInt ≤ ((k + 1 : Nat) : Int) := o7a (o7_plan σm (xs (i + 1).toNatClampNeg) (xs (i + 2).toNatClampNeg) (xs (i + 3).toNatClampNeg) (xs (i + 4).toNatClampNeg)) h7
  rw [hτx, hτm] at hRel
  rw [hτm] at hJR2 h72
  exact lc_next G nx pa τx τm H _ ls hP hD hS (by rw [hi]; exact hl) hI9 hJ9 hJR2 h72 hRel
end LW
