section LW
variable {p : Program} {l : Launch} {e : Env} {s : State} {m : MethodId} {below : List Frame} {meth : Method} {c : Code} {D : va_G} {ca : Nat → ClassId} {A : Nat → Prop} {b L tb gx gm k : Nat} {ax am : Nat → Nat} {xs : Nat → Int32}
set_option maxHeartbeats 4000000 in
set_option maxRecDepth 100000 in
theorem lc_3 (G : LH p s m meth c D ca A b L tb xs) (hk : 6 * k + 6 ≤ L) (nx : LN p l e s m below meth c D ca A b gx gm ax am (k + 1) 18) : LN p l e s m below meth c D ca A b gx gm ax am k 271 := by
  obtain ⟨⟨hx, hb, hr, hml, hown, hts0, hX, hbl, hlocks, hgv⟩, hA, hA2, hK, hZ, hL⟩ := id G
  have hown : s.vm.findClass RL = some m.cls := hown
  have hts : ∀ w ∈ wsL_law, w.before #[Value.ref b] s = true := fun w h => hts0 w (wsL_law_in w h)
  have hbA : ¬ A b := fun h => absurd (hA2 b h) (Nat.not_le.mpr hbl)
  intro pa σx σm H locs ls hP hD hS hl hI hJ hJR h7 hR
  have q1 := lq (v := 1) (n := 1) (by decide) (by decide) hk hL
  have q2 := lq (v := 2) (n := 2) (by decide) (by decide) hk hL
  have q3 := lq (v := 3) (n := 3) (by decide) (by decide) hk hL
  obtain ⟨i, hi⟩ : ∃ i : Int32, nI (6 * k) = i := ⟨_, rfl⟩
  rw [hi] at hl q1 q2 q3
  refine lv_aload_n hx hb dL_law_271 rfl (lv_at hl 2 rfl) ?_
  refine lv_aload_n hx hb dL_law_272 rfl (lv_at hl 3 rfl) ?_
  refine lv_iload_n hx hb dL_law_273 rfl (lv_at hl 0 rfl) ?_
  refine lv_iconst (v := 1) hx hb dL_law_274 (by decide) ?_
  refine lv_iadd hx hb dL_law_275 ?_
  refine va_sld hx hb hX hbl hbA hS q1 dL_law_276 ?_
  refine lv_aload_n hx hb dL_law_277 rfl (lv_at hl 3 rfl) ?_
  refine lv_iload_n hx hb dL_law_278 rfl (lv_at hl 0 rfl) ?_
  refine lv_iconst (v := 2) hx hb dL_law_279 (by decide) ?_
  refine lv_iadd hx hb dL_law_280 ?_
  refine va_sld hx hb hX hbl hbA hS q2 dL_law_281 ?_
  refine lv_aload_n hx hb dL_law_282 rfl (lv_at hl 3 rfl) ?_
  refine lv_iload_n hx hb dL_law_283 rfl (lv_at hl 0 rfl) ?_
  refine lv_iconst (v := 3) hx hb dL_law_284 (by decide) ?_
  refine lv_iadd hx hb dL_law_285 ?_
  refine va_sld hx hb hX hbl hbA hS q3 dL_law_286 ?_
  have hF := tw_fl hD hS hA
  refine va_calli (va_runV (As := [.int (xs (i + 1).toNatClampNeg), .int (xs (i + 2).toNatClampNeg), .int (xs (i + 3).toNatClampNeg)]) (rest := []) ⟨hx, hb, hml, hown, hts⟩ (k_X8_rate l D ca gx ax pa tb σx (xs (i + 1).toNatClampNeg) (xs (i + 2).toNatClampNeg) (xs (i + 3).toNatClampNeg) H.size hI _ _ (Prod.eta _).symm) (cwV 3 hts gL_law_X8_rate rfl rfl rfl (by decide +kernel) ⟨Nat.le_of_ble_eq_true rfl, Nat.le_of_ble_eq_true rfl⟩) ⟨cw_blind, va_recv hK (tw_pl hP) (ci := 8) (q0 := 0) rfl rfl, cw_give (tw_pl hP) hK (tw_dl hD) hZ hS hF⟩ rfl rfl hl.1 rfl (lv_room (Nat.le_of_ble_eq_true rfl)) dL_law_287 (rm_ok (a := 0) (d := 0) (by omega) (by decide) (by decide))) hS (fun q _ h => hF q h) hF (fun r_1 u t H1 locs ht hvm hw hB hz1 hk1 hS => ?_)
  rw [hw]
  obtain ⟨hB, hI9⟩ := hB
  obtain ⟨hP, hD⟩ := tw_L hP hD hF hk1 ht hB
  clear hB hk1 hz1 hF hw ht
  generalize H1 = H at hP hS ⊢
  obtain ⟨τx, hτx⟩ : ∃ t9, (s_X8_rate σx (xs (i + 1).toNatClampNeg) (xs (i + 2).toNatClampNeg) (xs (i + 3).toNatClampNeg)).2 = t9 := ⟨_, rfl⟩
  rw [hτx] at hP hD hI9
  obtain ⟨vx, hvx⟩ : ∃ t9, (s_X8_rate σx (xs (i + 1).toNatClampNeg) (xs (i + 2).toNatClampNeg) (xs (i + 3).toNatClampNeg)).1 = t9 := ⟨_, rfl⟩
  rw [hvx]
  refine W.widen (k := 70 + (k + 1)) (n := 3691 + 10 * (k + 1)) (by omega) (by omega) ?_
  refine lv_pop hx hb dL_law_290 rfl ?_
  refine lv_aload_n hx hb dL_law_291 rfl (lv_at hl 1 rfl) ?_
  refine lv_aload_n hx hb dL_law_292 rfl (lv_at hl 3 rfl) ?_
  refine lv_iload_n hx hb dL_law_293 rfl (lv_at hl 0 rfl) ?_
  refine lv_iconst (v := 1) hx hb dL_law_294 (by decide) ?_
  refine lv_iadd hx hb dL_law_295 ?_
  refine va_sld hx hb hX hbl hbA hS q1 dL_law_296 ?_
  refine lv_aload_n hx hb dL_law_297 rfl (lv_at hl 3 rfl) ?_
  refine lv_iload_n hx hb dL_law_298 rfl (lv_at hl 0 rfl) ?_
  refine lv_iconst (v := 2) hx hb dL_law_299 (by decide) ?_
  refine lv_iadd hx hb dL_law_300 ?_
  refine va_sld hx hb hX hbl hbA hS q2 dL_law_301 ?_
  refine lv_aload_n hx hb dL_law_302 rfl (lv_at hl 3 rfl) ?_
  refine lv_iload_n hx hb dL_law_303 rfl (lv_at hl 0 rfl) ?_
  refine lv_iconst (v := 3) hx hb dL_law_304 (by decide) ?_
  refine lv_iadd hx hb dL_law_305 ?_
  refine va_sld hx hb hX hbl hbA hS q3 dL_law_306 ?_
  have hF := tw_fr hD hS hA
  refine va_calli (va_runV (As := [.int (xs (i + 1).toNatClampNeg), .int (xs (i + 2).toNatClampNeg), .int (xs (i + 3).toNatClampNeg)]) (rest := []) ⟨hx, hb, hml, hown, hts⟩ (k_X9_rate l D ca gm am σm (xs (i + 1).toNatClampNeg) (xs (i + 2).toNatClampNeg) (xs (i + 3).toNatClampNeg) H.size hJ _ rfl) (cwV 3 hts gL_law_X9_rate rfl rfl rfl (by decide +kernel) ⟨Nat.le_of_ble_eq_true rfl, Nat.le_of_ble_eq_true rfl⟩) ⟨pw_blind, va_recv hK (tw_pr hP) (ci := 9) (q0 := 0) rfl rfl, pw_give (tw_pr hP) hK (tw_dr hD)⟩ rfl rfl hl.1 rfl (lv_room (Nat.le_of_ble_eq_true rfl)) dL_law_307 (rm_ok (k := k + 1) (a := 0) (d := 0) (by omega) (by decide) (by decide))) hS (fun q _ h => hF q h) hF (fun r_2 u t H1 locs ht hvm hw hB hz1 hk1 hS => ?_)
  rw [hw]
  obtain ⟨hB, hJ9⟩ := hB
  obtain ⟨hP, hD⟩ := tw_R hP hD hF hk1 ht hB
  clear hB hk1 hz1 hF hw ht
  generalize H1 = H at hP hS ⊢
  obtain ⟨τm, hτm⟩ : ∃ t9, (s_X9_rate σm (xs (i + 1).toNatClampNeg) (xs (i + 2).toNatClampNeg) (xs (i + 3).toNatClampNeg)).2 = t9 := ⟨_, rfl⟩
  rw [hτm] at hP hD hJ9
  obtain ⟨vm9, hvm9⟩ : ∃ t9, (s_X9_rate σm (xs (i + 1).toNatClampNeg) (xs (i + 2).toNatClampNeg) (xs (i + 3).toNatClampNeg)).1 = t9 := ⟨_, rfl⟩
  rw [hvm9]
  refine lv_pop hx hb dL_law_310 rfl ?_
  refine lv_goto (tgt := 1093) hx hb dL_law_311 (by decide) ?_
  have hRel : Rel (k + 1) (s_X8_rate σx (xs (i + 1).toNatClampNeg) (xs (i + 2).toNatClampNeg) (xs (i + 3).toNatClampNeg)).2 (s_X9_rate σm (xs (i + 1).toNatClampNeg) (xs (i + 2).toNatClampNeg) (xs (i + 3).toNatClampNeg)).2 := rl_rate (by omega) hI hJ hJR hR (xs (i + 1).toNatClampNeg) (xs (i + 2).toNatClampNeg) (xs (i + 3).toNatClampNeg)
  have hJR2 : JR (s_X9_rate σm (xs (i + 1).toNatClampNeg) (xs (i + 2).toNatClampNeg) (xs (i + 3).toNatClampNeg)).2 := jr_rate hJR (xs (i + 1).toNatClampNeg) (xs (i + 2).toNatClampNeg) (xs (i + 3).toNatClampNeg)
  have h72 : ((s_X9_rate σm (xs (i + 1).toNatClampNeg) (xs (i + 2).toNatClampNeg) (xs (i + 3).toNatClampNeg)).2 7 0).toInt ≤ ((k + 1 : Nat) : Int) := o7a (o7_rate σm (xs (i + 1).toNatClampNeg) (xs (i + 2).toNatClampNeg) (xs (i + 3).toNatClampNeg)) h7
  rw [hτx, hτm] at hRel
  rw [hτm] at hJR2 h72
  exact lc_next G nx pa τx τm H _ ls hP hD hS (by rw [hi]; exact hl) hI9 hJ9 hJR2 h72 hRel
set_option maxHeartbeats 4000000 in
set_option maxRecDepth 100000 in
theorem lc_4 (G : LH p s m meth c D ca A b L tb xs) (hk : 6 * k + 6 ≤ L) (nx : LN p l e s m below meth c D ca A b gx gm ax am (k + 1) 18) : LN p l e s m below meth c D ca A b gx gm ax am k 314 := by
  obtain ⟨⟨hx, hb, hr, hml, hown, hts0, hX, hbl, hlocks, hgv⟩, hA, hA2, hK, hZ, hL⟩ := id G
  have hown : s.vm.findClass RL = some m.cls := hown
  have hts : ∀ w ∈ wsL_law, w.before #[Value.ref b] s = true := fun w h => hts0 w (wsL_law_in w h)
  have hbA : ¬ A b := fun h => absurd (hA2 b h) (Nat.not_le.mpr hbl)
  intro pa σx σm H locs ls hP hD hS hl hI hJ hJR h7 hR
  have q1 := lq (v := 1) (n := 1) (by decide) (by decide) hk hL
  have q2 := lq (v := 2) (n := 2) (by decide) (by decide) hk hL
  have q3 := lq (v := 3) (n := 3) (by decide) (by decide) hk hL
  obtain ⟨i, hi⟩ : ∃ i : Int32, nI (6 * k) = i := ⟨_, rfl⟩
  rw [hi] at hl q1 q2 q3
  refine lv_aload_n hx hb dL_law_314 rfl (lv_at hl 2 rfl) ?_
  refine lv_aload_n hx hb dL_law_315 rfl (lv_at hl 3 rfl) ?_
  refine lv_iload_n hx hb dL_law_316 rfl (lv_at hl 0 rfl) ?_
  refine lv_iconst (v := 1) hx hb dL_law_317 (by decide) ?_
  refine lv_iadd hx hb dL_law_318 ?_
  refine va_sld hx hb hX hbl hbA hS q1 dL_law_319 ?_
  refine lv_aload_n hx hb dL_law_320 rfl (lv_at hl 3 rfl) ?_
  refine lv_iload_n hx hb dL_law_321 rfl (lv_at hl 0 rfl) ?_
  refine lv_iconst (v := 2) hx hb dL_law_322 (by decide) ?_
  refine lv_iadd hx hb dL_law_323 ?_
  refine va_sld hx hb hX hbl hbA hS q2 dL_law_324 ?_
  refine lv_aload_n hx hb dL_law_325 rfl (lv_at hl 3 rfl) ?_
  refine lv_iload_n hx hb dL_law_326 rfl (lv_at hl 0 rfl) ?_
  refine lv_iconst (v := 3) hx hb dL_law_327 (by decide) ?_
  refine lv_iadd hx hb dL_law_328 ?_
  refine va_sld hx hb hX hbl hbA hS q3 dL_law_329 ?_
  have hF := tw_fl hD hS hA
  refine va_calli (va_runV (As := [.int (xs (i + 1).toNatClampNeg), .int (xs (i + 2).toNatClampNeg), .int (xs (i + 3).toNatClampNeg)]) (rest := []) ⟨hx, hb, hml, hown, hts⟩ (k_X8_weather l D ca gx ax pa tb σx (xs (i + 1).toNatClampNeg) (xs (i + 2).toNatClampNeg) (xs (i + 3).toNatClampNeg) H.size hI _ _ (Prod.eta _).symm) (cwV 3 hts gL_law_X8_weather rfl rfl rfl (by decide +kernel) ⟨Nat.le_of_ble_eq_true rfl, Nat.le_of_ble_eq_true rfl⟩) ⟨cw_blind, va_recv hK (tw_pl hP) (ci := 8) (q0 := 0) rfl rfl, cw_give (tw_pl hP) hK (tw_dl hD) hZ hS hF⟩ rfl rfl hl.1 rfl (lv_room (Nat.le_of_ble_eq_true rfl)) dL_law_330 (rm_ok (a := 0) (d := 0) (by omega) (by decide) (by decide))) hS (fun q _ h => hF q h) hF (fun r_1 u t H1 locs ht hvm hw hB hz1 hk1 hS => ?_)
  rw [hw]
  obtain ⟨hB, hI9⟩ := hB
  obtain ⟨hP, hD⟩ := tw_L hP hD hF hk1 ht hB
  clear hB hk1 hz1 hF hw ht
  generalize H1 = H at hP hS ⊢
  obtain ⟨τx, hτx⟩ : ∃ t9, (s_X8_weather σx (xs (i + 1).toNatClampNeg) (xs (i + 2).toNatClampNeg) (xs (i + 3).toNatClampNeg)).2 = t9 := ⟨_, rfl⟩
  rw [hτx] at hP hD hI9
  obtain ⟨vx, hvx⟩ : ∃ t9, (s_X8_weather σx (xs (i + 1).toNatClampNeg) (xs (i + 2).toNatClampNeg) (xs (i + 3).toNatClampNeg)).1 = t9 := ⟨_, rfl⟩
  rw [hvx]
  refine W.widen (k := 70 + (k + 1)) (n := 3691 + 10 * (k + 1)) (by omega) (by omega) ?_
  refine lv_pop hx hb dL_law_333 rfl ?_
  refine lv_aload_n hx hb dL_law_334 rfl (lv_at hl 1 rfl) ?_
  refine lv_aload_n hx hb dL_law_335 rfl (lv_at hl 3 rfl) ?_
  refine lv_iload_n hx hb dL_law_336 rfl (lv_at hl 0 rfl) ?_
  refine lv_iconst (v := 1) hx hb dL_law_337 (by decide) ?_
  refine lv_iadd hx hb dL_law_338 ?_
  refine va_sld hx hb hX hbl hbA hS q1 dL_law_339 ?_
  refine lv_aload_n hx hb dL_law_340 rfl (lv_at hl 3 rfl) ?_
  refine lv_iload_n hx hb dL_law_341 rfl (lv_at hl 0 rfl) ?_
  refine lv_iconst (v := 2) hx hb dL_law_342 (by decide) ?_
  refine lv_iadd hx hb dL_law_343 ?_
  refine va_sld hx hb hX hbl hbA hS q2 dL_law_344 ?_
  refine lv_aload_n hx hb dL_law_345 rfl (lv_at hl 3 rfl) ?_
  refine lv_iload_n hx hb dL_law_346 rfl (lv_at hl 0 rfl) ?_
  refine lv_iconst (v := 3) hx hb dL_law_347 (by decide) ?_
  refine lv_iadd hx hb dL_law_348 ?_
  refine va_sld hx hb hX hbl hbA hS q3 dL_law_349 ?_
  have hF := tw_fr hD hS hA
  refine va_calli (va_runV (As := [.int (xs (i + 1).toNatClampNeg), .int (xs (i + 2).toNatClampNeg), .int (xs (i + 3).toNatClampNeg)]) (rest := []) ⟨hx, hb, hml, hown, hts⟩ (k_X9_weather l D ca gm am σm (xs (i + 1).toNatClampNeg) (xs (i + 2).toNatClampNeg) (xs (i + 3).toNatClampNeg) H.size hJ _ rfl) (cwV 3 hts gL_law_X9_weather rfl rfl rfl (by decide +kernel) ⟨Nat.le_of_ble_eq_true rfl, Nat.le_of_ble_eq_true rfl⟩) ⟨pw_blind, va_recv hK (tw_pr hP) (ci := 9) (q0 := 0) rfl rfl, pw_give (tw_pr hP) hK (tw_dr hD)⟩ rfl rfl hl.1 rfl (lv_room (Nat.le_of_ble_eq_true rfl)) dL_law_350 (rm_ok (k := k + 1) (a := 0) (d := 0) (by omega) (by decide) (by decide))) hS (fun q _ h => hF q h) hF (fun r_2 u t H1 locs ht hvm hw hB hz1 hk1 hS => ?_)
  rw [hw]
  obtain ⟨hB, hJ9⟩ := hB
  obtain ⟨hP, hD⟩ := tw_R hP hD hF hk1 ht hB
  clear hB hk1 hz1 hF hw ht
  generalize H1 = H at hP hS ⊢
  obtain ⟨τm, hτm⟩ : ∃ t9, (s_X9_weather σm (xs (i + 1).toNatClampNeg) (xs (i + 2).toNatClampNeg) (xs (i + 3).toNatClampNeg)).2 = t9 := ⟨_, rfl⟩
  rw [hτm] at hP hD hJ9
  obtain ⟨vm9, hvm9⟩ : ∃ t9, (s_X9_weather σm (xs (i + 1).toNatClampNeg) (xs (i + 2).toNatClampNeg) (xs (i + 3).toNatClampNeg)).1 = t9 := ⟨_, rfl⟩
  rw [hvm9]
  refine lv_pop hx hb dL_law_353 rfl ?_
  refine lv_goto (tgt := 1093) hx hb dL_law_354 (by decide) ?_
  have hRel : Rel (k + 1) (s_X8_weather σx (xs (i + 1).toNatClampNeg) (xs (i + 2).toNatClampNeg) (xs (i + 3).toNatClampNeg)).2 (s_X9_weather σm (xs (i + 1).toNatClampNeg) (xs (i + 2).toNatClampNeg) (xs (i + 3).toNatClampNeg)).2 := rl_weather (by omega) hI hJ hJR hR (xs (i + 1).toNatClampNeg) (xs (i + 2).toNatClampNeg) (xs (i + 3).toNatClampNeg)
  have hJR2 : JR (s_X9_weather σm (xs (i + 1).toNatClampNeg) (xs (i + 2).toNatClampNeg) (xs (i + 3).toNatClampNeg)).2 := jr_weather hJR (xs (i + 1).toNatClampNeg) (xs (i + 2).toNatClampNeg) (xs (i + 3).toNatClampNeg)
  have h72 : ((s_X9_weather σm (xs (i + 1).toNatClampNeg) (xs (i + 2).toNatClampNeg) (xs (i + 3).toNatClampNeg)).2 7 0).toInt ≤ ((k + 1 : Nat) : Int) := o7a (o7_weather σm (xs (i + 1).toNatClampNeg) (xs (i + 2).toNatClampNeg) (xs (i + 3).toNatClampNeg)) h7
  rw [hτx, hτm] at hRel
  rw [hτm] at hJR2 h72
  exact lc_next G nx pa τx τm H _ ls hP hD hS (by rw [hi]; exact hl) hI9 hJ9 hJR2 h72 hRel
set_option maxHeartbeats 4000000 in
set_option maxRecDepth 100000 in
theorem lc_5 (G : LH p s m meth c D ca A b L tb xs) (hk : 6 * k + 6 ≤ L) (nx : LN p l e s m below meth c D ca A b gx gm ax am (k + 1) 18) : LN p l e s m below meth c D ca A b gx gm ax am k 357 := by
  obtain ⟨⟨hx, hb, hr, hml, hown, hts0, hX, hbl, hlocks, hgv⟩, hA, hA2, hK, hZ, hL⟩ := id G
  have hown : s.vm.findClass RL = some m.cls := hown
  have hts : ∀ w ∈ wsL_law, w.before #[Value.ref b] s = true := fun w h => hts0 w (wsL_law_in w h)
  have hbA : ¬ A b := fun h => absurd (hA2 b h) (Nat.not_le.mpr hbl)
  intro pa σx σm H locs ls hP hD hS hl hI hJ hJR h7 hR
  have q1 := lq (v := 1) (n := 1) (by decide) (by decide) hk hL
  have q2 := lq (v := 2) (n := 2) (by decide) (by decide) hk hL
  have q3 := lq (v := 3) (n := 3) (by decide) (by decide) hk hL
  have q4 := lq (v := 4) (n := 4) (by decide) (by decide) hk hL
  have q5 := lq (v := 5) (n := 5) (by decide) (by decide) hk hL
  obtain ⟨i, hi⟩ : ∃ i : Int32, nI (6 * k) = i := ⟨_, rfl⟩
  rw [hi] at hl q1 q2 q3 q4 q5
  refine lv_aload_n hx hb dL_law_357 rfl (lv_at hl 2 rfl) ?_
  refine lv_aload_n hx hb dL_law_358 rfl (lv_at hl 3 rfl) ?_
  refine lv_iload_n hx hb dL_law_359 rfl (lv_at hl 0 rfl) ?_
  refine lv_iconst (v := 1) hx hb dL_law_360 (by decide) ?_
  refine lv_iadd hx hb dL_law_361 ?_
  refine va_sld hx hb hX hbl hbA hS q1 dL_law_362 ?_
  refine lv_aload_n hx hb dL_law_363 rfl (lv_at hl 3 rfl) ?_
  refine lv_iload_n hx hb dL_law_364 rfl (lv_at hl 0 rfl) ?_
  refine lv_iconst (v := 2) hx hb dL_law_365 (by decide) ?_
  refine lv_iadd hx hb dL_law_366 ?_
  refine va_sld hx hb hX hbl hbA hS q2 dL_law_367 ?_
  refine lv_aload_n hx hb dL_law_368 rfl (lv_at hl 3 rfl) ?_
  refine lv_iload_n hx hb dL_law_369 rfl (lv_at hl 0 rfl) ?_
  refine lv_iconst (v := 3) hx hb dL_law_370 (by decide) ?_
  refine lv_iadd hx hb dL_law_371 ?_
  refine va_sld hx hb hX hbl hbA hS q3 dL_law_372 ?_
  refine lv_aload_n hx hb dL_law_373 rfl (lv_at hl 3 rfl) ?_
  refine lv_iload_n hx hb dL_law_374 rfl (lv_at hl 0 rfl) ?_
  refine lv_iconst (v := 4) hx hb dL_law_375 (by decide) ?_
  refine lv_iadd hx hb dL_law_376 ?_
  refine va_sld hx hb hX hbl hbA hS q4 dL_law_377 ?_
  refine lv_aload_n hx hb dL_law_378 rfl (lv_at hl 3 rfl) ?_
  refine lv_iload_n hx hb dL_law_379 rfl (lv_at hl 0 rfl) ?_
  refine lv_iconst (v := 5) hx hb dL_law_380 (by decide) ?_
  refine lv_iadd hx hb dL_law_381 ?_
  refine va_sld hx hb hX hbl hbA hS q5 dL_law_382 ?_
  have hF := tw_fl hD hS hA
  refine va_calli (va_runV (As := [.int (xs (i + 1).toNatClampNeg), .int (xs (i + 2).toNatClampNeg), .int (xs (i + 3).toNatClampNeg), .int (xs (i + 4).toNatClampNeg), .int (xs (i + 5).toNatClampNeg)]) (rest := []) ⟨hx, hb, hml, hown, hts⟩ (k_X8_right l D ca gx ax pa tb σx (xs (i + 1).toNatClampNeg) (xs (i + 2).toNatClampNeg) (xs (i + 3).toNatClampNeg) (xs (i + 4).toNatClampNeg) (xs (i + 5).toNatClampNeg) H.size hI _ _ (Prod.eta _).symm) (cwV 5 hts gL_law_X8_right rfl rfl rfl (by decide +kernel) ⟨Nat.le_of_ble_eq_true rfl, Nat.le_of_ble_eq_true rfl⟩) ⟨cw_blind, va_recv hK (tw_pl hP) (ci := 8) (q0 := 0) rfl rfl, cw_give (tw_pl hP) hK (tw_dl hD) hZ hS hF⟩ rfl rfl hl.1 rfl (lv_room (Nat.le_of_ble_eq_true rfl)) dL_law_383 (rm_ok (a := 1) (d := 9) (by omega) (by decide) (by decide))) hS (fun q _ h => hF q h) hF (fun r_1 u t H1 locs ht hvm hw hB hz1 hk1 hS => ?_)
  rw [hw]
  obtain ⟨pa9, hB⟩ := hB
  obtain ⟨hB, hI9⟩ := hB
  obtain ⟨hP, hD⟩ := tw_L hP hD hF hk1 ht hB
  clear hB hk1 hz1 hF hw ht
  generalize H1 = H at hP hS ⊢
  obtain ⟨τx, hτx⟩ : ∃ t9, (s_X8_right σx (xs (i + 1).toNatClampNeg) (xs (i + 2).toNatClampNeg) (xs (i + 3).toNatClampNeg) (xs (i + 4).toNatClampNeg) (xs (i + 5).toNatClampNeg)).2 = t9 := ⟨_, rfl⟩
  rw [hτx] at hP hD hI9
  obtain ⟨vx, hvx⟩ : ∃ t9, (s_X8_right σx (xs (i + 1).toNatClampNeg) (xs (i + 2).toNatClampNeg) (xs (i + 3).toNatClampNeg) (xs (i + 4).toNatClampNeg) (xs (i + 5).toNatClampNeg)).1 = t9 := ⟨_, rfl⟩
  rw [hvx]
  refine W.widen (k := 70 + (k + 1)) (n := 3691 + 10 * (k + 1)) (by omega) (by omega) ?_
  refine lv_pop hx hb dL_law_386 rfl ?_
  refine lv_aload_n hx hb dL_law_387 rfl (lv_at hl 1 rfl) ?_
  refine lv_aload_n hx hb dL_law_388 rfl (lv_at hl 3 rfl) ?_
  refine lv_iload_n hx hb dL_law_389 rfl (lv_at hl 0 rfl) ?_
  refine lv_iconst (v := 1) hx hb dL_law_390 (by decide) ?_
  refine lv_iadd hx hb dL_law_391 ?_
  refine va_sld hx hb hX hbl hbA hS q1 dL_law_392 ?_
  refine lv_aload_n hx hb dL_law_393 rfl (lv_at hl 3 rfl) ?_
  refine lv_iload_n hx hb dL_law_394 rfl (lv_at hl 0 rfl) ?_
  refine lv_iconst (v := 2) hx hb dL_law_395 (by decide) ?_
  refine lv_iadd hx hb dL_law_396 ?_
  refine va_sld hx hb hX hbl hbA hS q2 dL_law_397 ?_
  refine lv_aload_n hx hb dL_law_398 rfl (lv_at hl 3 rfl) ?_
  refine lv_iload_n hx hb dL_law_399 rfl (lv_at hl 0 rfl) ?_
  refine lv_iconst (v := 3) hx hb dL_law_400 (by decide) ?_
  refine lv_iadd hx hb dL_law_401 ?_
  refine va_sld hx hb hX hbl hbA hS q3 dL_law_402 ?_
  refine lv_aload_n hx hb dL_law_403 rfl (lv_at hl 3 rfl) ?_
  refine lv_iload_n hx hb dL_law_404 rfl (lv_at hl 0 rfl) ?_
  refine lv_iconst (v := 4) hx hb dL_law_405 (by decide) ?_
  refine lv_iadd hx hb dL_law_406 ?_
  refine va_sld hx hb hX hbl hbA hS q4 dL_law_407 ?_
  refine lv_aload_n hx hb dL_law_408 rfl (lv_at hl 3 rfl) ?_
  refine lv_iload_n hx hb dL_law_409 rfl (lv_at hl 0 rfl) ?_
  refine lv_iconst (v := 5) hx hb dL_law_410 (by decide) ?_
  refine lv_iadd hx hb dL_law_411 ?_
  refine va_sld hx hb hX hbl hbA hS q5 dL_law_412 ?_
  have hF := tw_fr hD hS hA
  refine va_calli (va_runV (As := [.int (xs (i + 1).toNatClampNeg), .int (xs (i + 2).toNatClampNeg), .int (xs (i + 3).toNatClampNeg), .int (xs (i + 4).toNatClampNeg), .int (xs (i + 5).toNatClampNeg)]) (rest := []) ⟨hx, hb, hml, hown, hts⟩ (k_X9_right l D ca gm am σm (xs (i + 1).toNatClampNeg) (xs (i + 2).toNatClampNeg) (xs (i + 3).toNatClampNeg) (xs (i + 4).toNatClampNeg) (xs (i + 5).toNatClampNeg) H.size hJ _ rfl) (cwV 5 hts gL_law_X9_right rfl rfl rfl (by decide +kernel) ⟨Nat.le_of_ble_eq_true rfl, Nat.le_of_ble_eq_true rfl⟩) ⟨pw_blind, va_recv hK (tw_pr hP) (ci := 9) (q0 := 0) rfl rfl, pw_give (tw_pr hP) hK (tw_dr hD)⟩ rfl rfl hl.1 rfl (lv_room (Nat.le_of_ble_eq_true rfl)) dL_law_413 (rm_ok (k := k + 1) (a := 0) (d := 0) (by omega) (by decide) (by decide))) hS (fun q _ h => hF q h) hF (fun r_2 u t H1 locs ht hvm hw hB hz1 hk1 hS => ?_)
  rw [hw]
  obtain ⟨hB, hJ9⟩ := hB
  obtain ⟨hP, hD⟩ := tw_R hP hD hF hk1 ht hB
  clear hB hk1 hz1 hF hw ht
  generalize H1 = H at hP hS ⊢
  obtain ⟨τm, hτm⟩ : ∃ t9, (s_X9_right σm (xs (i + 1).toNatClampNeg) (xs (i + 2).toNatClampNeg) (xs (i + 3).toNatClampNeg) (xs (i + 4).toNatClampNeg) (xs (i + 5).toNatClampNeg)).2 = t9 := ⟨_, rfl⟩
  rw [hτm] at hP hD hJ9
  obtain ⟨vm9, hvm9⟩ : ∃ t9, (s_X9_right σm (xs (i + 1).toNatClampNeg) (xs (i + 2).toNatClampNeg) (xs (i + 3).toNatClampNeg) (xs (i + 4).toNatClampNeg) (xs (i + 5).toNatClampNeg)).1 = t9 := ⟨_, rfl⟩
  rw [hvm9]
  refine lv_pop hx hb dL_law_416 rfl ?_
  refine lv_goto (tgt := 1093) hx hb dL_law_417 (by decide) ?_
  have hRel : Rel (k + 1) (s_X8_right σx (xs (i + 1).toNatClampNeg) (xs (i + 2).toNatClampNeg) (xs (i + 3).toNatClampNeg) (xs (i + 4).toNatClampNeg) (xs (i + 5).toNatClampNeg)).2 (s_X9_right σm (xs (i + 1).toNatClampNeg) (xs (i + 2).toNatClampNeg) (xs (i + 3).toNatClampNeg) (xs (i + 4).toNatClampNeg) (xs (i + 5).toNatClampNeg)).2 := rl_right (by omega) hI hJ hJR hR (xs (i + 1).toNatClampNeg) (xs (i + 2).toNatClampNeg) (xs (i + 3).toNatClampNeg) (xs (i + 4).toNatClampNeg) (xs (i + 5).toNatClampNeg)
  have hJR2 : JR (s_X9_right σm (xs (i + 1).toNatClampNeg) (xs (i + 2).toNatClampNeg) (xs (i + 3).toNatClampNeg) (xs (i + 4).toNatClampNeg) (xs (i + 5).toNatClampNeg)).2 := jr_right hJR (xs (i + 1).toNatClampNeg) (xs (i + 2).toNatClampNeg) (xs (i + 3).toNatClampNeg) (xs (i + 4).toNatClampNeg) (xs (i + 5).toNatClampNeg)
  have h72 : ((s_X9_right σm (xs (i + 1).toNatClampNeg) (xs (i + 2).toNatClampNeg) (xs (i + 3).toNatClampNeg) (xs (i + 4).toNatClampNeg) (xs (i + 5).toNatClampNeg)).2 7 0).toInt ≤ ((k + 1 : Nat) : Int) := o7a (o7_right σm (xs (i + 1).toNatClampNeg) (xs (i + 2).toNatClampNeg) (xs (i + 3).toNatClampNeg) (xs (i + 4).toNatClampNeg) (xs (i + 5).toNatClampNeg)) h7
  rw [hτx, hτm] at hRel
  rw [hτm] at hJR2 h72
  exact lc_next G nx pa9 τx τm H _ ls hP hD hS (by rw [hi]; exact hl) hI9 hJ9 hJR2 h72 hRel
end LW
