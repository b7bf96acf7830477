set_option maxHeartbeats 8000000 in
set_option maxRecDepth 100000 in
/-- THE LAW, from its entry, for every script of at most 3072 ints -/
theorem whole_start {p : Program} {e : Env} {s : State} {m : MethodId} {below : List Frame} {meth : Method} {c : Code} (l : Launch) {b L : Nat} {xs : Nat → Int32} (hL : L ≤ 3072) (C0 : lw_At p s m meth c b L xs) : W p l e room_1 s m #[Value.ref b] below meth c s.heap [] 0 0 (lw_Z below #[Value.ref b] s) (entryFrame m ([Value.ref b] : List Value).toArray 4) := by
  obtain ⟨hx, hb, hr, hml, hown, hts0, hX, hbl, hlocks, hgv⟩ := id C0
  have hown : s.vm.findClass RL = some m.cls := hown
  have hts : ∀ w ∈ wsL_law, w.before #[Value.ref b] s = true := fun w h => hts0 w (wsL_law_in w h)
  obtain ⟨A, hAd⟩ : ∃ A : Nat → Prop, A = fun q => s.heap.size ≤ q := ⟨_, rfl⟩
  have hA : ∀ q : Nat, s.heap.size ≤ q → A q := fun q h => by rw [hAd]; exact h
  have hA2 : ∀ q : Nat, A q → s.heap.size ≤ q := fun q h => by rw [hAd] at h; exact h
  have hA3 : ∀ q : Nat, q < s.heap.size → ¬ A q := fun q h h2 => absurd (hA2 q h2) (Nat.not_le.mpr h)
  have hbA : ¬ A b := fun h => absurd (hA2 b h) (Nat.not_le.mpr hbl)
  obtain ⟨c0, iS0, hKn0⟩ := u_known (C := RX0) (T := TX0) (N := 9) (n := 9) hts inlX0 (hts (.instantiable RX0 9) mw_352)
  obtain ⟨c1, iS1, hKn1⟩ := u_known (C := RX1) (T := TX1) (N := 5) (n := 5) hts inlX1 (hts (.instantiable RX1 5) mw_115)
  obtain ⟨c2, iS2, hKn2⟩ := u_known (C := RX2) (T := TX2) (N := 8) (n := 8) hts inlX2 (hts (.instantiable RX2 8) mw_435)
  obtain ⟨c3, iS3, hKn3⟩ := u_known (C := RX3) (T := TX3) (N := 7) (n := 7) hts inlX3 (hts (.instantiable RX3 7) mw_137)
  obtain ⟨c4, iS4, hKn4⟩ := u_known (C := RX4) (T := TX4) (N := 6) (n := 6) hts inlX4 (hts (.instantiable RX4 6) mw_277)
  obtain ⟨c5, iS5, hKn5⟩ := u_known (C := RX5) (T := TX5) (N := 2) (n := 2) hts inlX5 (hts (.instantiable RX5 2) mw_82)
  obtain ⟨c6, iS6, hKn6⟩ := u_known (C := RX6) (T := TX6) (N := 10) (n := 10) hts inlX6 (hts (.instantiable RX6 10) mw_166)
  obtain ⟨c7, iS7, hKn7⟩ := u_known (C := RX7) (T := TX7) (N := 2) (n := 2) hts inlX7 (hts (.instantiable RX7 2) mw_101)
  obtain ⟨c8, iS8, hKn8⟩ := u_known (C := RX8) (T := TX8) (N := 19) (n := 19) hts inlX8 (hts (.instantiable RX8 19) mw_71)
  obtain ⟨c9, iS9, hKn9⟩ := u_known (C := RX9) (T := TX9) (N := 51) (n := 51) hts inlX9 (hts (.instantiable RX9 51) mw_778)
  obtain ⟨dC, dI, hKc⟩ : ∃ (dC : Nat → ClassId) (dI : Nat → Nat → Nat), ∀ (k : Nat) (q : vw_C), vwCl[k]? = some q → u_Kn s q.1 q.2.1 q.2.2 (dC k) (dI k) := by
    refine ⟨fun k => if k = 0 then c0 else if k = 1 then c1 else if k = 2 then c2 else if k = 3 then c3 else if k = 4 then c4 else if k = 5 then c5 else if k = 6 then c6 else if k = 7 then c7 else if k = 8 then c8 else c9, fun k => if k = 0 then iS0 else if k = 1 then iS1 else if k = 2 then iS2 else if k = 3 then iS3 else if k = 4 then iS4 else if k = 5 then iS5 else if k = 6 then iS6 else if k = 7 then iS7 else if k = 8 then iS8 else iS9, ?_⟩
    intro k q hq
    match k, hq with
    | 0, hq => cases hq; exact hKn0
    | 1, hq => cases hq; exact hKn1
    | 2, hq => cases hq; exact hKn2
    | 3, hq => cases hq; exact hKn3
    | 4, hq => cases hq; exact hKn4
    | 5, hq => cases hq; exact hKn5
    | 6, hq => cases hq; exact hKn6
    | 7, hq => cases hq; exact hKn7
    | 8, hq => cases hq; exact hKn8
    | 9, hq => cases hq; exact hKn9
    | k + 10, hq => simp [vwCl] at hq
  obtain ⟨cI, kI, pI, fI, hkI, hdI⟩ := Cond.arrayClass_spec (hts (.arrayClass .int) mw_113)
  obtain ⟨cZ, kZ, pZ, fZ, hkZ, hdZ⟩ := Cond.arrayClass_spec (hts (.arrayClass .boolean) mw_937)
  have hao4 : va_AO RX4 s := va_AO.of (hts0 (.arrayOver (.object "GrazeBook$Ground")) (by decide +kernel))
  obtain ⟨pG, cG, kG, fG, -, hkG, hdG, gG⟩ := Cond.arrayOver_spec (hts0 (.arrayOver (.object "GrazeBook$Ground")) (by decide +kernel))
  have hao5 : va_AO RX5 s := va_AO.of (hts0 (.arrayOver (.object "GrazeBook$Purse")) (by decide +kernel))
  obtain ⟨pP, cP, kP, fP, -, hkP, hdP, gP⟩ := Cond.arrayOver_spec (hts0 (.arrayOver (.object "GrazeBook$Purse")) (by decide +kernel))
  have hao0 : va_AO RX0 s := va_AO.of (hts0 (.arrayOver (.object "GrazeBook$Claim")) (by decide +kernel))
  obtain ⟨pC, cC, kC, fC, -, hkC, hdC, gC⟩ := Cond.arrayOver_spec (hts0 (.arrayOver (.object "GrazeBook$Claim")) (by decide +kernel))
  have hao2 : va_AO RX2 s := va_AO.of (hts0 (.arrayOver (.object "GrazeBook$Drove")) (by decide +kernel))
  obtain ⟨pD, cD, kD, fD, -, hkD, hdD, gD⟩ := Cond.arrayOver_spec (hts0 (.arrayOver (.object "GrazeBook$Drove")) (by decide +kernel))
  have hov0 : aoa s := hts0 (.arrayOver (.array .int)) (by decide +kernel)
  obtain ⟨pQ, cQ, kQ, fQ, -, hkQ, hdQ, gQ⟩ := arrayOverA_spec (hts0 (.arrayOver (.array .int)) (by decide +kernel))
  have hnw46 : va_Nw (.methodLinkNest RX8 46 yX7_init "GrazeBook") s := va_Nw.of rfl (hts0 (.methodLinkNest RX8 46 yX7_init "GrazeBook") (by decide +kernel))
  have hnw53 : va_Nw (.methodLinkNest RX8 53 yX1_init "GrazeBook") s := va_Nw.of rfl (hts0 (.methodLinkNest RX8 53 yX1_init "GrazeBook") (by decide +kernel))
  have hnw60 : va_Nw (.methodLinkNest RX8 60 yX3_init "GrazeBook") s := va_Nw.of rfl (hts0 (.methodLinkNest RX8 60 yX3_init "GrazeBook") (by decide +kernel))
  have hnw67 : va_Nw (.methodLinkNest RX8 67 yX6_init "GrazeBook") s := va_Nw.of rfl (hts0 (.methodLinkNest RX8 67 yX6_init "GrazeBook") (by decide +kernel))
  obtain ⟨ca, hca⟩ : ∃ ca : Nat → ClassId, ca 0 = cI ∧ ca 1 = cZ ∧ ca 2 = cG ∧ ca 3 = cP ∧ ca 4 = cC ∧ ca 5 = cD ∧ ca 6 = cQ := ⟨fun k => if k = 0 then cI else if k = 1 then cZ else if k = 2 then cG else if k = 3 then cP else if k = 4 then cC else if k = 5 then cD else cQ, rfl, rfl, rfl, rfl, rfl, rfl, rfl⟩
  have hK : va_K (dC, dI) vwCl (TY ca) s := by
    refine ⟨hKc, fun k q h => ?_⟩
    unfold TY at h
    rw [hca.1, hca.2.1, hca.2.2.1, hca.2.2.2.1, hca.2.2.2.2.1, hca.2.2.2.2.2.1, hca.2.2.2.2.2.2] at h
    match k, h with
    | 0, h => cases h; exact ⟨fun N z => ⟨fun k h => (by cases h), kI, hkI, pI, hdI⟩, fI⟩
    | 1, h => cases h; exact ⟨fun N z => ⟨fun k h => (by cases h), kZ, hkZ, pZ, hdZ⟩, fZ⟩
    | 2, h => cases h; exact ⟨fun N z => ⟨fun k h => (by cases h), kG, hkG, pG, hdG⟩, ⟨kG, pG, hkG, hdG, fG, gG⟩⟩
    | 3, h => cases h; exact ⟨fun N z => ⟨fun k h => (by cases h), kP, hkP, pP, hdP⟩, ⟨kP, pP, hkP, hdP, fP, gP⟩⟩
    | 4, h => cases h; exact ⟨fun N z => ⟨fun k h => (by cases h), kC, hkC, pC, hdC⟩, ⟨kC, pC, hkC, hdC, fC, gC⟩⟩
    | 5, h => cases h; exact ⟨fun N z => ⟨fun k h => (by cases h), kD, hkD, pD, hdD⟩, ⟨kD, pD, hkD, hdD, fD, gD⟩⟩
    | 6, h => cases h; exact ⟨fun N z => ⟨fun k h => (by cases h), kQ, hkQ, pQ, hdQ⟩, gQ⟩
    | k + 7, h => simp at h
  have hfl := flat_of_before _ hgv
  obtain ⟨tb, htb, hT⟩ := va_Tof (N := 3) (f := fun j => .int (pb j)) (A := A) (by decide) (hfl (.arrayOf (.static "GrazeBook" "PARTS_OF_A_BEAST" "[I") .int) (by decide +kernel)) (va_eqt (hfl (.eq (.length (.static "GrazeBook" "PARTS_OF_A_BEAST" "[I")) (.int 3)) (by decide +kernel))) (fun j hj => by
    rcases (show j = 0 ∨ j = 1 ∨ j = 2 by omega) with rfl | rfl | rfl
    · exact va_eqt (hfl (.eq (.elem (.static "GrazeBook" "PARTS_OF_A_BEAST" "[I") (.int 0)) (.int 30)) (by decide +kernel))
    · exact va_eqt (hfl (.eq (.elem (.static "GrazeBook" "PARTS_OF_A_BEAST" "[I") (.int 1)) (.int 45)) (by decide +kernel))
    · exact va_eqt (hfl (.eq (.elem (.static "GrazeBook" "PARTS_OF_A_BEAST" "[I") (.int 2)) (.int 6)) (by decide +kernel))) hA3
  have hZ : SX tb A s s.heap := ⟨va_Nw.of rfl (hts0 (.fieldLinkNest RX2 36 "GrazeBook" "PARTS_OF_A_BEAST" "[I" "GrazeBook") (by decide +kernel)), va_Zof (hts0 (.laysStatic "GrazeBook" "PARTS_OF_A_BEAST" "[I") (by decide +kernel)) (hts0 (.initialized "GrazeBook") (by decide +kernel)) htb hA3, hT⟩
  have G : LH p s m meth c (dC, dI) ca A b L tb xs := ⟨C0, hA, hA2, hK, hZ, hL⟩
  have hP : va_P (dC, dI) vwCl [] s.heap := fun k q h => by simp at h
  have hD : va_D A [] := ⟨fun i j p q h => by simp at h, fun k q h => by simp at h⟩
  have hl := lv_entry ([.ref b]) (n := 4) (Nat.le_of_ble_eq_true rfl)
  rw [lg_entry_eq]
  generalize (lg_sl ([.ref b]) ++ List.replicate (4 - (lg_sl ([.ref b])).length) Slot.unset).toArray = ls at hl ⊢
  have hl : lv_has ls 4 [(0, .ref b)] := hl
  have hS : va_S A s.heap s.heap [] := va_S.rf
  obtain ⟨H, hH⟩ : ∃ H, H = s.heap := ⟨_, rfl⟩
  have hP : va_P (dC, dI) vwCl [] H := by rw [hH]; exact hP
  have hS : va_S A s.heap H [] := by rw [hH]; exact hS
  show W _ _ _ _ _ _ _ _ _ _ s.heap _ _ _ _ _
  rw [← hH]
  refine va_new (ci := 8) (fs := [.null, .null, .null, .null, .null, .null, .null, .null, .null, .null, .null, .int (0 : Int32), .int (0 : Int32), .int (0 : Int32), .int (0 : Int32), .int (0 : Int32), .int (0 : Int32), .int (0 : Int32), .int (0 : Int32)]) (C := RX8) (T := TX8) (N := 19) hx hb hts inlX8 tyX8 tyX8_ok hown (hts (.classLink RL 7 RX8) mw_70) (hts (.instantiable RX8 19) mw_71) (hts (.initialized RX8) mw_58) hK hP hD hS hA rfl (fun j hj => by rcases (show j = 0 ∨ j = 1 ∨ j = 2 ∨ j = 3 ∨ j = 4 ∨ j = 5 ∨ j = 6 ∨ j = 7 ∨ j = 8 ∨ j = 9 ∨ j = 10 ∨ j = 11 ∨ j = 12 ∨ j = 13 ∨ j = 14 ∨ j = 15 ∨ j = 16 ∨ j = 17 ∨ j = 18 by omega) with rfl | rfl | rfl | rfl | rfl | rfl | rfl | rfl | rfl | rfl | rfl | rfl | rfl | rfl | rfl | rfl | rfl | rfl | rfl <;> rfl) (Nat.le_of_ble_eq_true rfl) (Nat.le_of_ble_eq_true rfl) dL_law_0 (fun gx H hP hD hS => ?_)
  have hP : va_P (dC, dI) vwCl [(gx, .inr (8, [.null, .null, .null, .null, .null, .null, .null, .null, .null, .null, .null, .int (0 : Int32), .int (0 : Int32), .int (0 : Int32), .int (0 : Int32), .int (0 : Int32), .int (0 : Int32), .int (0 : Int32), .int (0 : Int32)]))] H := hP
  have hD : va_D A [(gx, .inr (8, [.null, .null, .null, .null, .null, .null, .null, .null, .null, .null, .null, .int (0 : Int32), .int (0 : Int32), .int (0 : Int32), .int (0 : Int32), .int (0 : Int32), .int (0 : Int32), .int (0 : Int32), .int (0 : Int32)]))] := hD
  refine W.widen (k := 1) (n := 19) (Nat.le_refl _) (Nat.le_refl _) ?_
  refine lv_dup hx hb dL_law_3 rfl ?_
  have hF := pw_free hD hS hA
  refine va_callv (va_runI (As := []) (rest := [.ref gx]) ⟨hx, hb, hml, hown, hts⟩ (k_X8_init l (dC, dI) ca gx H.size) (cwI 0 hts gL_law_X8_init rfl rfl rfl (hts (.initialized RX8) mw_58) (hts (.methodLink RL 9 yX8_init) mw_72) (hts (.instanceMethod yX8_init) mw_73) rfl (by decide +kernel) ⟨Nat.le_of_ble_eq_true rfl, Nat.le_of_ble_eq_true rfl⟩) ⟨fun a U g mk q => by obtain ⟨q0, ⟨qx0, qx1, qx2, qx3, qx4, qx5, qx6, qx7, qx8⟩, qP⟩ := q; exact ⟨q0, ⟨(qx0 : va_AO RX4 _).moved (Vm.Alike.refl U.vm), (qx1 : va_AO RX5 _).moved (Vm.Alike.refl U.vm), (qx2 : va_AO RX0 _).moved (Vm.Alike.refl U.vm), (qx3 : va_AO RX2 _).moved (Vm.Alike.refl U.vm), va_Nw.same rfl rfl qx4, va_Nw.same rfl rfl qx5, va_Nw.same rfl rfl qx6, va_Nw.same rfl rfl qx7, aoa_mv (Vm.Alike.refl U.vm) qx8⟩, (pw_blind (av := [.ref gx]) a U g mk ⟨q0, qP⟩).2⟩, fun U hU hW => ⟨rfl, ⟨va_AO.moved hW.alike hao4, va_AO.moved hW.alike hao5, va_AO.moved hW.alike hao0, va_AO.moved hW.alike hao2, va_Nw.warmM hW hnw46, va_Nw.warmM hW hnw53, va_Nw.warmM hW hnw60, va_Nw.warmM hW hnw67, aoa_mv hW.alike hov0⟩, (pw_give (av := [.ref gx]) hP hK hD U hU hW).2⟩⟩ rfl rfl hl.1 rfl (lv_room (Nat.le_of_ble_eq_true rfl)) dL_law_4 ⟨Nat.le_of_ble_eq_true rfl, Nat.le_of_ble_eq_true rfl⟩) hS (fun q _ h => hF q h) hF (fun u t H1 locs ht hvm hw hB hz1 hk1 hS => ?_)
  obtain ⟨ax, pa, hB⟩ := hB
  obtain ⟨hP, hD⟩ := pw_back hF ht hB
  clear hB hk1 hz1 hF ht
  generalize H1 = H at hP hS ⊢
  refine W.widen (k := 32) (n := 1197) (Nat.le_refl _) (Nat.le_refl _) ?_
  refine lv_astore_n (lv' := [(1, .ref gx), (0, .ref b)]) hx hb dL_law_7 rfl hl (by decide) rfl (fun ls hl => ?_)
  refine va_new (ci := 9) (fs := [.null, .int (0 : Int32), .int (0 : Int32), .int (0 : Int32), .int (0 : Int32), .int (0 : Int32), .int (0 : Int32), .int (0 : Int32), .int (0 : Int32), .int (0 : Int32), .int (0 : Int32), .int (0 : Int32), .int (0 : Int32), .null, .null, .null, .null, .null, .null, .null, .null, .null, .null, .null, .null, .null, .null, .null, .null, .null, .null, .null, .null, .null, .null, .null, .null, .null, .null, .null, .null, .null, .null, .null, .null, .null, .null, .null, .null, .int (0 : Int32), .int (0 : Int32)]) (C := RX9) (T := TX9) (N := 51) hx hb hts inlX9 tyX9 tyX9_ok hown (hts (.classLink RL 10 RX9) mw_777) (hts (.instantiable RX9 51) mw_778) (hts (.initialized RX9) mw_64) hK hP hD hS hA rfl (fun j hj => by rcases (show j = 0 ∨ j = 1 ∨ j = 2 ∨ j = 3 ∨ j = 4 ∨ j = 5 ∨ j = 6 ∨ j = 7 ∨ j = 8 ∨ j = 9 ∨ j = 10 ∨ j = 11 ∨ j = 12 ∨ j = 13 ∨ j = 14 ∨ j = 15 ∨ j = 16 ∨ j = 17 ∨ j = 18 ∨ j = 19 ∨ j = 20 ∨ j = 21 ∨ j = 22 ∨ j = 23 ∨ j = 24 ∨ j = 25 ∨ j = 26 ∨ j = 27 ∨ j = 28 ∨ j = 29 ∨ j = 30 ∨ j = 31 ∨ j = 32 ∨ j = 33 ∨ j = 34 ∨ j = 35 ∨ j = 36 ∨ j = 37 ∨ j = 38 ∨ j = 39 ∨ j = 40 ∨ j = 41 ∨ j = 42 ∨ j = 43 ∨ j = 44 ∨ j = 45 ∨ j = 46 ∨ j = 47 ∨ j = 48 ∨ j = 49 ∨ j = 50 by omega) with rfl | rfl | rfl | rfl | rfl | rfl | rfl | rfl | rfl | rfl | rfl | rfl | rfl | rfl | rfl | rfl | rfl | rfl | rfl | rfl | rfl | rfl | rfl | rfl | rfl | rfl | rfl | rfl | rfl | rfl | rfl | rfl | rfl | rfl | rfl | rfl | rfl | rfl | rfl | rfl | rfl | rfl | rfl | rfl | rfl | rfl | rfl | rfl | rfl | rfl | rfl <;> rfl) (Nat.le_of_ble_eq_true rfl) (Nat.le_of_ble_eq_true rfl) dL_law_8 (fun gm H hP hD hS => ?_)
  refine W.widen (k := 33) (n := 1248) (Nat.le_refl _) (Nat.le_refl _) ?_
  refine lv_dup hx hb dL_law_11 rfl ?_
  have hF := tw_fr hD hS hA
  refine va_callv (va_runI (As := []) (rest := [.ref gm]) ⟨hx, hb, hml, hown, hts⟩ (k_X9_init l (dC, dI) ca gm H.size) (cwI 0 hts gL_law_X9_init rfl rfl rfl (hts (.initialized RX9) mw_64) (hts (.methodLink RL 12 yX9_init) mw_779) (hts (.instanceMethod yX9_init) mw_780) rfl (by decide +kernel) ⟨Nat.le_of_ble_eq_true rfl, Nat.le_of_ble_eq_true rfl⟩) ⟨pw_blind, pw_give (tw_pr hP) hK (tw_dr hD)⟩ rfl rfl hl.1 rfl (lv_room (Nat.le_of_ble_eq_true rfl)) dL_law_12 ⟨Nat.le_of_ble_eq_true rfl, Nat.le_of_ble_eq_true rfl⟩) hS (fun q _ h => hF q h) hF (fun u t H1 locs ht hvm hw hB hz1 hk1 hS => ?_)
  obtain ⟨am, hB⟩ := hB
  obtain ⟨hP, hD⟩ := tw_R hP hD hF hk1 ht hB
  clear hB hk1 hz1 hF ht
  generalize H1 = H at hP hS ⊢
  refine W.widen (k := 70) (n := 3691) (Nat.le_refl _) (Nat.le_refl _) ?_
  refine lv_astore_n (lv' := [(2, .ref gm), (1, .ref gx), (0, .ref b)]) hx hb dL_law_15 rfl hl (by decide) rfl (fun ls hl => ?_)
  refine lv_iconst (v := 0) hx hb dL_law_16 (by decide) ?_
  refine lv_istore_n (lv' := [(3, .int 0), (2, .ref gm), (1, .ref gx), (0, .ref b)]) hx hb dL_law_17 rfl hl (by decide) rfl (fun ls hl => ?_)
  exact lw_all G L 0 (by omega) (by omega) pa sx0 (fun _ _ => 0) H locs ls hP hD hS hl ix_0 ir_0 jr_0 (by decide) rel_0
