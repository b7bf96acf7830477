def s_X9_piece (σ : St) (a1 : Int32) (a2 : Int32) (a3 : Int32) (a4 : Int32) : Int32 × St := (if a1 < (0 : Int32) then (((s_X9_refuse σ (-4 : Int32)).1), (s_X9_refuse σ (-4 : Int32)).2) else (if a3 < (0 : Int32) then (((s_X9_refuse σ (-4 : Int32)).1), (s_X9_refuse σ (-4 : Int32)).2) else (if (1 : Int32) ≤ a2 then (if (100000 : Int32) < a2 then (((s_X9_refuse σ (-6 : Int32)).1), (s_X9_refuse σ (-6 : Int32)).2) else (if a2 < a1 then (((s_X9_refuse σ (-6 : Int32)).1), (s_X9_refuse σ (-6 : Int32)).2) else (if (10000 : Int32) < a3 then (((s_X9_refuse σ (-6 : Int32)).1), (s_X9_refuse σ (-6 : Int32)).2) else (if (σ 2 0) = (6 : Int32) then (((s_X9_refuse σ (-6 : Int32)).1), (s_X9_refuse σ (-6 : Int32)).2) else ((((σ 2 0) + (1 : Int32)) - (1 : Int32)), (put (put (put (put (put (put σ 13 ((σ 2 0).toNatClampNeg) a1) 14 ((σ 2 0).toNatClampNeg) a2) 15 ((σ 2 0).toNatClampNeg) a3) 18 ((σ 2 0).toNatClampNeg) a4) 16 ((σ 2 0).toNatClampNeg) (-1 : Int32)) 2 0 ((σ 2 0) + (1 : Int32)))))))) else (((s_X9_refuse σ (-4 : Int32)).1), (s_X9_refuse σ (-4 : Int32)).2))))
theorem fr_s_X9_piece (σ : St) (a1 : Int32) (a2 : Int32) (a3 : Int32) (a4 : Int32) {f : Nat} (h0 : f ≠ 0) (h2 : f ≠ 2) (h13 : f ≠ 13) (h14 : f ≠ 14) (h15 : f ≠ 15) (h16 : f ≠ 16) (h18 : f ≠ 18) : (s_X9_piece σ a1 a2 a3 a4 ).2 f = σ f := by
  unfold s_X9_piece
  all_goals ((try dsimp only) <;> ((repeat' split) <;> (try simp only [put_fr, ne_eq, not_false_eq_true, h0, h2, h13, h14, h15, h16, h18, fr_s_X9_refuse])))
set_option maxHeartbeats 1000000 in
set_option maxRecDepth 100000 in
theorem k_X9_piece (l : Launch) (D : va_G) (ca : Nat → ClassId) (h : Nat) (ad : Nat → Nat) (σ : St) (a1 : Int32) (a2 : Int32) (a3 : Int32) (a4 : Int32) (sz : Nat) (hI : IR σ) (hb4 : vp_nar .boolean a4 = a4) (R : Int32 × St) (hR : s_X9_piece σ a1 a2 a3 a4 = R) : Met l yX9_piece wsX9_piece ({ frames := 1, cells := 0, slots := 0, locals := 21 }) (va_Pc [.ref h, .int a1, .int a2, .int a3, .int a4] (pw_pre D ca (WM ca h ad σ) sz)) (va_Qi (fun (r : Int32) (_ : Unit) => r = R.1) (fun (_ : Unit) (t : State) => pw_post D ca (WM ca h ad σ) sz (WM ca h ad (R.2)) t ∧ IR R.2) (va_A (WM ca h ad σ) sz)) 0 0 (va_A (WM ca h ad σ) sz) := by
  refine Met.ofW (cc := cX9_piece) (maxL := 5) (ret := (some .int)) (by decide) rfl ?_
  intro p e s m args below meth c s₁ B hml hv
  obtain ⟨rfl, hsz, hP, hK, hD0⟩ := hv
  have hx := B.exec
  have hb := B.bytes
  have hr := B.returns
  have hts := atoms_spec (ws := wsX9_piece) B.pre
  have hown : s.vm.findClass RX9 = some m.cls := findClass_of_methodNamed B.named
  have hlocks := B.notSynchronized
  have hu9 : ∀ w ∈ u_ws RX9 TX9 51, w ∈ wsX9_piece := fun w h => List.mem_cons_of_mem _ (uw9 w h)
  subst hsz
  have hD := hD0.self (sz := s.heap.size)
  obtain ⟨A, hAe⟩ : ∃ A, A = va_A (WM ca h ad σ) s.heap.size := ⟨_, rfl⟩
  rw [← hAe] at hD ⊢
  have hA : ∀ q : Nat, s.heap.size ≤ q → A q := fun q h => by rw [hAe]; exact Or.inr h
  have hS : va_S A s.heap s.heap [] := va_S.rf
  have hl := lv_entry ([.ref h, .int a1, .int a2, .int a3, .int a4]) (n := 5) (Nat.le_of_ble_eq_true rfl)
  rw [lg_entry_eq]
  generalize (lg_sl ([.ref h, .int a1, .int a2, .int a3, .int a4]) ++ List.replicate (5 - (lg_sl ([.ref h, .int a1, .int a2, .int a3, .int a4])).length) Slot.unset).toArray = ls at hl ⊢
  have hl : lv_has ls 5 [(0, .ref h), (1, .int a1), (2, .int a2), (3, .int a3), (4, .int a4)] := hl
  obtain ⟨H, hH⟩ : ∃ H, H = s.heap := ⟨_, rfl⟩
  have hP : va_P D vwCl (WM ca h ad σ) H := by rw [hH]; exact hP
  have hS : va_S A s.heap H [] := by rw [hH]; exact hS
  obtain ⟨QQ, hQ⟩ : ∃ Q9, Q9 = MQ below (va_Qi (fun (r : Int32) (_ : Unit) => r = R.1) (fun (_ : Unit) (t : State) => pw_post D ca (WM ca h ad σ) s.heap.size (WM ca h ad (R.2)) t ∧ IR R.2) A) ([.ref h, .int a1, .int a2, .int a3, .int a4] : List Value).toArray s 0 0 A := ⟨_, rfl⟩
  rw [← hQ]
  show W _ _ _ _ _ _ _ _ _ _ s.heap _ _ _ _ _
  rw [← hH]
  have hR : (if a1 < (0 : Int32) then (((s_X9_refuse σ (-4 : Int32)).1), (s_X9_refuse σ (-4 : Int32)).2) else (if a3 < (0 : Int32) then (((s_X9_refuse σ (-4 : Int32)).1), (s_X9_refuse σ (-4 : Int32)).2) else (if (1 : Int32) ≤ a2 then (if (100000 : Int32) < a2 then (((s_X9_refuse σ (-6 : Int32)).1), (s_X9_refuse σ (-6 : Int32)).2) else (if a2 < a1 then (((s_X9_refuse σ (-6 : Int32)).1), (s_X9_refuse σ (-6 : Int32)).2) else (if (10000 : Int32) < a3 then (((s_X9_refuse σ (-6 : Int32)).1), (s_X9_refuse σ (-6 : Int32)).2) else (if (σ 2 0) = (6 : Int32) then (((s_X9_refuse σ (-6 : Int32)).1), (s_X9_refuse σ (-6 : Int32)).2) else ((((σ 2 0) + (1 : Int32)) - (1 : Int32)), (put (put (put (put (put (put σ 13 ((σ 2 0).toNatClampNeg) a1) 14 ((σ 2 0).toNatClampNeg) a2) 15 ((σ 2 0).toNatClampNeg) a3) 18 ((σ 2 0).toNatClampNeg) a4) 16 ((σ 2 0).toNatClampNeg) (-1 : Int32)) 2 0 ((σ 2 0) + (1 : Int32)))))))) else (((s_X9_refuse σ (-4 : Int32)).1), (s_X9_refuse σ (-4 : Int32)).2)))) = R := hR
  refine lv_iload_n hx hb dX9_piece_0 rfl (lv_at hl 1 rfl) ?_
  refine lv_if_lt (tgt := 13) hx hb dX9_piece_1 (by decide) (fun c_1 => ?_) (fun c_1 => ?_)
  · have hR := (if_pos c_1).symm.trans hR
    refine lv_aload_n hx hb dX9_piece_13 rfl (lv_at hl 0 rfl) ?_
    refine lv_bipush (v := (-4 : Int32)) hx hb dX9_piece_14 (by decide) ?_
    have hF := pw_free hD hS hA
    refine va_calli (va_runV (As := [.int (-4 : Int32)]) (rest := []) ⟨hx, hb, hml, hown, hts⟩ (k_X9_refuse l D ca h ad σ (-4 : Int32) H.size hI (by unfold vp_in; decide) _ rfl) (cwV 1 hts gX9_piece_X9_refuse rfl rfl rfl (by decide +kernel) ⟨Nat.le_of_ble_eq_true rfl, Nat.le_of_ble_eq_true rfl⟩) ⟨pw_blind, va_recv hK hP (ci := 9) (q0 := 0) rfl wm_0, pw_give hP hK hD⟩ rfl rfl hl.1 rfl (lv_room (Nat.le_of_ble_eq_true rfl)) dX9_piece_16 ⟨Nat.le_of_ble_eq_true rfl, Nat.le_of_ble_eq_true rfl⟩) hS (fun q _ h => hF q h) hF (fun r_2 u t H1 locs ht hvm hw hB hz1 hk1 hS => ?_)
    subst hw
    obtain ⟨hB, hI_3⟩ := hB
    obtain ⟨hP, hD⟩ := pw_back hF ht hB
    clear hB hk1 hz1 hF
    generalize H1 = H at hP hS ⊢
    have hI9 : IR ((s_X9_refuse σ (-4 : Int32)).2) := hI_3
    subst hR
    rw [hQ]
    exact W.iret (v := ((s_X9_refuse σ (-4 : Int32)).1)) hx hb hr (fun t ht hW => ⟨⟨((s_X9_refuse σ (-4 : Int32)).1), (), rfl, rfl, ⟨by rw [ht]; exact hP, va_K.moved hW.alike hK, by rw [← hAe]; exact hD⟩, hI9⟩, hS.F ht⟩) hS.2.2 dX9_piece_19
  · have hR := (if_neg c_1).symm.trans hR
    refine lv_iload_n hx hb dX9_piece_4 rfl (lv_at hl 3 rfl) ?_
    refine lv_if_lt (tgt := 13) hx hb dX9_piece_5 (by decide) (fun c_4 => ?_) (fun c_4 => ?_)
    · have hR := (if_pos c_4).symm.trans hR
      refine lv_aload_n hx hb dX9_piece_13 rfl (lv_at hl 0 rfl) ?_
      refine lv_bipush (v := (-4 : Int32)) hx hb dX9_piece_14 (by decide) ?_
      have hF := pw_free hD hS hA
      refine va_calli (va_runV (As := [.int (-4 : Int32)]) (rest := []) ⟨hx, hb, hml, hown, hts⟩ (k_X9_refuse l D ca h ad σ (-4 : Int32) H.size hI (by unfold vp_in; decide) _ rfl) (cwV 1 hts gX9_piece_X9_refuse rfl rfl rfl (by decide +kernel) ⟨Nat.le_of_ble_eq_true rfl, Nat.le_of_ble_eq_true rfl⟩) ⟨pw_blind, va_recv hK hP (ci := 9) (q0 := 0) rfl wm_0, pw_give hP hK hD⟩ rfl rfl hl.1 rfl (lv_room (Nat.le_of_ble_eq_true rfl)) dX9_piece_16 ⟨Nat.le_of_ble_eq_true rfl, Nat.le_of_ble_eq_true rfl⟩) hS (fun q _ h => hF q h) hF (fun r_5 u t H1 locs ht hvm hw hB hz1 hk1 hS => ?_)
      subst hw
      obtain ⟨hB, hI_6⟩ := hB
      obtain ⟨hP, hD⟩ := pw_back hF ht hB
      clear hB hk1 hz1 hF
      generalize H1 = H at hP hS ⊢
      have hI9 : IR ((s_X9_refuse σ (-4 : Int32)).2) := hI_6
      subst hR
      rw [hQ]
      exact W.iret (v := ((s_X9_refuse σ (-4 : Int32)).1)) hx hb hr (fun t ht hW => ⟨⟨((s_X9_refuse σ (-4 : Int32)).1), (), rfl, rfl, ⟨by rw [ht]; exact hP, va_K.moved hW.alike hK, by rw [← hAe]; exact hD⟩, hI9⟩, hS.F ht⟩) hS.2.2 dX9_piece_19
    · have hR := (if_neg c_4).symm.trans hR
      refine lv_iload_n hx hb dX9_piece_8 rfl (lv_at hl 2 rfl) ?_
      refine lv_iconst (v := (1 : Int32)) hx hb dX9_piece_9 (by decide) ?_
      refine lv_icmp_ge (tgt := 20) hx hb dX9_piece_10 (by decide) (fun c_7 => ?_) (fun c_7 => ?_)
      · have hR := (if_pos c_7).symm.trans hR
        refine lv_iload_n hx hb dX9_piece_20 rfl (lv_at hl 2 rfl) ?_
        refine lv_ldc (v := (100000 : Int32)) hx hb hown (hts (.constant RX9 126 (100000)) (List.mem_cons_of_mem _ mw_946)) dX9_piece_21 ?_
        refine lv_icmp_gt (tgt := 47) hx hb dX9_piece_23 (by decide) (fun c_8 => ?_) (fun c_8 => ?_)
        · have hR := (if_pos c_8).symm.trans hR
          refine lv_aload_n hx hb dX9_piece_47 rfl (lv_at hl 0 rfl) ?_
          refine lv_bipush (v := (-6 : Int32)) hx hb dX9_piece_48 (by decide) ?_
          have hF := pw_free hD hS hA
          refine va_calli (va_runV (As := [.int (-6 : Int32)]) (rest := []) ⟨hx, hb, hml, hown, hts⟩ (k_X9_refuse l D ca h ad σ (-6 : Int32) H.size hI (by unfold vp_in; decide) _ rfl) (cwV 1 hts gX9_piece_X9_refuse rfl rfl rfl (by decide +kernel) ⟨Nat.le_of_ble_eq_true rfl, Nat.le_of_ble_eq_true rfl⟩) ⟨pw_blind, va_recv hK hP (ci := 9) (q0 := 0) rfl wm_0, pw_give hP hK hD⟩ rfl rfl hl.1 rfl (lv_room (Nat.le_of_ble_eq_true rfl)) dX9_piece_50 ⟨Nat.le_of_ble_eq_true rfl, Nat.le_of_ble_eq_true rfl⟩) hS (fun q _ h => hF q h) hF (fun r_9 u t H1 locs ht hvm hw hB hz1 hk1 hS => ?_)
          subst hw
          obtain ⟨hB, hI_10⟩ := hB
          obtain ⟨hP, hD⟩ := pw_back hF ht hB
          clear hB hk1 hz1 hF
          generalize H1 = H at hP hS ⊢
          have hI9 : IR ((s_X9_refuse σ (-6 : Int32)).2) := hI_10
          subst hR
          rw [hQ]
          exact W.iret (v := ((s_X9_refuse σ (-6 : Int32)).1)) hx hb hr (fun t ht hW => ⟨⟨((s_X9_refuse σ (-6 : Int32)).1), (), rfl, rfl, ⟨by rw [ht]; exact hP, va_K.moved hW.alike hK, by rw [← hAe]; exact hD⟩, hI9⟩, hS.F ht⟩) hS.2.2 dX9_piece_53
        · have hR := (if_neg c_8).symm.trans hR
          refine lv_iload_n hx hb dX9_piece_26 rfl (lv_at hl 1 rfl) ?_
          refine lv_iload_n hx hb dX9_piece_27 rfl (lv_at hl 2 rfl) ?_
          refine lv_icmp_gt (tgt := 47) hx hb dX9_piece_28 (by decide) (fun c_11 => ?_) (fun c_11 => ?_)
          · have hR := (if_pos c_11).symm.trans hR
            refine lv_aload_n hx hb dX9_piece_47 rfl (lv_at hl 0 rfl) ?_
            refine lv_bipush (v := (-6 : Int32)) hx hb dX9_piece_48 (by decide) ?_
            have hF := pw_free hD hS hA
            refine va_calli (va_runV (As := [.int (-6 : Int32)]) (rest := []) ⟨hx, hb, hml, hown, hts⟩ (k_X9_refuse l D ca h ad σ (-6 : Int32) H.size hI (by unfold vp_in; decide) _ rfl) (cwV 1 hts gX9_piece_X9_refuse rfl rfl rfl (by decide +kernel) ⟨Nat.le_of_ble_eq_true rfl, Nat.le_of_ble_eq_true rfl⟩) ⟨pw_blind, va_recv hK hP (ci := 9) (q0 := 0) rfl wm_0, pw_give hP hK hD⟩ rfl rfl hl.1 rfl (lv_room (Nat.le_of_ble_eq_true rfl)) dX9_piece_50 ⟨Nat.le_of_ble_eq_true rfl, Nat.le_of_ble_eq_true rfl⟩) hS (fun q _ h => hF q h) hF (fun r_12 u t H1 locs ht hvm hw hB hz1 hk1 hS => ?_)
            subst hw
            obtain ⟨hB, hI_13⟩ := hB
            obtain ⟨hP, hD⟩ := pw_back hF ht hB
            clear hB hk1 hz1 hF
            generalize H1 = H at hP hS ⊢
            have hI9 : IR ((s_X9_refuse σ (-6 : Int32)).2) := hI_13
            subst hR
            rw [hQ]
            exact W.iret (v := ((s_X9_refuse σ (-6 : Int32)).1)) hx hb hr (fun t ht hW => ⟨⟨((s_X9_refuse σ (-6 : Int32)).1), (), rfl, rfl, ⟨by rw [ht]; exact hP, va_K.moved hW.alike hK, by rw [← hAe]; exact hD⟩, hI9⟩, hS.F ht⟩) hS.2.2 dX9_piece_53
          · have hR := (if_neg c_11).symm.trans hR
            refine lv_iload_n hx hb dX9_piece_31 rfl (lv_at hl 3 rfl) ?_
            refine lv_sipush (v := (10000 : Int32)) hx hb dX9_piece_32 (by decide) ?_
            refine lv_icmp_gt (tgt := 47) hx hb dX9_piece_35 (by decide) (fun c_14 => ?_) (fun c_14 => ?_)
            · have hR := (if_pos c_14).symm.trans hR
              refine lv_aload_n hx hb dX9_piece_47 rfl (lv_at hl 0 rfl) ?_
              refine lv_bipush (v := (-6 : Int32)) hx hb dX9_piece_48 (by decide) ?_
              have hF := pw_free hD hS hA
              refine va_calli (va_runV (As := [.int (-6 : Int32)]) (rest := []) ⟨hx, hb, hml, hown, hts⟩ (k_X9_refuse l D ca h ad σ (-6 : Int32) H.size hI (by unfold vp_in; decide) _ rfl) (cwV 1 hts gX9_piece_X9_refuse rfl rfl rfl (by decide +kernel) ⟨Nat.le_of_ble_eq_true rfl, Nat.le_of_ble_eq_true rfl⟩) ⟨pw_blind, va_recv hK hP (ci := 9) (q0 := 0) rfl wm_0, pw_give hP hK hD⟩ rfl rfl hl.1 rfl (lv_room (Nat.le_of_ble_eq_true rfl)) dX9_piece_50 ⟨Nat.le_of_ble_eq_true rfl, Nat.le_of_ble_eq_true rfl⟩) hS (fun q _ h => hF q h) hF (fun r_15 u t H1 locs ht hvm hw hB hz1 hk1 hS => ?_)
              subst hw
              obtain ⟨hB, hI_16⟩ := hB
              obtain ⟨hP, hD⟩ := pw_back hF ht hB
              clear hB hk1 hz1 hF
              generalize H1 = H at hP hS ⊢
              have hI9 : IR ((s_X9_refuse σ (-6 : Int32)).2) := hI_16
              subst hR
              rw [hQ]
              exact W.iret (v := ((s_X9_refuse σ (-6 : Int32)).1)) hx hb hr (fun t ht hW => ⟨⟨((s_X9_refuse σ (-6 : Int32)).1), (), rfl, rfl, ⟨by rw [ht]; exact hP, va_K.moved hW.alike hK, by rw [← hAe]; exact hD⟩, hI9⟩, hS.F ht⟩) hS.2.2 dX9_piece_53
            · have hR := (if_neg c_14).symm.trans hR
              refine lv_aload_n hx hb dX9_piece_38 rfl (lv_at hl 0 rfl) ?_
              refine va_get (D := D) (ci := 9) (v := .int (σ 2 0)) (C := RX9) (T := TX9) (N := 51) hx hb hts hu9 hown hK hP 0 wm_0 rfl 2 (by decide) (hts (.fieldLink RX9 127 "GrazeBookModel" "pieces" "I") (List.mem_cons_of_mem _ mw_785)) (fun _ h9 => h9) rfl dX9_piece_39 ?_
              refine lv_bipush (v := (6 : Int32)) hx hb dX9_piece_42 (by decide) ?_
              refine lv_icmp_ne (tgt := 54) hx hb dX9_piece_44 (by decide) (fun c_17 => ?_) (fun c_17 => ?_)
              · have hR := (if_neg c_17).symm.trans hR
                refine lv_aload_n hx hb dX9_piece_54 rfl (lv_at hl 0 rfl) ?_
                refine va_get (D := D) (ci := 9) (v := .ref (ad 13)) (C := RX9) (T := TX9) (N := 51) hx hb hts hu9 hown hK hP 0 wm_0 rfl 13 (by decide) (hts (.fieldLink RX9 13 "GrazeBookModel" "grass" "[I") (List.mem_cons_of_mem _ mw_796)) (fun _ h9 => h9) rfl dX9_piece_55 ?_
                refine lv_aload_n hx hb dX9_piece_58 rfl (lv_at hl 0 rfl) ?_
                refine va_get (D := D) (ci := 9) (v := .int (σ 2 0)) (C := RX9) (T := TX9) (N := 51) hx hb hts hu9 hown hK hP 0 wm_0 rfl 2 (by decide) (hts (.fieldLink RX9 127 "GrazeBookModel" "pieces" "I") (List.mem_cons_of_mem _ mw_785)) (fun _ h9 => h9) rfl dX9_piece_59 ?_
                refine lv_iload_n hx hb dX9_piece_62 rfl (lv_at hl 1 rfl) ?_
                refine va_iast_k (k := ((σ 2 0).toNatClampNeg)) hx hb hK hP hD hS 2 0 wm_a13 rfl rfl (ix_cnt (ir_2 hI) c_17 (by decide)) dX9_piece_63 (fun H locs hP hD hS => ?_)
                rw [wm_s13] at hP hD
                refine lv_aload_n hx hb dX9_piece_64 rfl (lv_at hl 0 rfl) ?_
                refine va_get (D := D) (ci := 9) (v := .ref (ad 14)) (C := RX9) (T := TX9) (N := 51) hx hb hts hu9 hown hK hP 0 wm_0 rfl 14 (by decide) (hts (.fieldLink RX9 16 "GrazeBookModel" "full" "[I") (List.mem_cons_of_mem _ mw_797)) (fun _ h9 => h9) rfl dX9_piece_65 ?_
                refine lv_aload_n hx hb dX9_piece_68 rfl (lv_at hl 0 rfl) ?_
                refine va_get (D := D) (ci := 9) (v := .int (σ 2 0)) (C := RX9) (T := TX9) (N := 51) hx hb hts hu9 hown hK hP 0 wm_0 rfl 2 (by decide) (hts (.fieldLink RX9 127 "GrazeBookModel" "pieces" "I") (List.mem_cons_of_mem _ mw_785)) (fun _ h9 => h9) rfl dX9_piece_69 ?_
                refine lv_iload_n hx hb dX9_piece_72 rfl (lv_at hl 2 rfl) ?_
                refine va_iast_k (k := ((σ 2 0).toNatClampNeg)) hx hb hK hP hD hS 3 0 wm_a14 rfl rfl (ix_cnt (ir_2 hI) c_17 (by decide)) dX9_piece_73 (fun H locs hP hD hS => ?_)
                rw [wm_s14] at hP hD
                refine lv_aload_n hx hb dX9_piece_74 rfl (lv_at hl 0 rfl) ?_
                refine va_get (D := D) (ci := 9) (v := .ref (ad 15)) (C := RX9) (T := TX9) (N := 51) hx hb hts hu9 hown hK hP 0 wm_0 rfl 15 (by decide) (hts (.fieldLink RX9 19 "GrazeBookModel" "bears" "[I") (List.mem_cons_of_mem _ mw_798)) (fun _ h9 => h9) rfl dX9_piece_75 ?_
                refine lv_aload_n hx hb dX9_piece_78 rfl (lv_at hl 0 rfl) ?_
                refine va_get (D := D) (ci := 9) (v := .int (σ 2 0)) (C := RX9) (T := TX9) (N := 51) hx hb hts hu9 hown hK hP 0 wm_0 rfl 2 (by decide) (hts (.fieldLink RX9 127 "GrazeBookModel" "pieces" "I") (List.mem_cons_of_mem _ mw_785)) (fun _ h9 => h9) rfl dX9_piece_79 ?_
                refine lv_iload_n hx hb dX9_piece_82 rfl (lv_at hl 3 rfl) ?_
                refine va_iast_k (k := ((σ 2 0).toNatClampNeg)) hx hb hK hP hD hS 4 0 wm_a15 rfl rfl (ix_cnt (ir_2 hI) c_17 (by decide)) dX9_piece_83 (fun H locs hP hD hS => ?_)
                rw [wm_s15] at hP hD
                refine lv_aload_n hx hb dX9_piece_84 rfl (lv_at hl 0 rfl) ?_
                refine va_get (D := D) (ci := 9) (v := .ref (ad 18)) (C := RX9) (T := TX9) (N := 51) hx hb hts hu9 hown hK hP 0 wm_0 rfl 18 (by decide) (hts (.fieldLink RX9 28 "GrazeBookModel" "water" "[Z") (List.mem_cons_of_mem _ mw_801)) (fun _ h9 => h9) rfl dX9_piece_85 ?_
                refine lv_aload_n hx hb dX9_piece_88 rfl (lv_at hl 0 rfl) ?_
                refine va_get (D := D) (ci := 9) (v := .int (σ 2 0)) (C := RX9) (T := TX9) (N := 51) hx hb hts hu9 hown hK hP 0 wm_0 rfl 2 (by decide) (hts (.fieldLink RX9 127 "GrazeBookModel" "pieces" "I") (List.mem_cons_of_mem _ mw_785)) (fun _ h9 => h9) rfl dX9_piece_89 ?_
                refine lv_iload hx hb dX9_piece_92 (lv_at hl 4 rfl) ?_
                refine va_zast_k (k := ((σ 2 0).toNatClampNeg)) hx hb hK hP hD hS 7 1 wm_a18 rfl rfl (ix_cnt (ir_2 hI) c_17 (by decide)) hb4 dX9_piece_94 (fun H locs hP hD hS => ?_)
                rw [wm_s18] at hP hD
                refine lv_aload_n hx hb dX9_piece_95 rfl (lv_at hl 0 rfl) ?_
                refine va_get (D := D) (ci := 9) (v := .ref (ad 16)) (C := RX9) (T := TX9) (N := 51) hx hb hts hu9 hown hK hP 0 wm_0 rfl 16 (by decide) (hts (.fieldLink RX9 22 "GrazeBookModel" "rest" "[I") (List.mem_cons_of_mem _ mw_799)) (fun _ h9 => h9) rfl dX9_piece_96 ?_
                refine lv_aload_n hx hb dX9_piece_99 rfl (lv_at hl 0 rfl) ?_
                refine va_get (D := D) (ci := 9) (v := .int (σ 2 0)) (C := RX9) (T := TX9) (N := 51) hx hb hts hu9 hown hK hP 0 wm_0 rfl 2 (by decide) (hts (.fieldLink RX9 127 "GrazeBookModel" "pieces" "I") (List.mem_cons_of_mem _ mw_785)) (fun _ h9 => h9) rfl dX9_piece_100 ?_
                refine lv_iconst (v := (-1 : Int32)) hx hb dX9_piece_103 (by decide) ?_
                refine va_iast_k (k := ((σ 2 0).toNatClampNeg)) hx hb hK hP hD hS 5 0 wm_a16 rfl rfl (ix_cnt (ir_2 hI) c_17 (by decide)) dX9_piece_104 (fun H locs hP hD hS => ?_)
                rw [wm_s16] at hP hD
                refine lv_aload_n hx hb dX9_piece_105 rfl (lv_at hl 0 rfl) ?_
                refine lv_dup hx hb dX9_piece_106 rfl ?_
                refine va_get (D := D) (ci := 9) (v := .int (σ 2 0)) (C := RX9) (T := TX9) (N := 51) hx hb hts hu9 hown hK hP 0 wm_0 rfl 2 (by decide) (hts (.fieldLink RX9 127 "GrazeBookModel" "pieces" "I") (List.mem_cons_of_mem _ mw_785)) (fun _ h9 => h9) rfl dX9_piece_107 ?_
                refine lv_iconst (v := (1 : Int32)) hx hb dX9_piece_110 (by decide) ?_
                refine lv_iadd hx hb dX9_piece_111 ?_
                refine va_put (D := D) (ci := 9) (v := .int ((σ 2 0) + (1 : Int32))) (ty := .int) (C := RX9) (T := TX9) (N := 51) hx hb hts hu9 tyX9 tyX9_ok nmX9 hown hK hP hD hS 0 wm_0 rfl 2 (by decide) (hts (.fieldLink RX9 127 "GrazeBookModel" "pieces" "I") (List.mem_cons_of_mem _ mw_785)) (fun _ h9 => h9) rfl (by decide +kernel) rfl rfl (Nat.le_of_ble_eq_true rfl) dX9_piece_112 (fun H locs hP hD hS => ?_)
                rw [wm_p2] at hP hD
                refine lv_aload_n hx hb dX9_piece_115 rfl (lv_at hl 0 rfl) ?_
                refine va_get (D := D) (ci := 9) (v := .int ((σ 2 0) + (1 : Int32))) (C := RX9) (T := TX9) (N := 51) hx hb hts hu9 hown hK hP 0 wm_0 rfl 2 (by decide) (hts (.fieldLink RX9 127 "GrazeBookModel" "pieces" "I") (List.mem_cons_of_mem _ mw_785)) (fun _ h9 => h9) rfl dX9_piece_116 ?_
                refine lv_iconst (v := (1 : Int32)) hx hb dX9_piece_119 (by decide) ?_
                refine lv_isub hx hb dX9_piece_120 ?_
                have hI9 : IR (put (put (put (put (put (put σ 13 ((σ 2 0).toNatClampNeg) a1) 14 ((σ 2 0).toNatClampNeg) a2) 15 ((σ 2 0).toNatClampNeg) a3) 18 ((σ 2 0).toNatClampNeg) a4) 16 ((σ 2 0).toNatClampNeg) (-1 : Int32)) 2 0 ((σ 2 0) + (1 : Int32))) := (ir_put2 (σ := (put (put (put (put (put σ 13 ((σ 2 0).toNatClampNeg) a1) 14 ((σ 2 0).toNatClampNeg) a2) 15 ((σ 2 0).toNatClampNeg) a3) 18 ((σ 2 0).toNatClampNeg) a4) 16 ((σ 2 0).toNatClampNeg) (-1 : Int32))) (ir_putpiece (σ := σ) hI (pc_ok (not_lt0 c_1) (not_lt0 c_11) (not_lt0 c_8) (by decide))) (inc_ok (ir_2 hI) c_17 (by decide) (by decide)))
                subst hR
                rw [hQ]
                exact W.iret (v := (((σ 2 0) + (1 : Int32)) - (1 : Int32))) hx hb hr (fun t ht hW => ⟨⟨(((σ 2 0) + (1 : Int32)) - (1 : Int32)), (), rfl, rfl, ⟨by rw [ht]; exact hP, va_K.moved hW.alike hK, by rw [← hAe]; exact hD⟩, hI9⟩, hS.F ht⟩) hS.2.2 dX9_piece_121
              · have hR := (if_pos c_17).symm.trans hR
                refine lv_aload_n hx hb dX9_piece_47 rfl (lv_at hl 0 rfl) ?_
                refine lv_bipush (v := (-6 : Int32)) hx hb dX9_piece_48 (by decide) ?_
                have hF := pw_free hD hS hA
                refine va_calli (va_runV (As := [.int (-6 : Int32)]) (rest := []) ⟨hx, hb, hml, hown, hts⟩ (k_X9_refuse l D ca h ad σ (-6 : Int32) H.size hI (by unfold vp_in; decide) _ rfl) (cwV 1 hts gX9_piece_X9_refuse rfl rfl rfl (by decide +kernel) ⟨Nat.le_of_ble_eq_true rfl, Nat.le_of_ble_eq_true rfl⟩) ⟨pw_blind, va_recv hK hP (ci := 9) (q0 := 0) rfl wm_0, pw_give hP hK hD⟩ rfl rfl hl.1 rfl (lv_room (Nat.le_of_ble_eq_true rfl)) dX9_piece_50 ⟨Nat.le_of_ble_eq_true rfl, Nat.le_of_ble_eq_true rfl⟩) hS (fun q _ h => hF q h) hF (fun r_18 u t H1 locs ht hvm hw hB hz1 hk1 hS => ?_)
                subst hw
                obtain ⟨hB, hI_19⟩ := hB
                obtain ⟨hP, hD⟩ := pw_back hF ht hB
                clear hB hk1 hz1 hF
                generalize H1 = H at hP hS ⊢
                have hI9 : IR ((s_X9_refuse σ (-6 : Int32)).2) := hI_19
                subst hR
                rw [hQ]
                exact W.iret (v := ((s_X9_refuse σ (-6 : Int32)).1)) hx hb hr (fun t ht hW => ⟨⟨((s_X9_refuse σ (-6 : Int32)).1), (), rfl, rfl, ⟨by rw [ht]; exact hP, va_K.moved hW.alike hK, by rw [← hAe]; exact hD⟩, hI9⟩, hS.F ht⟩) hS.2.2 dX9_piece_53
      · have hR := (if_neg c_7).symm.trans hR
        refine lv_aload_n hx hb dX9_piece_13 rfl (lv_at hl 0 rfl) ?_
        refine lv_bipush (v := (-4 : Int32)) hx hb dX9_piece_14 (by decide) ?_
        have hF := pw_free hD hS hA
        refine va_calli (va_runV (As := [.int (-4 : Int32)]) (rest := []) ⟨hx, hb, hml, hown, hts⟩ (k_X9_refuse l D ca h ad σ (-4 : Int32) H.size hI (by unfold vp_in; decide) _ rfl) (cwV 1 hts gX9_piece_X9_refuse rfl rfl rfl (by decide +kernel) ⟨Nat.le_of_ble_eq_true rfl, Nat.le_of_ble_eq_true rfl⟩) ⟨pw_blind, va_recv hK hP (ci := 9) (q0 := 0) rfl wm_0, pw_give hP hK hD⟩ rfl rfl hl.1 rfl (lv_room (Nat.le_of_ble_eq_true rfl)) dX9_piece_16 ⟨Nat.le_of_ble_eq_true rfl, Nat.le_of_ble_eq_true rfl⟩) hS (fun q _ h => hF q h) hF (fun r_20 u t H1 locs ht hvm hw hB hz1 hk1 hS => ?_)
        subst hw
        obtain ⟨hB, hI_21⟩ := hB
        obtain ⟨hP, hD⟩ := pw_back hF ht hB
        clear hB hk1 hz1 hF
        generalize H1 = H at hP hS ⊢
        have hI9 : IR ((s_X9_refuse σ (-4 : Int32)).2) := hI_21
        subst hR
        rw [hQ]
        exact W.iret (v := ((s_X9_refuse σ (-4 : Int32)).1)) hx hb hr (fun t ht hW => ⟨⟨((s_X9_refuse σ (-4 : Int32)).1), (), rfl, rfl, ⟨by rw [ht]; exact hP, va_K.moved hW.alike hK, by rw [← hAe]; exact hD⟩, hI9⟩, hS.F ht⟩) hS.2.2 dX9_piece_19

def s_X9_owner (σ : St) (a1 : Int32) : Int32 × St := (if (0 : Int32) ≤ a1 then (if (100000 : Int32) < a1 then (((s_X9_refuse σ (-6 : Int32)).1), (s_X9_refuse σ (-6 : Int32)).2) else (if (σ 3 0) = (10 : Int32) then (((s_X9_refuse σ (-6 : Int32)).1), (s_X9_refuse σ (-6 : Int32)).2) else ((((σ 3 0) + (1 : Int32)) - (1 : Int32)), (put (put σ 19 ((σ 3 0).toNatClampNeg) a1) 3 0 ((σ 3 0) + (1 : Int32)))))) else (((s_X9_refuse σ (-4 : Int32)).1), (s_X9_refuse σ (-4 : Int32)).2))
theorem fr_s_X9_owner (σ : St) (a1 : Int32) {f : Nat} (h0 : f ≠ 0) (h3 : f ≠ 3) (h19 : f ≠ 19) : (s_X9_owner σ a1 ).2 f = σ f := by
  unfold s_X9_owner
  all_goals ((try dsimp only) <;> ((repeat' split) <;> (try simp only [put_fr, ne_eq, not_false_eq_true, h0, h3, h19, fr_s_X9_refuse])))
set_option maxHeartbeats 1000000 in
set_option maxRecDepth 100000 in
theorem k_X9_owner (l : Launch) (D : va_G) (ca : Nat → ClassId) (h : Nat) (ad : Nat → Nat) (σ : St) (a1 : Int32) (sz : Nat) (hI : IR σ)  (R : Int32 × St) (hR : s_X9_owner σ a1 = R) : Met l yX9_owner wsX9_owner ({ frames := 1, cells := 0, slots := 0, locals := 21 }) (va_Pc [.ref h, .int a1] (pw_pre D ca (WM ca h ad σ) sz)) (va_Qi (fun (r : Int32) (_ : Unit) => r = R.1) (fun (_ : Unit) (t : State) => pw_post D ca (WM ca h ad σ) sz (WM ca h ad (R.2)) t ∧ IR R.2) (va_A (WM ca h ad σ) sz)) 0 0 (va_A (WM ca h ad σ) sz) := by
  refine Met.ofW (cc := cX9_owner) (maxL := 2) (ret := (some .int)) (by decide) rfl ?_
  intro p e s m args below meth c s₁ B hml hv
  obtain ⟨rfl, hsz, hP, hK, hD0⟩ := hv
  have hx := B.exec
  have hb := B.bytes
  have hr := B.returns
  have hts := atoms_spec (ws := wsX9_owner) B.pre
  have hown : s.vm.findClass RX9 = some m.cls := findClass_of_methodNamed B.named
  have hlocks := B.notSynchronized
  have hu9 : ∀ w ∈ u_ws RX9 TX9 51, w ∈ wsX9_owner := fun w h => List.mem_cons_of_mem _ (uw9 w h)
  subst hsz
  have hD := hD0.self (sz := s.heap.size)
  obtain ⟨A, hAe⟩ : ∃ A, A = va_A (WM ca h ad σ) s.heap.size := ⟨_, rfl⟩
  rw [← hAe] at hD ⊢
  have hA : ∀ q : Nat, s.heap.size ≤ q → A q := fun q h => by rw [hAe]; exact Or.inr h
  have hS : va_S A s.heap s.heap [] := va_S.rf
  have hl := lv_entry ([.ref h, .int a1]) (n := 2) (Nat.le_of_ble_eq_true rfl)
  rw [lg_entry_eq]
  generalize (lg_sl ([.ref h, .int a1]) ++ List.replicate (2 - (lg_sl ([.ref h, .int a1])).length) Slot.unset).toArray = ls at hl ⊢
  have hl : lv_has ls 2 [(0, .ref h), (1, .int a1)] := hl
  obtain ⟨H, hH⟩ : ∃ H, H = s.heap := ⟨_, rfl⟩
  have hP : va_P D vwCl (WM ca h ad σ) H := by rw [hH]; exact hP
  have hS : va_S A s.heap H [] := by rw [hH]; exact hS
  obtain ⟨QQ, hQ⟩ : ∃ Q9, Q9 = MQ below (va_Qi (fun (r : Int32) (_ : Unit) => r = R.1) (fun (_ : Unit) (t : State) => pw_post D ca (WM ca h ad σ) s.heap.size (WM ca h ad (R.2)) t ∧ IR R.2) A) ([.ref h, .int a1] : List Value).toArray s 0 0 A := ⟨_, rfl⟩
  rw [← hQ]
  show W _ _ _ _ _ _ _ _ _ _ s.heap _ _ _ _ _
  rw [← hH]
  have hR : (if (0 : Int32) ≤ a1 then (if (100000 : Int32) < a1 then (((s_X9_refuse σ (-6 : Int32)).1), (s_X9_refuse σ (-6 : Int32)).2) else (if (σ 3 0) = (10 : Int32) then (((s_X9_refuse σ (-6 : Int32)).1), (s_X9_refuse σ (-6 : Int32)).2) else ((((σ 3 0) + (1 : Int32)) - (1 : Int32)), (put (put σ 19 ((σ 3 0).toNatClampNeg) a1) 3 0 ((σ 3 0) + (1 : Int32)))))) else (((s_X9_refuse σ (-4 : Int32)).1), (s_X9_refuse σ (-4 : Int32)).2)) = R := hR
  refine lv_iload_n hx hb dX9_owner_0 rfl (lv_at hl 1 rfl) ?_
  refine lv_if_ge (tgt := 11) hx hb dX9_owner_1 (by decide) (fun c_1 => ?_) (fun c_1 => ?_)
  · have hR := (if_pos c_1).symm.trans hR
    refine lv_iload_n hx hb dX9_owner_11 rfl (lv_at hl 1 rfl) ?_
    refine lv_ldc (v := (100000 : Int32)) hx hb hown (hts (.constant RX9 126 (100000)) (List.mem_cons_of_mem _ mw_946)) dX9_owner_12 ?_
    refine lv_icmp_gt (tgt := 26) hx hb dX9_owner_14 (by decide) (fun c_2 => ?_) (fun c_2 => ?_)
    · have hR := (if_pos c_2).symm.trans hR
      refine lv_aload_n hx hb dX9_owner_26 rfl (lv_at hl 0 rfl) ?_
      refine lv_bipush (v := (-6 : Int32)) hx hb dX9_owner_27 (by decide) ?_
      have hF := pw_free hD hS hA
      refine va_calli (va_runV (As := [.int (-6 : Int32)]) (rest := []) ⟨hx, hb, hml, hown, hts⟩ (k_X9_refuse l D ca h ad σ (-6 : Int32) H.size hI (by unfold vp_in; decide) _ rfl) (cwV 1 hts gX9_owner_X9_refuse rfl rfl rfl (by decide +kernel) ⟨Nat.le_of_ble_eq_true rfl, Nat.le_of_ble_eq_true rfl⟩) ⟨pw_blind, va_recv hK hP (ci := 9) (q0 := 0) rfl wm_0, pw_give hP hK hD⟩ rfl rfl hl.1 rfl (lv_room (Nat.le_of_ble_eq_true rfl)) dX9_owner_29 ⟨Nat.le_of_ble_eq_true rfl, Nat.le_of_ble_eq_true rfl⟩) hS (fun q _ h => hF q h) hF (fun r_3 u t H1 locs ht hvm hw hB hz1 hk1 hS => ?_)
      subst hw
      obtain ⟨hB, hI_4⟩ := hB
      obtain ⟨hP, hD⟩ := pw_back hF ht hB
      clear hB hk1 hz1 hF
      generalize H1 = H at hP hS ⊢
      have hI9 : IR ((s_X9_refuse σ (-6 : Int32)).2) := hI_4
      subst hR
      rw [hQ]
      exact W.iret (v := ((s_X9_refuse σ (-6 : Int32)).1)) hx hb hr (fun t ht hW => ⟨⟨((s_X9_refuse σ (-6 : Int32)).1), (), rfl, rfl, ⟨by rw [ht]; exact hP, va_K.moved hW.alike hK, by rw [← hAe]; exact hD⟩, hI9⟩, hS.F ht⟩) hS.2.2 dX9_owner_32
    · have hR := (if_neg c_2).symm.trans hR
      refine lv_aload_n hx hb dX9_owner_17 rfl (lv_at hl 0 rfl) ?_
      refine va_get (D := D) (ci := 9) (v := .int (σ 3 0)) (C := RX9) (T := TX9) (N := 51) hx hb hts hu9 hown hK hP 0 wm_0 rfl 3 (by decide) (hts (.fieldLink RX9 131 "GrazeBookModel" "owners" "I") (List.mem_cons_of_mem _ mw_786)) (fun _ h9 => h9) rfl dX9_owner_18 ?_
      refine lv_bipush (v := (10 : Int32)) hx hb dX9_owner_21 (by decide) ?_
      refine lv_icmp_ne (tgt := 33) hx hb dX9_owner_23 (by decide) (fun c_5 => ?_) (fun c_5 => ?_)
      · have hR := (if_neg c_5).symm.trans hR
        refine lv_aload_n hx hb dX9_owner_33 rfl (lv_at hl 0 rfl) ?_
        refine va_get (D := D) (ci := 9) (v := .ref (ad 19)) (C := RX9) (T := TX9) (N := 51) hx hb hts hu9 hown hK hP 0 wm_0 rfl 19 (by decide) (hts (.fieldLink RX9 32 "GrazeBookModel" "coins" "[I") (List.mem_cons_of_mem _ mw_802)) (fun _ h9 => h9) rfl dX9_owner_34 ?_
        refine lv_aload_n hx hb dX9_owner_37 rfl (lv_at hl 0 rfl) ?_
        refine va_get (D := D) (ci := 9) (v := .int (σ 3 0)) (C := RX9) (T := TX9) (N := 51) hx hb hts hu9 hown hK hP 0 wm_0 rfl 3 (by decide) (hts (.fieldLink RX9 131 "GrazeBookModel" "owners" "I") (List.mem_cons_of_mem _ mw_786)) (fun _ h9 => h9) rfl dX9_owner_38 ?_
        refine lv_iload_n hx hb dX9_owner_41 rfl (lv_at hl 1 rfl) ?_
        refine va_iast_k (k := ((σ 3 0).toNatClampNeg)) hx hb hK hP hD hS 8 0 wm_a19 rfl rfl (ix_cnt (ir_3 hI) c_5 (by decide)) dX9_owner_42 (fun H locs hP hD hS => ?_)
        rw [wm_s19] at hP hD
        refine lv_aload_n hx hb dX9_owner_43 rfl (lv_at hl 0 rfl) ?_
        refine lv_dup hx hb dX9_owner_44 rfl ?_
        refine va_get (D := D) (ci := 9) (v := .int (σ 3 0)) (C := RX9) (T := TX9) (N := 51) hx hb hts hu9 hown hK hP 0 wm_0 rfl 3 (by decide) (hts (.fieldLink RX9 131 "GrazeBookModel" "owners" "I") (List.mem_cons_of_mem _ mw_786)) (fun _ h9 => h9) rfl dX9_owner_45 ?_
        refine lv_iconst (v := (1 : Int32)) hx hb dX9_owner_48 (by decide) ?_
        refine lv_iadd hx hb dX9_owner_49 ?_
        refine va_put (D := D) (ci := 9) (v := .int ((σ 3 0) + (1 : Int32))) (ty := .int) (C := RX9) (T := TX9) (N := 51) hx hb hts hu9 tyX9 tyX9_ok nmX9 hown hK hP hD hS 0 wm_0 rfl 3 (by decide) (hts (.fieldLink RX9 131 "GrazeBookModel" "owners" "I") (List.mem_cons_of_mem _ mw_786)) (fun _ h9 => h9) rfl (by decide +kernel) rfl rfl (Nat.le_of_ble_eq_true rfl) dX9_owner_50 (fun H locs hP hD hS => ?_)
        rw [wm_p3] at hP hD
        refine lv_aload_n hx hb dX9_owner_53 rfl (lv_at hl 0 rfl) ?_
        refine va_get (D := D) (ci := 9) (v := .int ((σ 3 0) + (1 : Int32))) (C := RX9) (T := TX9) (N := 51) hx hb hts hu9 hown hK hP 0 wm_0 rfl 3 (by decide) (hts (.fieldLink RX9 131 "GrazeBookModel" "owners" "I") (List.mem_cons_of_mem _ mw_786)) (fun _ h9 => h9) rfl dX9_owner_54 ?_
        refine lv_iconst (v := (1 : Int32)) hx hb dX9_owner_57 (by decide) ?_
        refine lv_isub hx hb dX9_owner_58 ?_
        have hI9 : IR (put (put σ 19 ((σ 3 0).toNatClampNeg) a1) 3 0 ((σ 3 0) + (1 : Int32))) := (ir_put3 (σ := (put σ 19 ((σ 3 0).toNatClampNeg) a1)) hI (inc_ok (ir_3 hI) c_5 (by decide) (by decide)))
        subst hR
        rw [hQ]
        exact W.iret (v := (((σ 3 0) + (1 : Int32)) - (1 : Int32))) hx hb hr (fun t ht hW => ⟨⟨(((σ 3 0) + (1 : Int32)) - (1 : Int32)), (), rfl, rfl, ⟨by rw [ht]; exact hP, va_K.moved hW.alike hK, by rw [← hAe]; exact hD⟩, hI9⟩, hS.F ht⟩) hS.2.2 dX9_owner_59
      · have hR := (if_pos c_5).symm.trans hR
        refine lv_aload_n hx hb dX9_owner_26 rfl (lv_at hl 0 rfl) ?_
        refine lv_bipush (v := (-6 : Int32)) hx hb dX9_owner_27 (by decide) ?_
        have hF := pw_free hD hS hA
        refine va_calli (va_runV (As := [.int (-6 : Int32)]) (rest := []) ⟨hx, hb, hml, hown, hts⟩ (k_X9_refuse l D ca h ad σ (-6 : Int32) H.size hI (by unfold vp_in; decide) _ rfl) (cwV 1 hts gX9_owner_X9_refuse rfl rfl rfl (by decide +kernel) ⟨Nat.le_of_ble_eq_true rfl, Nat.le_of_ble_eq_true rfl⟩) ⟨pw_blind, va_recv hK hP (ci := 9) (q0 := 0) rfl wm_0, pw_give hP hK hD⟩ rfl rfl hl.1 rfl (lv_room (Nat.le_of_ble_eq_true rfl)) dX9_owner_29 ⟨Nat.le_of_ble_eq_true rfl, Nat.le_of_ble_eq_true rfl⟩) hS (fun q _ h => hF q h) hF (fun r_6 u t H1 locs ht hvm hw hB hz1 hk1 hS => ?_)
        subst hw
        obtain ⟨hB, hI_7⟩ := hB
        obtain ⟨hP, hD⟩ := pw_back hF ht hB
        clear hB hk1 hz1 hF
        generalize H1 = H at hP hS ⊢
        have hI9 : IR ((s_X9_refuse σ (-6 : Int32)).2) := hI_7
        subst hR
        rw [hQ]
        exact W.iret (v := ((s_X9_refuse σ (-6 : Int32)).1)) hx hb hr (fun t ht hW => ⟨⟨((s_X9_refuse σ (-6 : Int32)).1), (), rfl, rfl, ⟨by rw [ht]; exact hP, va_K.moved hW.alike hK, by rw [← hAe]; exact hD⟩, hI9⟩, hS.F ht⟩) hS.2.2 dX9_owner_32
  · have hR := (if_neg c_1).symm.trans hR
    refine lv_aload_n hx hb dX9_owner_4 rfl (lv_at hl 0 rfl) ?_
    refine lv_bipush (v := (-4 : Int32)) hx hb dX9_owner_5 (by decide) ?_
    have hF := pw_free hD hS hA
    refine va_calli (va_runV (As := [.int (-4 : Int32)]) (rest := []) ⟨hx, hb, hml, hown, hts⟩ (k_X9_refuse l D ca h ad σ (-4 : Int32) H.size hI (by unfold vp_in; decide) _ rfl) (cwV 1 hts gX9_owner_X9_refuse rfl rfl rfl (by decide +kernel) ⟨Nat.le_of_ble_eq_true rfl, Nat.le_of_ble_eq_true rfl⟩) ⟨pw_blind, va_recv hK hP (ci := 9) (q0 := 0) rfl wm_0, pw_give hP hK hD⟩ rfl rfl hl.1 rfl (lv_room (Nat.le_of_ble_eq_true rfl)) dX9_owner_7 ⟨Nat.le_of_ble_eq_true rfl, Nat.le_of_ble_eq_true rfl⟩) hS (fun q _ h => hF q h) hF (fun r_8 u t H1 locs ht hvm hw hB hz1 hk1 hS => ?_)
    subst hw
    obtain ⟨hB, hI_9⟩ := hB
    obtain ⟨hP, hD⟩ := pw_back hF ht hB
    clear hB hk1 hz1 hF
    generalize H1 = H at hP hS ⊢
    have hI9 : IR ((s_X9_refuse σ (-4 : Int32)).2) := hI_9
    subst hR
    rw [hQ]
    exact W.iret (v := ((s_X9_refuse σ (-4 : Int32)).1)) hx hb hr (fun t ht hW => ⟨⟨((s_X9_refuse σ (-4 : Int32)).1), (), rfl, rfl, ⟨by rw [ht]; exact hP, va_K.moved hW.alike hK, by rw [← hAe]; exact hD⟩, hI9⟩, hS.F ht⟩) hS.2.2 dX9_owner_10

def s_X9_house (σ : St) (a1 : Int32) : Int32 × St := (if (s_X9_isIn a1 (σ 3 0)) = (0 : Int32) then (((s_X9_refuse σ (-1 : Int32)).1), (s_X9_refuse σ (-1 : Int32)).2) else (if (σ 4 0) = (10 : Int32) then (((s_X9_refuse σ (-6 : Int32)).1), (s_X9_refuse σ (-6 : Int32)).2) else ((((σ 4 0) + (1 : Int32)) - (1 : Int32)), (put (put σ 21 ((σ 4 0).toNatClampNeg) a1) 4 0 ((σ 4 0) + (1 : Int32))))))
theorem fr_s_X9_house (σ : St) (a1 : Int32) {f : Nat} (h0 : f ≠ 0) (h4 : f ≠ 4) (h21 : f ≠ 21) : (s_X9_house σ a1 ).2 f = σ f := by
  unfold s_X9_house
  all_goals ((try dsimp only) <;> ((repeat' split) <;> (try simp only [put_fr, ne_eq, not_false_eq_true, h0, h4, h21, fr_s_X9_refuse])))
set_option maxHeartbeats 1000000 in
set_option maxRecDepth 100000 in
theorem k_X9_house (l : Launch) (D : va_G) (ca : Nat → ClassId) (h : Nat) (ad : Nat → Nat) (σ : St) (a1 : Int32) (sz : Nat) (hI : IR σ)  (R : Int32 × St) (hR : s_X9_house σ a1 = R) : Met l yX9_house wsX9_house ({ frames := 1, cells := 0, slots := 0, locals := 21 }) (va_Pc [.ref h, .int a1] (pw_pre D ca (WM ca h ad σ) sz)) (va_Qi (fun (r : Int32) (_ : Unit) => r = R.1) (fun (_ : Unit) (t : State) => pw_post D ca (WM ca h ad σ) sz (WM ca h ad (R.2)) t ∧ IR R.2) (va_A (WM ca h ad σ) sz)) 0 0 (va_A (WM ca h ad σ) sz) := by
  refine Met.ofW (cc := cX9_house) (maxL := 2) (ret := (some .int)) (by decide) rfl ?_
  intro p e s m args below meth c s₁ B hml hv
  obtain ⟨rfl, hsz, hP, hK, hD0⟩ := hv
  have hx := B.exec
  have hb := B.bytes
  have hr := B.returns
  have hts := atoms_spec (ws := wsX9_house) B.pre
  have hown : s.vm.findClass RX9 = some m.cls := findClass_of_methodNamed B.named
  have hlocks := B.notSynchronized
  have hu9 : ∀ w ∈ u_ws RX9 TX9 51, w ∈ wsX9_house := fun w h => List.mem_cons_of_mem _ (uw9 w h)
  subst hsz
  have hD := hD0.self (sz := s.heap.size)
  obtain ⟨A, hAe⟩ : ∃ A, A = va_A (WM ca h ad σ) s.heap.size := ⟨_, rfl⟩
  rw [← hAe] at hD ⊢
  have hA : ∀ q : Nat, s.heap.size ≤ q → A q := fun q h => by rw [hAe]; exact Or.inr h
  have hS : va_S A s.heap s.heap [] := va_S.rf
  have hl := lv_entry ([.ref h, .int a1]) (n := 2) (Nat.le_of_ble_eq_true rfl)
  rw [lg_entry_eq]
  generalize (lg_sl ([.ref h, .int a1]) ++ List.replicate (2 - (lg_sl ([.ref h, .int a1])).length) Slot.unset).toArray = ls at hl ⊢
  have hl : lv_has ls 2 [(0, .ref h), (1, .int a1)] := hl
  obtain ⟨H, hH⟩ : ∃ H, H = s.heap := ⟨_, rfl⟩
  have hP : va_P D vwCl (WM ca h ad σ) H := by rw [hH]; exact hP
  have hS : va_S A s.heap H [] := by rw [hH]; exact hS
  obtain ⟨QQ, hQ⟩ : ∃ Q9, Q9 = MQ below (va_Qi (fun (r : Int32) (_ : Unit) => r = R.1) (fun (_ : Unit) (t : State) => pw_post D ca (WM ca h ad σ) s.heap.size (WM ca h ad (R.2)) t ∧ IR R.2) A) ([.ref h, .int a1] : List Value).toArray s 0 0 A := ⟨_, rfl⟩
  rw [← hQ]
  show W _ _ _ _ _ _ _ _ _ _ s.heap _ _ _ _ _
  rw [← hH]
  have hR : (if (s_X9_isIn a1 (σ 3 0)) = (0 : Int32) then (((s_X9_refuse σ (-1 : Int32)).1), (s_X9_refuse σ (-1 : Int32)).2) else (if (σ 4 0) = (10 : Int32) then (((s_X9_refuse σ (-6 : Int32)).1), (s_X9_refuse σ (-6 : Int32)).2) else ((((σ 4 0) + (1 : Int32)) - (1 : Int32)), (put (put σ 21 ((σ 4 0).toNatClampNeg) a1) 4 0 ((σ 4 0) + (1 : Int32)))))) = R := hR
  refine lv_iload_n hx hb dX9_house_0 rfl (lv_at hl 1 rfl) ?_
  refine lv_aload_n hx hb dX9_house_1 rfl (lv_at hl 0 rfl) ?_
  refine va_get (D := D) (ci := 9) (v := .int (σ 3 0)) (C := RX9) (T := TX9) (N := 51) hx hb hts hu9 hown hK hP 0 wm_0 rfl 3 (by decide) (hts (.fieldLink RX9 131 "GrazeBookModel" "owners" "I") (List.mem_cons_of_mem _ mw_786)) (fun _ h9 => h9) rfl dX9_house_2 ?_
  have hF := pw_free (pn_D (A := A)) hS hA
  refine va_calli (va_runS (As := [.int a1, .int (σ 3 0)]) (rest := []) ⟨hx, hb, hml, hown, hts⟩ (k_X9_isIn l D ca a1 (σ 3 0) H.size _ rfl) (va_cwS 2 hts gX9_house_X9_isIn rfl rfl rfl (by decide +kernel) ⟨Nat.le_of_ble_eq_true rfl, Nat.le_of_ble_eq_true rfl⟩) ⟨pw_blind, pw_give pn_P hK (pn_D (A := A))⟩ rfl rfl hl.1 rfl (lv_room (Nat.le_of_ble_eq_true rfl)) dX9_house_5 ⟨Nat.le_of_ble_eq_true rfl, Nat.le_of_ble_eq_true rfl⟩) hS (fun q _ h => hF q h) hF (fun r_1 u t H1 locs ht hvm hw hB hz1 hk1 hS => ?_)
  subst hw
  have hP := pn_back hP hk1
  clear hB hk1 hz1 hF
  generalize H1 = H at hP hS ⊢
  refine lv_if_ne (tgt := 17) hx hb dX9_house_8 (by decide) (fun c_2 => ?_) (fun c_2 => ?_)
  · have hR := (if_neg c_2).symm.trans hR
    refine lv_aload_n hx hb dX9_house_17 rfl (lv_at hl 0 rfl) ?_
    refine va_get (D := D) (ci := 9) (v := .int (σ 4 0)) (C := RX9) (T := TX9) (N := 51) hx hb hts hu9 hown hK hP 0 wm_0 rfl 4 (by decide) (hts (.fieldLink RX9 138 "GrazeBookModel" "houses" "I") (List.mem_cons_of_mem _ mw_787)) (fun _ h9 => h9) rfl dX9_house_18 ?_
    refine lv_bipush (v := (10 : Int32)) hx hb dX9_house_21 (by decide) ?_
    refine lv_icmp_ne (tgt := 33) hx hb dX9_house_23 (by decide) (fun c_3 => ?_) (fun c_3 => ?_)
    · have hR := (if_neg c_3).symm.trans hR
      refine lv_aload_n hx hb dX9_house_33 rfl (lv_at hl 0 rfl) ?_
      refine va_get (D := D) (ci := 9) (v := .ref (ad 21)) (C := RX9) (T := TX9) (N := 51) hx hb hts hu9 hown hK hP 0 wm_0 rfl 21 (by decide) (hts (.fieldLink RX9 38 "GrazeBookModel" "houseOf" "[I") (List.mem_cons_of_mem _ mw_804)) (fun _ h9 => h9) rfl dX9_house_34 ?_
      refine lv_aload_n hx hb dX9_house_37 rfl (lv_at hl 0 rfl) ?_
      refine va_get (D := D) (ci := 9) (v := .int (σ 4 0)) (C := RX9) (T := TX9) (N := 51) hx hb hts hu9 hown hK hP 0 wm_0 rfl 4 (by decide) (hts (.fieldLink RX9 138 "GrazeBookModel" "houses" "I") (List.mem_cons_of_mem _ mw_787)) (fun _ h9 => h9) rfl dX9_house_38 ?_
      refine lv_iload_n hx hb dX9_house_41 rfl (lv_at hl 1 rfl) ?_
      refine va_iast_k (k := ((σ 4 0).toNatClampNeg)) hx hb hK hP hD hS 10 0 wm_a21 rfl rfl (ix_cnt (ir_4 hI) c_3 (by decide)) dX9_house_42 (fun H locs hP hD hS => ?_)
      rw [wm_s21] at hP hD
      refine lv_aload_n hx hb dX9_house_43 rfl (lv_at hl 0 rfl) ?_
      refine lv_dup hx hb dX9_house_44 rfl ?_
      refine va_get (D := D) (ci := 9) (v := .int (σ 4 0)) (C := RX9) (T := TX9) (N := 51) hx hb hts hu9 hown hK hP 0 wm_0 rfl 4 (by decide) (hts (.fieldLink RX9 138 "GrazeBookModel" "houses" "I") (List.mem_cons_of_mem _ mw_787)) (fun _ h9 => h9) rfl dX9_house_45 ?_
      refine lv_iconst (v := (1 : Int32)) hx hb dX9_house_48 (by decide) ?_
      refine lv_iadd hx hb dX9_house_49 ?_
      refine va_put (D := D) (ci := 9) (v := .int ((σ 4 0) + (1 : Int32))) (ty := .int) (C := RX9) (T := TX9) (N := 51) hx hb hts hu9 tyX9 tyX9_ok nmX9 hown hK hP hD hS 0 wm_0 rfl 4 (by decide) (hts (.fieldLink RX9 138 "GrazeBookModel" "houses" "I") (List.mem_cons_of_mem _ mw_787)) (fun _ h9 => h9) rfl (by decide +kernel) rfl rfl (Nat.le_of_ble_eq_true rfl) dX9_house_50 (fun H locs hP hD hS => ?_)
      rw [wm_p4] at hP hD
      refine lv_aload_n hx hb dX9_house_53 rfl (lv_at hl 0 rfl) ?_
      refine va_get (D := D) (ci := 9) (v := .int ((σ 4 0) + (1 : Int32))) (C := RX9) (T := TX9) (N := 51) hx hb hts hu9 hown hK hP 0 wm_0 rfl 4 (by decide) (hts (.fieldLink RX9 138 "GrazeBookModel" "houses" "I") (List.mem_cons_of_mem _ mw_787)) (fun _ h9 => h9) rfl dX9_house_54 ?_
      refine lv_iconst (v := (1 : Int32)) hx hb dX9_house_57 (by decide) ?_
      refine lv_isub hx hb dX9_house_58 ?_
      have hI9 : IR (put (put σ 21 ((σ 4 0).toNatClampNeg) a1) 4 0 ((σ 4 0) + (1 : Int32))) := (ir_put4 (σ := (put σ 21 ((σ 4 0).toNatClampNeg) a1)) hI (inc_ok (ir_4 hI) c_3 (by decide) (by decide)))
      subst hR
      rw [hQ]
      exact W.iret (v := (((σ 4 0) + (1 : Int32)) - (1 : Int32))) hx hb hr (fun t ht hW => ⟨⟨(((σ 4 0) + (1 : Int32)) - (1 : Int32)), (), rfl, rfl, ⟨by rw [ht]; exact hP, va_K.moved hW.alike hK, by rw [← hAe]; exact hD⟩, hI9⟩, hS.F ht⟩) hS.2.2 dX9_house_59
    · have hR := (if_pos c_3).symm.trans hR
      refine lv_aload_n hx hb dX9_house_26 rfl (lv_at hl 0 rfl) ?_
      refine lv_bipush (v := (-6 : Int32)) hx hb dX9_house_27 (by decide) ?_
      have hF := pw_free hD hS hA
      refine va_calli (va_runV (As := [.int (-6 : Int32)]) (rest := []) ⟨hx, hb, hml, hown, hts⟩ (k_X9_refuse l D ca h ad σ (-6 : Int32) H.size hI (by unfold vp_in; decide) _ rfl) (cwV 1 hts gX9_house_X9_refuse rfl rfl rfl (by decide +kernel) ⟨Nat.le_of_ble_eq_true rfl, Nat.le_of_ble_eq_true rfl⟩) ⟨pw_blind, va_recv hK hP (ci := 9) (q0 := 0) rfl wm_0, pw_give hP hK hD⟩ rfl rfl hl.1 rfl (lv_room (Nat.le_of_ble_eq_true rfl)) dX9_house_29 ⟨Nat.le_of_ble_eq_true rfl, Nat.le_of_ble_eq_true rfl⟩) hS (fun q _ h => hF q h) hF (fun r_4 u t H1 locs ht hvm hw hB hz1 hk1 hS => ?_)
      subst hw
      obtain ⟨hB, hI_5⟩ := hB
      obtain ⟨hP, hD⟩ := pw_back hF ht hB
      clear hB hk1 hz1 hF
      generalize H1 = H at hP hS ⊢
      have hI9 : IR ((s_X9_refuse σ (-6 : Int32)).2) := hI_5
      subst hR
      rw [hQ]
      exact W.iret (v := ((s_X9_refuse σ (-6 : Int32)).1)) hx hb hr (fun t ht hW => ⟨⟨((s_X9_refuse σ (-6 : Int32)).1), (), rfl, rfl, ⟨by rw [ht]; exact hP, va_K.moved hW.alike hK, by rw [← hAe]; exact hD⟩, hI9⟩, hS.F ht⟩) hS.2.2 dX9_house_32
  · have hR := (if_pos c_2).symm.trans hR
    refine lv_aload_n hx hb dX9_house_11 rfl (lv_at hl 0 rfl) ?_
    refine lv_iconst (v := (-1 : Int32)) hx hb dX9_house_12 (by decide) ?_
    have hF := pw_free hD hS hA
    refine va_calli (va_runV (As := [.int (-1 : Int32)]) (rest := []) ⟨hx, hb, hml, hown, hts⟩ (k_X9_refuse l D ca h ad σ (-1 : Int32) H.size hI (by unfold vp_in; decide) _ rfl) (cwV 1 hts gX9_house_X9_refuse rfl rfl rfl (by decide +kernel) ⟨Nat.le_of_ble_eq_true rfl, Nat.le_of_ble_eq_true rfl⟩) ⟨pw_blind, va_recv hK hP (ci := 9) (q0 := 0) rfl wm_0, pw_give hP hK hD⟩ rfl rfl hl.1 rfl (lv_room (Nat.le_of_ble_eq_true rfl)) dX9_house_13 ⟨Nat.le_of_ble_eq_true rfl, Nat.le_of_ble_eq_true rfl⟩) hS (fun q _ h => hF q h) hF (fun r_6 u t H1 locs ht hvm hw hB hz1 hk1 hS => ?_)
    subst hw
    obtain ⟨hB, hI_7⟩ := hB
    obtain ⟨hP, hD⟩ := pw_back hF ht hB
    clear hB hk1 hz1 hF
    generalize H1 = H at hP hS ⊢
    have hI9 : IR ((s_X9_refuse σ (-1 : Int32)).2) := hI_7
    subst hR
    rw [hQ]
    exact W.iret (v := ((s_X9_refuse σ (-1 : Int32)).1)) hx hb hr (fun t ht hW => ⟨⟨((s_X9_refuse σ (-1 : Int32)).1), (), rfl, rfl, ⟨by rw [ht]; exact hP, va_K.moved hW.alike hK, by rw [← hAe]; exact hD⟩, hI9⟩, hS.F ht⟩) hS.2.2 dX9_house_16

def s_X9_rate (σ : St) (a1 : Int32) (a2 : Int32) (a3 : Int32) : Int32 × St := (if (s_X9_isIn a1 (10 : Int32)) = (0 : Int32) then (((s_X9_refuse σ (-2 : Int32)).1), (s_X9_refuse σ (-2 : Int32)).2) else (if (s_X9_isIn a2 (10 : Int32)) = (0 : Int32) then (((s_X9_refuse σ (-2 : Int32)).1), (s_X9_refuse σ (-2 : Int32)).2) else (if (0 : Int32) ≤ a3 then (if a3 ≤ (1000 : Int32) then ((σ 22 ((((10 : Int32) * a1) + a2).toNatClampNeg)), (put σ 22 ((((10 : Int32) * a1) + a2).toNatClampNeg) a3)) else (((s_X9_refuse σ (-6 : Int32)).1), (s_X9_refuse σ (-6 : Int32)).2)) else (((s_X9_refuse σ (-4 : Int32)).1), (s_X9_refuse σ (-4 : Int32)).2))))
theorem fr_s_X9_rate (σ : St) (a1 : Int32) (a2 : Int32) (a3 : Int32) {f : Nat} (h0 : f ≠ 0) (h22 : f ≠ 22) : (s_X9_rate σ a1 a2 a3 ).2 f = σ f := by
  unfold s_X9_rate
  all_goals ((try dsimp only) <;> ((repeat' split) <;> (try simp only [put_fr, ne_eq, not_false_eq_true, h0, h22, fr_s_X9_refuse])))
set_option maxHeartbeats 1000000 in
set_option maxRecDepth 100000 in
theorem k_X9_rate (l : Launch) (D : va_G) (ca : Nat → ClassId) (h : Nat) (ad : Nat → Nat) (σ : St) (a1 : Int32) (a2 : Int32) (a3 : Int32) (sz : Nat) (hI : IR σ)  (R : Int32 × St) (hR : s_X9_rate σ a1 a2 a3 = R) : Met l yX9_rate wsX9_rate ({ frames := 1, cells := 0, slots := 0, locals := 21 }) (va_Pc [.ref h, .int a1, .int a2, .int a3] (pw_pre D ca (WM ca h ad σ) sz)) (va_Qi (fun (r : Int32) (_ : Unit) => r = R.1) (fun (_ : Unit) (t : State) => pw_post D ca (WM ca h ad σ) sz (WM ca h ad (R.2)) t ∧ IR R.2) (va_A (WM ca h ad σ) sz)) 0 0 (va_A (WM ca h ad σ) sz) := by
  refine Met.ofW (cc := cX9_rate) (maxL := 5) (ret := (some .int)) (by decide) rfl ?_
  intro p e s m args below meth c s₁ B hml hv
  obtain ⟨rfl, hsz, hP, hK, hD0⟩ := hv
  have hx := B.exec
  have hb := B.bytes
  have hr := B.returns
  have hts := atoms_spec (ws := wsX9_rate) B.pre
  have hown : s.vm.findClass RX9 = some m.cls := findClass_of_methodNamed B.named
  have hlocks := B.notSynchronized
  have hu9 : ∀ w ∈ u_ws RX9 TX9 51, w ∈ wsX9_rate := fun w h => List.mem_cons_of_mem _ (uw9 w h)
  subst hsz
  have hD := hD0.self (sz := s.heap.size)
  obtain ⟨A, hAe⟩ : ∃ A, A = va_A (WM ca h ad σ) s.heap.size := ⟨_, rfl⟩
  rw [← hAe] at hD ⊢
  have hA : ∀ q : Nat, s.heap.size ≤ q → A q := fun q h => by rw [hAe]; exact Or.inr h
  have hS : va_S A s.heap s.heap [] := va_S.rf
  have hl := lv_entry ([.ref h, .int a1, .int a2, .int a3]) (n := 5) (Nat.le_of_ble_eq_true rfl)
  rw [lg_entry_eq]
  generalize (lg_sl ([.ref h, .int a1, .int a2, .int a3]) ++ List.replicate (5 - (lg_sl ([.ref h, .int a1, .int a2, .int a3])).length) Slot.unset).toArray = ls at hl ⊢
  have hl : lv_has ls 5 [(0, .ref h), (1, .int a1), (2, .int a2), (3, .int a3)] := hl
  obtain ⟨H, hH⟩ : ∃ H, H = s.heap := ⟨_, rfl⟩
  have hP : va_P D vwCl (WM ca h ad σ) H := by rw [hH]; exact hP
  have hS : va_S A s.heap H [] := by rw [hH]; exact hS
  obtain ⟨QQ, hQ⟩ : ∃ Q9, Q9 = MQ below (va_Qi (fun (r : Int32) (_ : Unit) => r = R.1) (fun (_ : Unit) (t : State) => pw_post D ca (WM ca h ad σ) s.heap.size (WM ca h ad (R.2)) t ∧ IR R.2) A) ([.ref h, .int a1, .int a2, .int a3] : List Value).toArray s 0 0 A := ⟨_, rfl⟩
  rw [← hQ]
  show W _ _ _ _ _ _ _ _ _ _ s.heap _ _ _ _ _
  rw [← hH]
  have hR : (if (s_X9_isIn a1 (10 : Int32)) = (0 : Int32) then (((s_X9_refuse σ (-2 : Int32)).1), (s_X9_refuse σ (-2 : Int32)).2) else (if (s_X9_isIn a2 (10 : Int32)) = (0 : Int32) then (((s_X9_refuse σ (-2 : Int32)).1), (s_X9_refuse σ (-2 : Int32)).2) else (if (0 : Int32) ≤ a3 then (if a3 ≤ (1000 : Int32) then ((σ 22 ((((10 : Int32) * a1) + a2).toNatClampNeg)), (put σ 22 ((((10 : Int32) * a1) + a2).toNatClampNeg) a3)) else (((s_X9_refuse σ (-6 : Int32)).1), (s_X9_refuse σ (-6 : Int32)).2)) else (((s_X9_refuse σ (-4 : Int32)).1), (s_X9_refuse σ (-4 : Int32)).2)))) = R := hR
  refine lv_iload_n hx hb dX9_rate_0 rfl (lv_at hl 1 rfl) ?_
  refine lv_bipush (v := (10 : Int32)) hx hb dX9_rate_1 (by decide) ?_
  have hF := pw_free (pn_D (A := A)) hS hA
  refine va_calli (va_runS (As := [.int a1, .int (10 : Int32)]) (rest := []) ⟨hx, hb, hml, hown, hts⟩ (k_X9_isIn l D ca a1 (10 : Int32) H.size _ rfl) (va_cwS 2 hts gX9_rate_X9_isIn rfl rfl rfl (by decide +kernel) ⟨Nat.le_of_ble_eq_true rfl, Nat.le_of_ble_eq_true rfl⟩) ⟨pw_blind, pw_give pn_P hK (pn_D (A := A))⟩ rfl rfl hl.1 rfl (lv_room (Nat.le_of_ble_eq_true rfl)) dX9_rate_3 ⟨Nat.le_of_ble_eq_true rfl, Nat.le_of_ble_eq_true rfl⟩) hS (fun q _ h => hF q h) hF (fun r_1 u t H1 locs ht hvm hw hB hz1 hk1 hS => ?_)
  subst hw
  have hP := pn_back hP hk1
  clear hB hk1 hz1 hF
  generalize H1 = H at hP hS ⊢
  refine lv_if_eq (tgt := 18) hx hb dX9_rate_6 (by decide) (fun c_2 => ?_) (fun c_2 => ?_)
  · have hR := (if_pos c_2).symm.trans hR
    refine lv_aload_n hx hb dX9_rate_18 rfl (lv_at hl 0 rfl) ?_
    refine lv_bipush (v := (-2 : Int32)) hx hb dX9_rate_19 (by decide) ?_
    have hF := pw_free hD hS hA
    refine va_calli (va_runV (As := [.int (-2 : Int32)]) (rest := []) ⟨hx, hb, hml, hown, hts⟩ (k_X9_refuse l D ca h ad σ (-2 : Int32) H.size hI (by unfold vp_in; decide) _ rfl) (cwV 1 hts gX9_rate_X9_refuse rfl rfl rfl (by decide +kernel) ⟨Nat.le_of_ble_eq_true rfl, Nat.le_of_ble_eq_true rfl⟩) ⟨pw_blind, va_recv hK hP (ci := 9) (q0 := 0) rfl wm_0, pw_give hP hK hD⟩ rfl rfl hl.1 rfl (lv_room (Nat.le_of_ble_eq_true rfl)) dX9_rate_21 ⟨Nat.le_of_ble_eq_true rfl, Nat.le_of_ble_eq_true rfl⟩) hS (fun q _ h => hF q h) hF (fun r_3 u t H1 locs ht hvm hw hB hz1 hk1 hS => ?_)
    subst hw
    obtain ⟨hB, hI_4⟩ := hB
    obtain ⟨hP, hD⟩ := pw_back hF ht hB
    clear hB hk1 hz1 hF
    generalize H1 = H at hP hS ⊢
    have hI9 : IR ((s_X9_refuse σ (-2 : Int32)).2) := hI_4
    subst hR
    rw [hQ]
    exact W.iret (v := ((s_X9_refuse σ (-2 : Int32)).1)) hx hb hr (fun t ht hW => ⟨⟨((s_X9_refuse σ (-2 : Int32)).1), (), rfl, rfl, ⟨by rw [ht]; exact hP, va_K.moved hW.alike hK, by rw [← hAe]; exact hD⟩, hI9⟩, hS.F ht⟩) hS.2.2 dX9_rate_24
  · have hR := (if_neg c_2).symm.trans hR
    refine lv_iload_n hx hb dX9_rate_9 rfl (lv_at hl 2 rfl) ?_
    refine lv_bipush (v := (10 : Int32)) hx hb dX9_rate_10 (by decide) ?_
    have hF := pw_free (pn_D (A := A)) hS hA
    refine va_calli (va_runS (As := [.int a2, .int (10 : Int32)]) (rest := []) ⟨hx, hb, hml, hown, hts⟩ (k_X9_isIn l D ca a2 (10 : Int32) H.size _ rfl) (va_cwS 2 hts gX9_rate_X9_isIn rfl rfl rfl (by decide +kernel) ⟨Nat.le_of_ble_eq_true rfl, Nat.le_of_ble_eq_true rfl⟩) ⟨pw_blind, pw_give pn_P hK (pn_D (A := A))⟩ rfl rfl hl.1 rfl (lv_room (Nat.le_of_ble_eq_true rfl)) dX9_rate_12 ⟨Nat.le_of_ble_eq_true rfl, Nat.le_of_ble_eq_true rfl⟩) hS (fun q _ h => hF q h) hF (fun r_5 u t H1 locs ht hvm hw hB hz1 hk1 hS => ?_)
    subst hw
    have hP := pn_back hP hk1
    clear hB hk1 hz1 hF
    generalize H1 = H at hP hS ⊢
    refine lv_if_ne (tgt := 25) hx hb dX9_rate_15 (by decide) (fun c_6 => ?_) (fun c_6 => ?_)
    · have hR := (if_neg c_6).symm.trans hR
      refine lv_iload_n hx hb dX9_rate_25 rfl (lv_at hl 3 rfl) ?_
      refine lv_if_ge (tgt := 36) hx hb dX9_rate_26 (by decide) (fun c_7 => ?_) (fun c_7 => ?_)
      · have hR := (if_pos c_7).symm.trans hR
        refine lv_iload_n hx hb dX9_rate_36 rfl (lv_at hl 3 rfl) ?_
        refine lv_sipush (v := (1000 : Int32)) hx hb dX9_rate_37 (by decide) ?_
        refine lv_icmp_le (tgt := 50) hx hb dX9_rate_40 (by decide) (fun c_8 => ?_) (fun c_8 => ?_)
        · have hR := (if_pos c_8).symm.trans hR
          refine lv_aload_n hx hb dX9_rate_50 rfl (lv_at hl 0 rfl) ?_
          refine va_get (D := D) (ci := 9) (v := .ref (ad 22)) (C := RX9) (T := TX9) (N := 51) hx hb hts hu9 hown hK hP 0 wm_0 rfl 22 (by decide) (hts (.fieldLink RX9 41 "GrazeBookModel" "rates" "[I") (List.mem_cons_of_mem _ mw_805)) (fun _ h9 => h9) rfl dX9_rate_51 ?_
          refine lv_bipush (v := (10 : Int32)) hx hb dX9_rate_54 (by decide) ?_
          refine lv_iload_n hx hb dX9_rate_56 rfl (lv_at hl 1 rfl) ?_
          refine lv_imul hx hb dX9_rate_57 ?_
          refine lv_iload_n hx hb dX9_rate_58 rfl (lv_at hl 2 rfl) ?_
          refine lv_iadd hx hb dX9_rate_59 ?_
          refine va_iald_k (k := ((((10 : Int32) * a1) + a2).toNatClampNeg)) (v := (σ 22 ((((10 : Int32) * a1) + a2).toNatClampNeg))) hx hb hK hP 11 0 wm_a22 rfl rfl rfl (ix_rate (ix_isIn c_2 (show 0 ≤ (10 : Int32).toInt ∧ (10 : Int32).toInt ≤ ((10 : Nat) : Int) by decide)) (ix_isIn c_6 (show 0 ≤ (10 : Int32).toInt ∧ (10 : Int32).toInt ≤ ((10 : Nat) : Int) by decide))) dX9_rate_60 ?_
          refine lv_istore (lv' := [(4, .int (σ 22 ((((10 : Int32) * a1) + a2).toNatClampNeg))), (0, .ref h), (1, .int a1), (2, .int a2), (3, .int a3)]) hx hb dX9_rate_61 hl (by decide) rfl (fun ls hl => ?_)
          refine lv_aload_n hx hb dX9_rate_63 rfl (lv_at hl 1 rfl) ?_
          refine va_get (D := D) (ci := 9) (v := .ref (ad 22)) (C := RX9) (T := TX9) (N := 51) hx hb hts hu9 hown hK hP 0 wm_0 rfl 22 (by decide) (hts (.fieldLink RX9 41 "GrazeBookModel" "rates" "[I") (List.mem_cons_of_mem _ mw_805)) (fun _ h9 => h9) rfl dX9_rate_64 ?_
          refine lv_bipush (v := (10 : Int32)) hx hb dX9_rate_67 (by decide) ?_
          refine lv_iload_n hx hb dX9_rate_69 rfl (lv_at hl 2 rfl) ?_
          refine lv_imul hx hb dX9_rate_70 ?_
          refine lv_iload_n hx hb dX9_rate_71 rfl (lv_at hl 3 rfl) ?_
          refine lv_iadd hx hb dX9_rate_72 ?_
          refine lv_iload_n hx hb dX9_rate_73 rfl (lv_at hl 4 rfl) ?_
          refine va_iast_k (k := ((((10 : Int32) * a1) + a2).toNatClampNeg)) hx hb hK hP hD hS 11 0 wm_a22 rfl rfl (ix_rate (ix_isIn c_2 (show 0 ≤ (10 : Int32).toInt ∧ (10 : Int32).toInt ≤ ((10 : Nat) : Int) by decide)) (ix_isIn c_6 (show 0 ≤ (10 : Int32).toInt ∧ (10 : Int32).toInt ≤ ((10 : Nat) : Int) by decide))) dX9_rate_74 (fun H locs hP hD hS => ?_)
          rw [wm_s22] at hP hD
          refine lv_iload hx hb dX9_rate_75 (lv_at hl 0 rfl) ?_
          have hI9 : IR (put σ 22 ((((10 : Int32) * a1) + a2).toNatClampNeg) a3) := hI
          subst hR
          rw [hQ]
          exact W.iret (v := (σ 22 ((((10 : Int32) * a1) + a2).toNatClampNeg))) hx hb hr (fun t ht hW => ⟨⟨(σ 22 ((((10 : Int32) * a1) + a2).toNatClampNeg)), (), rfl, rfl, ⟨by rw [ht]; exact hP, va_K.moved hW.alike hK, by rw [← hAe]; exact hD⟩, hI9⟩, hS.F ht⟩) hS.2.2 dX9_rate_77
        · have hR := (if_neg c_8).symm.trans hR
          refine lv_aload_n hx hb dX9_rate_43 rfl (lv_at hl 0 rfl) ?_
          refine lv_bipush (v := (-6 : Int32)) hx hb dX9_rate_44 (by decide) ?_
          have hF := pw_free hD hS hA
          refine va_calli (va_runV (As := [.int (-6 : Int32)]) (rest := []) ⟨hx, hb, hml, hown, hts⟩ (k_X9_refuse l D ca h ad σ (-6 : Int32) H.size hI (by unfold vp_in; decide) _ rfl) (cwV 1 hts gX9_rate_X9_refuse rfl rfl rfl (by decide +kernel) ⟨Nat.le_of_ble_eq_true rfl, Nat.le_of_ble_eq_true rfl⟩) ⟨pw_blind, va_recv hK hP (ci := 9) (q0 := 0) rfl wm_0, pw_give hP hK hD⟩ rfl rfl hl.1 rfl (lv_room (Nat.le_of_ble_eq_true rfl)) dX9_rate_46 ⟨Nat.le_of_ble_eq_true rfl, Nat.le_of_ble_eq_true rfl⟩) hS (fun q _ h => hF q h) hF (fun r_9 u t H1 locs ht hvm hw hB hz1 hk1 hS => ?_)
          subst hw
          obtain ⟨hB, hI_10⟩ := hB
          obtain ⟨hP, hD⟩ := pw_back hF ht hB
          clear hB hk1 hz1 hF
          generalize H1 = H at hP hS ⊢
          have hI9 : IR ((s_X9_refuse σ (-6 : Int32)).2) := hI_10
          subst hR
          rw [hQ]
          exact W.iret (v := ((s_X9_refuse σ (-6 : Int32)).1)) hx hb hr (fun t ht hW => ⟨⟨((s_X9_refuse σ (-6 : Int32)).1), (), rfl, rfl, ⟨by rw [ht]; exact hP, va_K.moved hW.alike hK, by rw [← hAe]; exact hD⟩, hI9⟩, hS.F ht⟩) hS.2.2 dX9_rate_49
      · have hR := (if_neg c_7).symm.trans hR
        refine lv_aload_n hx hb dX9_rate_29 rfl (lv_at hl 0 rfl) ?_
        refine lv_bipush (v := (-4 : Int32)) hx hb dX9_rate_30 (by decide) ?_
        have hF := pw_free hD hS hA
        refine va_calli (va_runV (As := [.int (-4 : Int32)]) (rest := []) ⟨hx, hb, hml, hown, hts⟩ (k_X9_refuse l D ca h ad σ (-4 : Int32) H.size hI (by unfold vp_in; decide) _ rfl) (cwV 1 hts gX9_rate_X9_refuse rfl rfl rfl (by decide +kernel) ⟨Nat.le_of_ble_eq_true rfl, Nat.le_of_ble_eq_true rfl⟩) ⟨pw_blind, va_recv hK hP (ci := 9) (q0 := 0) rfl wm_0, pw_give hP hK hD⟩ rfl rfl hl.1 rfl (lv_room (Nat.le_of_ble_eq_true rfl)) dX9_rate_32 ⟨Nat.le_of_ble_eq_true rfl, Nat.le_of_ble_eq_true rfl⟩) hS (fun q _ h => hF q h) hF (fun r_11 u t H1 locs ht hvm hw hB hz1 hk1 hS => ?_)
        subst hw
        obtain ⟨hB, hI_12⟩ := hB
        obtain ⟨hP, hD⟩ := pw_back hF ht hB
        clear hB hk1 hz1 hF
        generalize H1 = H at hP hS ⊢
        have hI9 : IR ((s_X9_refuse σ (-4 : Int32)).2) := hI_12
        subst hR
        rw [hQ]
        exact W.iret (v := ((s_X9_refuse σ (-4 : Int32)).1)) hx hb hr (fun t ht hW => ⟨⟨((s_X9_refuse σ (-4 : Int32)).1), (), rfl, rfl, ⟨by rw [ht]; exact hP, va_K.moved hW.alike hK, by rw [← hAe]; exact hD⟩, hI9⟩, hS.F ht⟩) hS.2.2 dX9_rate_35
    · have hR := (if_pos c_6).symm.trans hR
      refine lv_aload_n hx hb dX9_rate_18 rfl (lv_at hl 0 rfl) ?_
      refine lv_bipush (v := (-2 : Int32)) hx hb dX9_rate_19 (by decide) ?_
      have hF := pw_free hD hS hA
      refine va_calli (va_runV (As := [.int (-2 : Int32)]) (rest := []) ⟨hx, hb, hml, hown, hts⟩ (k_X9_refuse l D ca h ad σ (-2 : Int32) H.size hI (by unfold vp_in; decide) _ rfl) (cwV 1 hts gX9_rate_X9_refuse rfl rfl rfl (by decide +kernel) ⟨Nat.le_of_ble_eq_true rfl, Nat.le_of_ble_eq_true rfl⟩) ⟨pw_blind, va_recv hK hP (ci := 9) (q0 := 0) rfl wm_0, pw_give hP hK hD⟩ rfl rfl hl.1 rfl (lv_room (Nat.le_of_ble_eq_true rfl)) dX9_rate_21 ⟨Nat.le_of_ble_eq_true rfl, Nat.le_of_ble_eq_true rfl⟩) hS (fun q _ h => hF q h) hF (fun r_13 u t H1 locs ht hvm hw hB hz1 hk1 hS => ?_)
      subst hw
      obtain ⟨hB, hI_14⟩ := hB
      obtain ⟨hP, hD⟩ := pw_back hF ht hB
      clear hB hk1 hz1 hF
      generalize H1 = H at hP hS ⊢
      have hI9 : IR ((s_X9_refuse σ (-2 : Int32)).2) := hI_14
      subst hR
      rw [hQ]
      exact W.iret (v := ((s_X9_refuse σ (-2 : Int32)).1)) hx hb hr (fun t ht hW => ⟨⟨((s_X9_refuse σ (-2 : Int32)).1), (), rfl, rfl, ⟨by rw [ht]; exact hP, va_K.moved hW.alike hK, by rw [← hAe]; exact hD⟩, hI9⟩, hS.F ht⟩) hS.2.2 dX9_rate_24

def s_X9_weather (σ : St) (a1 : Int32) (a2 : Int32) (a3 : Int32) : Int32 × St := (if (s_X9_isIn a2 (10 : Int32)) = (0 : Int32) then (((s_X9_refuse σ (-2 : Int32)).1), (s_X9_refuse σ (-2 : Int32)).2) else (if (s_X9_isIn a3 (10 : Int32)) = (0 : Int32) then (((s_X9_refuse σ (-2 : Int32)).1), (s_X9_refuse σ (-2 : Int32)).2) else (if (0 : Int32) ≤ a1 then (if a1 ≤ (720 : Int32) then ((1 : Int32), (put (put σ 23 (a1.toNatClampNeg) a2) 24 (a1.toNatClampNeg) a3)) else (((s_X9_refuse σ (-6 : Int32)).1), (s_X9_refuse σ (-6 : Int32)).2)) else (((s_X9_refuse σ (-4 : Int32)).1), (s_X9_refuse σ (-4 : Int32)).2))))
theorem fr_s_X9_weather (σ : St) (a1 : Int32) (a2 : Int32) (a3 : Int32) {f : Nat} (h0 : f ≠ 0) (h23 : f ≠ 23) (h24 : f ≠ 24) : (s_X9_weather σ a1 a2 a3 ).2 f = σ f := by
  unfold s_X9_weather
  all_goals ((try dsimp only) <;> ((repeat' split) <;> (try simp only [put_fr, ne_eq, not_false_eq_true, h0, h23, h24, fr_s_X9_refuse])))
set_option maxHeartbeats 1000000 in
set_option maxRecDepth 100000 in
theorem k_X9_weather (l : Launch) (D : va_G) (ca : Nat → ClassId) (h : Nat) (ad : Nat → Nat) (σ : St) (a1 : Int32) (a2 : Int32) (a3 : Int32) (sz : Nat) (hI : IR σ)  (R : Int32 × St) (hR : s_X9_weather σ a1 a2 a3 = R) : Met l yX9_weather wsX9_weather ({ frames := 1, cells := 0, slots := 0, locals := 21 }) (va_Pc [.ref h, .int a1, .int a2, .int a3] (pw_pre D ca (WM ca h ad σ) sz)) (va_Qi (fun (r : Int32) (_ : Unit) => r = R.1) (fun (_ : Unit) (t : State) => pw_post D ca (WM ca h ad σ) sz (WM ca h ad (R.2)) t ∧ IR R.2) (va_A (WM ca h ad σ) sz)) 0 0 (va_A (WM ca h ad σ) sz) := by
  refine Met.ofW (cc := cX9_weather) (maxL := 4) (ret := (some .int)) (by decide) rfl ?_
  intro p e s m args below meth c s₁ B hml hv
  obtain ⟨rfl, hsz, hP, hK, hD0⟩ := hv
  have hx := B.exec
  have hb := B.bytes
  have hr := B.returns
  have hts := atoms_spec (ws := wsX9_weather) B.pre
  have hown : s.vm.findClass RX9 = some m.cls := findClass_of_methodNamed B.named
  have hlocks := B.notSynchronized
  have hu9 : ∀ w ∈ u_ws RX9 TX9 51, w ∈ wsX9_weather := fun w h => List.mem_cons_of_mem _ (uw9 w h)
  subst hsz
  have hD := hD0.self (sz := s.heap.size)
  obtain ⟨A, hAe⟩ : ∃ A, A = va_A (WM ca h ad σ) s.heap.size := ⟨_, rfl⟩
  rw [← hAe] at hD ⊢
  have hA : ∀ q : Nat, s.heap.size ≤ q → A q := fun q h => by rw [hAe]; exact Or.inr h
  have hS : va_S A s.heap s.heap [] := va_S.rf
  have hl := lv_entry ([.ref h, .int a1, .int a2, .int a3]) (n := 4) (Nat.le_of_ble_eq_true rfl)
  rw [lg_entry_eq]
  generalize (lg_sl ([.ref h, .int a1, .int a2, .int a3]) ++ List.replicate (4 - (lg_sl ([.ref h, .int a1, .int a2, .int a3])).length) Slot.unset).toArray = ls at hl ⊢
  have hl : lv_has ls 4 [(0, .ref h), (1, .int a1), (2, .int a2), (3, .int a3)] := hl
  obtain ⟨H, hH⟩ : ∃ H, H = s.heap := ⟨_, rfl⟩
  have hP : va_P D vwCl (WM ca h ad σ) H := by rw [hH]; exact hP
  have hS : va_S A s.heap H [] := by rw [hH]; exact hS
  obtain ⟨QQ, hQ⟩ : ∃ Q9, Q9 = MQ below (va_Qi (fun (r : Int32) (_ : Unit) => r = R.1) (fun (_ : Unit) (t : State) => pw_post D ca (WM ca h ad σ) s.heap.size (WM ca h ad (R.2)) t ∧ IR R.2) A) ([.ref h, .int a1, .int a2, .int a3] : List Value).toArray s 0 0 A := ⟨_, rfl⟩
  rw [← hQ]
  show W _ _ _ _ _ _ _ _ _ _ s.heap _ _ _ _ _
  rw [← hH]
  have hR : (if (s_X9_isIn a2 (10 : Int32)) = (0 : Int32) then (((s_X9_refuse σ (-2 : Int32)).1), (s_X9_refuse σ (-2 : Int32)).2) else (if (s_X9_isIn a3 (10 : Int32)) = (0 : Int32) then (((s_X9_refuse σ (-2 : Int32)).1), (s_X9_refuse σ (-2 : Int32)).2) else (if (0 : Int32) ≤ a1 then (if a1 ≤ (720 : Int32) then ((1 : Int32), (put (put σ 23 (a1.toNatClampNeg) a2) 24 (a1.toNatClampNeg) a3)) else (((s_X9_refuse σ (-6 : Int32)).1), (s_X9_refuse σ (-6 : Int32)).2)) else (((s_X9_refuse σ (-4 : Int32)).1), (s_X9_refuse σ (-4 : Int32)).2)))) = R := hR
  refine lv_iload_n hx hb dX9_weather_0 rfl (lv_at hl 2 rfl) ?_
  refine lv_bipush (v := (10 : Int32)) hx hb dX9_weather_1 (by decide) ?_
  have hF := pw_free (pn_D (A := A)) hS hA
  refine va_calli (va_runS (As := [.int a2, .int (10 : Int32)]) (rest := []) ⟨hx, hb, hml, hown, hts⟩ (k_X9_isIn l D ca a2 (10 : Int32) H.size _ rfl) (va_cwS 2 hts gX9_weather_X9_isIn rfl rfl rfl (by decide +kernel) ⟨Nat.le_of_ble_eq_true rfl, Nat.le_of_ble_eq_true rfl⟩) ⟨pw_blind, pw_give pn_P hK (pn_D (A := A))⟩ rfl rfl hl.1 rfl (lv_room (Nat.le_of_ble_eq_true rfl)) dX9_weather_3 ⟨Nat.le_of_ble_eq_true rfl, Nat.le_of_ble_eq_true rfl⟩) hS (fun q _ h => hF q h) hF (fun r_1 u t H1 locs ht hvm hw hB hz1 hk1 hS => ?_)
  subst hw
  have hP := pn_back hP hk1
  clear hB hk1 hz1 hF
  generalize H1 = H at hP hS ⊢
  refine lv_if_eq (tgt := 18) hx hb dX9_weather_6 (by decide) (fun c_2 => ?_) (fun c_2 => ?_)
  · have hR := (if_pos c_2).symm.trans hR
    refine lv_aload_n hx hb dX9_weather_18 rfl (lv_at hl 0 rfl) ?_
    refine lv_bipush (v := (-2 : Int32)) hx hb dX9_weather_19 (by decide) ?_
    have hF := pw_free hD hS hA
    refine va_calli (va_runV (As := [.int (-2 : Int32)]) (rest := []) ⟨hx, hb, hml, hown, hts⟩ (k_X9_refuse l D ca h ad σ (-2 : Int32) H.size hI (by unfold vp_in; decide) _ rfl) (cwV 1 hts gX9_weather_X9_refuse rfl rfl rfl (by decide +kernel) ⟨Nat.le_of_ble_eq_true rfl, Nat.le_of_ble_eq_true rfl⟩) ⟨pw_blind, va_recv hK hP (ci := 9) (q0 := 0) rfl wm_0, pw_give hP hK hD⟩ rfl rfl hl.1 rfl (lv_room (Nat.le_of_ble_eq_true rfl)) dX9_weather_21 ⟨Nat.le_of_ble_eq_true rfl, Nat.le_of_ble_eq_true rfl⟩) hS (fun q _ h => hF q h) hF (fun r_3 u t H1 locs ht hvm hw hB hz1 hk1 hS => ?_)
    subst hw
    obtain ⟨hB, hI_4⟩ := hB
    obtain ⟨hP, hD⟩ := pw_back hF ht hB
    clear hB hk1 hz1 hF
    generalize H1 = H at hP hS ⊢
    have hI9 : IR ((s_X9_refuse σ (-2 : Int32)).2) := hI_4
    subst hR
    rw [hQ]
    exact W.iret (v := ((s_X9_refuse σ (-2 : Int32)).1)) hx hb hr (fun t ht hW => ⟨⟨((s_X9_refuse σ (-2 : Int32)).1), (), rfl, rfl, ⟨by rw [ht]; exact hP, va_K.moved hW.alike hK, by rw [← hAe]; exact hD⟩, hI9⟩, hS.F ht⟩) hS.2.2 dX9_weather_24
  · have hR := (if_neg c_2).symm.trans hR
    refine lv_iload_n hx hb dX9_weather_9 rfl (lv_at hl 3 rfl) ?_
    refine lv_bipush (v := (10 : Int32)) hx hb dX9_weather_10 (by decide) ?_
    have hF := pw_free (pn_D (A := A)) hS hA
    refine va_calli (va_runS (As := [.int a3, .int (10 : Int32)]) (rest := []) ⟨hx, hb, hml, hown, hts⟩ (k_X9_isIn l D ca a3 (10 : Int32) H.size _ rfl) (va_cwS 2 hts gX9_weather_X9_isIn rfl rfl rfl (by decide +kernel) ⟨Nat.le_of_ble_eq_true rfl, Nat.le_of_ble_eq_true rfl⟩) ⟨pw_blind, pw_give pn_P hK (pn_D (A := A))⟩ rfl rfl hl.1 rfl (lv_room (Nat.le_of_ble_eq_true rfl)) dX9_weather_12 ⟨Nat.le_of_ble_eq_true rfl, Nat.le_of_ble_eq_true rfl⟩) hS (fun q _ h => hF q h) hF (fun r_5 u t H1 locs ht hvm hw hB hz1 hk1 hS => ?_)
    subst hw
    have hP := pn_back hP hk1
    clear hB hk1 hz1 hF
    generalize H1 = H at hP hS ⊢
    refine lv_if_ne (tgt := 25) hx hb dX9_weather_15 (by decide) (fun c_6 => ?_) (fun c_6 => ?_)
    · have hR := (if_neg c_6).symm.trans hR
      refine lv_iload_n hx hb dX9_weather_25 rfl (lv_at hl 1 rfl) ?_
      refine lv_if_ge (tgt := 36) hx hb dX9_weather_26 (by decide) (fun c_7 => ?_) (fun c_7 => ?_)
      · have hR := (if_pos c_7).symm.trans hR
        refine lv_iload_n hx hb dX9_weather_36 rfl (lv_at hl 1 rfl) ?_
        refine lv_sipush (v := (720 : Int32)) hx hb dX9_weather_37 (by decide) ?_
        refine lv_icmp_le (tgt := 50) hx hb dX9_weather_40 (by decide) (fun c_8 => ?_) (fun c_8 => ?_)
        · have hR := (if_pos c_8).symm.trans hR
          refine lv_aload_n hx hb dX9_weather_50 rfl (lv_at hl 0 rfl) ?_
          refine va_get (D := D) (ci := 9) (v := .ref (ad 23)) (C := RX9) (T := TX9) (N := 51) hx hb hts hu9 hown hK hP 0 wm_0 rfl 23 (by decide) (hts (.fieldLink RX9 44 "GrazeBookModel" "rains" "[I") (List.mem_cons_of_mem _ mw_806)) (fun _ h9 => h9) rfl dX9_weather_51 ?_
          refine lv_iload_n hx hb dX9_weather_54 rfl (lv_at hl 1 rfl) ?_
          refine lv_iload_n hx hb dX9_weather_55 rfl (lv_at hl 2 rfl) ?_
          refine va_iast_k (k := (a1.toNatClampNeg)) hx hb hK hP hD hS 12 0 wm_a23 rfl rfl (ix_day c_7 c_8 (by decide)) dX9_weather_56 (fun H locs hP hD hS => ?_)
          rw [wm_s23] at hP hD
          refine lv_aload_n hx hb dX9_weather_57 rfl (lv_at hl 0 rfl) ?_
          refine va_get (D := D) (ci := 9) (v := .ref (ad 24)) (C := RX9) (T := TX9) (N := 51) hx hb hts hu9 hown hK hP 0 wm_0 rfl 24 (by decide) (hts (.fieldLink RX9 47 "GrazeBookModel" "warmths" "[I") (List.mem_cons_of_mem _ mw_807)) (fun _ h9 => h9) rfl dX9_weather_58 ?_
          refine lv_iload_n hx hb dX9_weather_61 rfl (lv_at hl 1 rfl) ?_
          refine lv_iload_n hx hb dX9_weather_62 rfl (lv_at hl 3 rfl) ?_
          refine va_iast_k (k := (a1.toNatClampNeg)) hx hb hK hP hD hS 13 0 wm_a24 rfl rfl (ix_day c_7 c_8 (by decide)) dX9_weather_63 (fun H locs hP hD hS => ?_)
          rw [wm_s24] at hP hD
          refine lv_iconst (v := (1 : Int32)) hx hb dX9_weather_64 (by decide) ?_
          have hI9 : IR (put (put σ 23 (a1.toNatClampNeg) a2) 24 (a1.toNatClampNeg) a3) := (ir_put24 (σ := (put σ 23 (a1.toNatClampNeg) a2)) (ir_put23 (σ := σ) hI (vp_10 (ix_isIn c_2 (show 0 ≤ (10 : Int32).toInt ∧ (10 : Int32).toInt ≤ ((10 : Nat) : Int) by decide)))) (vp_10 (ix_isIn c_6 (show 0 ≤ (10 : Int32).toInt ∧ (10 : Int32).toInt ≤ ((10 : Nat) : Int) by decide))))
          subst hR
          rw [hQ]
          exact W.iret (v := (1 : Int32)) hx hb hr (fun t ht hW => ⟨⟨(1 : Int32), (), rfl, rfl, ⟨by rw [ht]; exact hP, va_K.moved hW.alike hK, by rw [← hAe]; exact hD⟩, hI9⟩, hS.F ht⟩) hS.2.2 dX9_weather_65
        · have hR := (if_neg c_8).symm.trans hR
          refine lv_aload_n hx hb dX9_weather_43 rfl (lv_at hl 0 rfl) ?_
          refine lv_bipush (v := (-6 : Int32)) hx hb dX9_weather_44 (by decide) ?_
          have hF := pw_free hD hS hA
          refine va_calli (va_runV (As := [.int (-6 : Int32)]) (rest := []) ⟨hx, hb, hml, hown, hts⟩ (k_X9_refuse l D ca h ad σ (-6 : Int32) H.size hI (by unfold vp_in; decide) _ rfl) (cwV 1 hts gX9_weather_X9_refuse rfl rfl rfl (by decide +kernel) ⟨Nat.le_of_ble_eq_true rfl, Nat.le_of_ble_eq_true rfl⟩) ⟨pw_blind, va_recv hK hP (ci := 9) (q0 := 0) rfl wm_0, pw_give hP hK hD⟩ rfl rfl hl.1 rfl (lv_room (Nat.le_of_ble_eq_true rfl)) dX9_weather_46 ⟨Nat.le_of_ble_eq_true rfl, Nat.le_of_ble_eq_true rfl⟩) hS (fun q _ h => hF q h) hF (fun r_9 u t H1 locs ht hvm hw hB hz1 hk1 hS => ?_)
          subst hw
          obtain ⟨hB, hI_10⟩ := hB
          obtain ⟨hP, hD⟩ := pw_back hF ht hB
          clear hB hk1 hz1 hF
          generalize H1 = H at hP hS ⊢
          have hI9 : IR ((s_X9_refuse σ (-6 : Int32)).2) := hI_10
          subst hR
          rw [hQ]
          exact W.iret (v := ((s_X9_refuse σ (-6 : Int32)).1)) hx hb hr (fun t ht hW => ⟨⟨((s_X9_refuse σ (-6 : Int32)).1), (), rfl, rfl, ⟨by rw [ht]; exact hP, va_K.moved hW.alike hK, by rw [← hAe]; exact hD⟩, hI9⟩, hS.F ht⟩) hS.2.2 dX9_weather_49
      · have hR := (if_neg c_7).symm.trans hR
        refine lv_aload_n hx hb dX9_weather_29 rfl (lv_at hl 0 rfl) ?_
        refine lv_bipush (v := (-4 : Int32)) hx hb dX9_weather_30 (by decide) ?_
        have hF := pw_free hD hS hA
        refine va_calli (va_runV (As := [.int (-4 : Int32)]) (rest := []) ⟨hx, hb, hml, hown, hts⟩ (k_X9_refuse l D ca h ad σ (-4 : Int32) H.size hI (by unfold vp_in; decide) _ rfl) (cwV 1 hts gX9_weather_X9_refuse rfl rfl rfl (by decide +kernel) ⟨Nat.le_of_ble_eq_true rfl, Nat.le_of_ble_eq_true rfl⟩) ⟨pw_blind, va_recv hK hP (ci := 9) (q0 := 0) rfl wm_0, pw_give hP hK hD⟩ rfl rfl hl.1 rfl (lv_room (Nat.le_of_ble_eq_true rfl)) dX9_weather_32 ⟨Nat.le_of_ble_eq_true rfl, Nat.le_of_ble_eq_true rfl⟩) hS (fun q _ h => hF q h) hF (fun r_11 u t H1 locs ht hvm hw hB hz1 hk1 hS => ?_)
        subst hw
        obtain ⟨hB, hI_12⟩ := hB
        obtain ⟨hP, hD⟩ := pw_back hF ht hB
        clear hB hk1 hz1 hF
        generalize H1 = H at hP hS ⊢
        have hI9 : IR ((s_X9_refuse σ (-4 : Int32)).2) := hI_12
        subst hR
        rw [hQ]
        exact W.iret (v := ((s_X9_refuse σ (-4 : Int32)).1)) hx hb hr (fun t ht hW => ⟨⟨((s_X9_refuse σ (-4 : Int32)).1), (), rfl, rfl, ⟨by rw [ht]; exact hP, va_K.moved hW.alike hK, by rw [← hAe]; exact hD⟩, hI9⟩, hS.F ht⟩) hS.2.2 dX9_weather_35
    · have hR := (if_pos c_6).symm.trans hR
      refine lv_aload_n hx hb dX9_weather_18 rfl (lv_at hl 0 rfl) ?_
      refine lv_bipush (v := (-2 : Int32)) hx hb dX9_weather_19 (by decide) ?_
      have hF := pw_free hD hS hA
      refine va_calli (va_runV (As := [.int (-2 : Int32)]) (rest := []) ⟨hx, hb, hml, hown, hts⟩ (k_X9_refuse l D ca h ad σ (-2 : Int32) H.size hI (by unfold vp_in; decide) _ rfl) (cwV 1 hts gX9_weather_X9_refuse rfl rfl rfl (by decide +kernel) ⟨Nat.le_of_ble_eq_true rfl, Nat.le_of_ble_eq_true rfl⟩) ⟨pw_blind, va_recv hK hP (ci := 9) (q0 := 0) rfl wm_0, pw_give hP hK hD⟩ rfl rfl hl.1 rfl (lv_room (Nat.le_of_ble_eq_true rfl)) dX9_weather_21 ⟨Nat.le_of_ble_eq_true rfl, Nat.le_of_ble_eq_true rfl⟩) hS (fun q _ h => hF q h) hF (fun r_13 u t H1 locs ht hvm hw hB hz1 hk1 hS => ?_)
      subst hw
      obtain ⟨hB, hI_14⟩ := hB
      obtain ⟨hP, hD⟩ := pw_back hF ht hB
      clear hB hk1 hz1 hF
      generalize H1 = H at hP hS ⊢
      have hI9 : IR ((s_X9_refuse σ (-2 : Int32)).2) := hI_14
      subst hR
      rw [hQ]
      exact W.iret (v := ((s_X9_refuse σ (-2 : Int32)).1)) hx hb hr (fun t ht hW => ⟨⟨((s_X9_refuse σ (-2 : Int32)).1), (), rfl, rfl, ⟨by rw [ht]; exact hP, va_K.moved hW.alike hK, by rw [← hAe]; exact hD⟩, hI9⟩, hS.F ht⟩) hS.2.2 dX9_weather_24

def s_X9_adds (σ : St) (a1 : Int32) (a2 : Int32) (a3 : Int32) (a4 : Int32) (a5 : Int32) (a6 : Int32) : Int32 × St := ((((σ 5 0) + (1 : Int32)) - (1 : Int32)), (put (put (put (put (put (put (put (put (put σ 25 ((σ 5 0).toNatClampNeg) a1) 26 ((σ 5 0).toNatClampNeg) a2) 27 ((σ 5 0).toNatClampNeg) a3) 28 ((σ 5 0).toNatClampNeg) (σ 1 0)) 29 ((σ 5 0).toNatClampNeg) a4) 30 ((σ 5 0).toNatClampNeg) a6) 31 ((σ 5 0).toNatClampNeg) a5) 32 ((σ 5 0).toNatClampNeg) (-9 : Int32)) 5 0 ((σ 5 0) + (1 : Int32))))
theorem fr_s_X9_adds (σ : St) (a1 : Int32) (a2 : Int32) (a3 : Int32) (a4 : Int32) (a5 : Int32) (a6 : Int32) {f : Nat} (h5 : f ≠ 5) (h25 : f ≠ 25) (h26 : f ≠ 26) (h27 : f ≠ 27) (h28 : f ≠ 28) (h29 : f ≠ 29) (h30 : f ≠ 30) (h31 : f ≠ 31) (h32 : f ≠ 32) : (s_X9_adds σ a1 a2 a3 a4 a5 a6 ).2 f = σ f := by
  unfold s_X9_adds
  all_goals ((try dsimp only) <;> ((repeat' split) <;> (try simp only [put_fr, ne_eq, not_false_eq_true, h5, h25, h26, h27, h28, h29, h30, h31, h32])))
set_option maxHeartbeats 1000000 in
set_option maxRecDepth 100000 in
theorem k_X9_adds (l : Launch) (D : va_G) (ca : Nat → ClassId) (h : Nat) (ad : Nat → Nat) (σ : St) (a1 : Int32) (a2 : Int32) (a3 : Int32) (a4 : Int32) (a5 : Int32) (a6 : Int32) (sz : Nat) (hI : IR σ) (hr60 : vp_in (σ 5 0) 60) (hw : a1 = 1 → 0 ≤ a2.toInt ∧ a2.toInt < 10) (R : Int32 × St) (hR : s_X9_adds σ a1 a2 a3 a4 a5 a6 = R) : Met l yX9_adds wsX9_adds ({ frames := 0, cells := 0, slots := 0, locals := 0 }) (va_Pc [.ref h, .int a1, .int a2, .int a3, .int a4, .int a5, .int a6] (pw_pre D ca (WM ca h ad σ) sz)) (va_Qi (fun (r : Int32) (_ : Unit) => r = R.1) (fun (_ : Unit) (t : State) => pw_post D ca (WM ca h ad σ) sz (WM ca h ad (R.2)) t ∧ IR R.2) (va_A (WM ca h ad σ) sz)) 0 0 (va_A (WM ca h ad σ) sz) := by
  refine Met.ofW (cc := cX9_adds) (maxL := 7) (ret := (some .int)) (by decide) rfl ?_
  intro p e s m args below meth c s₁ B hml hv
  obtain ⟨rfl, hsz, hP, hK, hD0⟩ := hv
  have hx := B.exec
  have hb := B.bytes
  have hr := B.returns
  have hts := atoms_spec (ws := wsX9_adds) B.pre
  have hown : s.vm.findClass RX9 = some m.cls := findClass_of_methodNamed B.named
  have hlocks := B.notSynchronized
  have hu9 : ∀ w ∈ u_ws RX9 TX9 51, w ∈ wsX9_adds := fun w h => List.mem_cons_of_mem _ (uw9 w h)
  subst hsz
  have hD := hD0.self (sz := s.heap.size)
  obtain ⟨A, hAe⟩ : ∃ A, A = va_A (WM ca h ad σ) s.heap.size := ⟨_, rfl⟩
  rw [← hAe] at hD ⊢
  have hA : ∀ q : Nat, s.heap.size ≤ q → A q := fun q h => by rw [hAe]; exact Or.inr h
  have hS : va_S A s.heap s.heap [] := va_S.rf
  have hl := lv_entry ([.ref h, .int a1, .int a2, .int a3, .int a4, .int a5, .int a6]) (n := 7) (Nat.le_of_ble_eq_true rfl)
  rw [lg_entry_eq]
  generalize (lg_sl ([.ref h, .int a1, .int a2, .int a3, .int a4, .int a5, .int a6]) ++ List.replicate (7 - (lg_sl ([.ref h, .int a1, .int a2, .int a3, .int a4, .int a5, .int a6])).length) Slot.unset).toArray = ls at hl ⊢
  have hl : lv_has ls 7 [(0, .ref h), (1, .int a1), (2, .int a2), (3, .int a3), (4, .int a4), (5, .int a5), (6, .int a6)] := hl
  obtain ⟨H, hH⟩ : ∃ H, H = s.heap := ⟨_, rfl⟩
  have hP : va_P D vwCl (WM ca h ad σ) H := by rw [hH]; exact hP
  have hS : va_S A s.heap H [] := by rw [hH]; exact hS
  obtain ⟨QQ, hQ⟩ : ∃ Q9, Q9 = MQ below (va_Qi (fun (r : Int32) (_ : Unit) => r = R.1) (fun (_ : Unit) (t : State) => pw_post D ca (WM ca h ad σ) s.heap.size (WM ca h ad (R.2)) t ∧ IR R.2) A) ([.ref h, .int a1, .int a2, .int a3, .int a4, .int a5, .int a6] : List Value).toArray s 0 0 A := ⟨_, rfl⟩
  rw [← hQ]
  show W _ _ _ _ _ _ _ _ _ _ s.heap _ _ _ _ _
  rw [← hH]
  have hR : ((((σ 5 0) + (1 : Int32)) - (1 : Int32)), (put (put (put (put (put (put (put (put (put σ 25 ((σ 5 0).toNatClampNeg) a1) 26 ((σ 5 0).toNatClampNeg) a2) 27 ((σ 5 0).toNatClampNeg) a3) 28 ((σ 5 0).toNatClampNeg) (σ 1 0)) 29 ((σ 5 0).toNatClampNeg) a4) 30 ((σ 5 0).toNatClampNeg) a6) 31 ((σ 5 0).toNatClampNeg) a5) 32 ((σ 5 0).toNatClampNeg) (-9 : Int32)) 5 0 ((σ 5 0) + (1 : Int32)))) = R := hR
  refine lv_aload_n hx hb dX9_adds_0 rfl (lv_at hl 0 rfl) ?_
  refine va_get (D := D) (ci := 9) (v := .ref (ad 25)) (C := RX9) (T := TX9) (N := 51) hx hb hts hu9 hown hK hP 0 wm_0 rfl 25 (by decide) (hts (.fieldLink RX9 50 "GrazeBookModel" "rKind" "[I") (List.mem_cons_of_mem _ mw_808)) (fun _ h9 => h9) rfl dX9_adds_1 ?_
  refine lv_aload_n hx hb dX9_adds_4 rfl (lv_at hl 0 rfl) ?_
  refine va_get (D := D) (ci := 9) (v := .int (σ 5 0)) (C := RX9) (T := TX9) (N := 51) hx hb hts hu9 hown hK hP 0 wm_0 rfl 5 (by decide) (hts (.fieldLink RX9 148 "GrazeBookModel" "rights" "I") (List.mem_cons_of_mem _ mw_788)) (fun _ h9 => h9) rfl dX9_adds_5 ?_
  refine lv_iload_n hx hb dX9_adds_8 rfl (lv_at hl 1 rfl) ?_
  refine va_iast_k (k := ((σ 5 0).toNatClampNeg)) hx hb hK hP hD hS 14 0 wm_a25 rfl rfl hr60 dX9_adds_9 (fun H locs hP hD hS => ?_)
  rw [wm_s25] at hP hD
  refine lv_aload_n hx hb dX9_adds_10 rfl (lv_at hl 0 rfl) ?_
  refine va_get (D := D) (ci := 9) (v := .ref (ad 26)) (C := RX9) (T := TX9) (N := 51) hx hb hts hu9 hown hK hP 0 wm_0 rfl 26 (by decide) (hts (.fieldLink RX9 53 "GrazeBookModel" "rWho" "[I") (List.mem_cons_of_mem _ mw_809)) (fun _ h9 => h9) rfl dX9_adds_11 ?_
  refine lv_aload_n hx hb dX9_adds_14 rfl (lv_at hl 0 rfl) ?_
  refine va_get (D := D) (ci := 9) (v := .int (σ 5 0)) (C := RX9) (T := TX9) (N := 51) hx hb hts hu9 hown hK hP 0 wm_0 rfl 5 (by decide) (hts (.fieldLink RX9 148 "GrazeBookModel" "rights" "I") (List.mem_cons_of_mem _ mw_788)) (fun _ h9 => h9) rfl dX9_adds_15 ?_
  refine lv_iload_n hx hb dX9_adds_18 rfl (lv_at hl 2 rfl) ?_
  refine va_iast_k (k := ((σ 5 0).toNatClampNeg)) hx hb hK hP hD hS 15 0 wm_a26 rfl rfl hr60 dX9_adds_19 (fun H locs hP hD hS => ?_)
  rw [wm_s26] at hP hD
  refine lv_aload_n hx hb dX9_adds_20 rfl (lv_at hl 0 rfl) ?_
  refine va_get (D := D) (ci := 9) (v := .ref (ad 27)) (C := RX9) (T := TX9) (N := 51) hx hb hts hu9 hown hK hP 0 wm_0 rfl 27 (by decide) (hts (.fieldLink RX9 56 "GrazeBookModel" "rParts" "[I") (List.mem_cons_of_mem _ mw_810)) (fun _ h9 => h9) rfl dX9_adds_21 ?_
  refine lv_aload_n hx hb dX9_adds_24 rfl (lv_at hl 0 rfl) ?_
  refine va_get (D := D) (ci := 9) (v := .int (σ 5 0)) (C := RX9) (T := TX9) (N := 51) hx hb hts hu9 hown hK hP 0 wm_0 rfl 5 (by decide) (hts (.fieldLink RX9 148 "GrazeBookModel" "rights" "I") (List.mem_cons_of_mem _ mw_788)) (fun _ h9 => h9) rfl dX9_adds_25 ?_
  refine lv_iload_n hx hb dX9_adds_28 rfl (lv_at hl 3 rfl) ?_
  refine va_iast_k (k := ((σ 5 0).toNatClampNeg)) hx hb hK hP hD hS 16 0 wm_a27 rfl rfl hr60 dX9_adds_29 (fun H locs hP hD hS => ?_)
  rw [wm_s27] at hP hD
  refine lv_aload_n hx hb dX9_adds_30 rfl (lv_at hl 0 rfl) ?_
  refine va_get (D := D) (ci := 9) (v := .ref (ad 28)) (C := RX9) (T := TX9) (N := 51) hx hb hts hu9 hown hK hP 0 wm_0 rfl 28 (by decide) (hts (.fieldLink RX9 59 "GrazeBookModel" "rFrom" "[I") (List.mem_cons_of_mem _ mw_811)) (fun _ h9 => h9) rfl dX9_adds_31 ?_
  refine lv_aload_n hx hb dX9_adds_34 rfl (lv_at hl 0 rfl) ?_
  refine va_get (D := D) (ci := 9) (v := .int (σ 5 0)) (C := RX9) (T := TX9) (N := 51) hx hb hts hu9 hown hK hP 0 wm_0 rfl 5 (by decide) (hts (.fieldLink RX9 148 "GrazeBookModel" "rights" "I") (List.mem_cons_of_mem _ mw_788)) (fun _ h9 => h9) rfl dX9_adds_35 ?_
  refine lv_aload_n hx hb dX9_adds_38 rfl (lv_at hl 0 rfl) ?_
  refine va_get (D := D) (ci := 9) (v := .int (σ 1 0)) (C := RX9) (T := TX9) (N := 51) hx hb hts hu9 hown hK hP 0 wm_0 rfl 1 (by decide) (hts (.fieldLink RX9 141 "GrazeBookModel" "day" "I") (List.mem_cons_of_mem _ mw_784)) (fun _ h9 => h9) rfl dX9_adds_39 ?_
  refine va_iast_k (k := ((σ 5 0).toNatClampNeg)) hx hb hK hP hD hS 17 0 wm_a28 rfl rfl hr60 dX9_adds_42 (fun H locs hP hD hS => ?_)
  rw [wm_s28] at hP hD
  refine lv_aload_n hx hb dX9_adds_43 rfl (lv_at hl 0 rfl) ?_
  refine va_get (D := D) (ci := 9) (v := .ref (ad 29)) (C := RX9) (T := TX9) (N := 51) hx hb hts hu9 hown hK hP 0 wm_0 rfl 29 (by decide) (hts (.fieldLink RX9 62 "GrazeBookModel" "rTo" "[I") (List.mem_cons_of_mem _ mw_812)) (fun _ h9 => h9) rfl dX9_adds_44 ?_
  refine lv_aload_n hx hb dX9_adds_47 rfl (lv_at hl 0 rfl) ?_
  refine va_get (D := D) (ci := 9) (v := .int (σ 5 0)) (C := RX9) (T := TX9) (N := 51) hx hb hts hu9 hown hK hP 0 wm_0 rfl 5 (by decide) (hts (.fieldLink RX9 148 "GrazeBookModel" "rights" "I") (List.mem_cons_of_mem _ mw_788)) (fun _ h9 => h9) rfl dX9_adds_48 ?_
  refine lv_iload hx hb dX9_adds_51 (lv_at hl 4 rfl) ?_
  refine va_iast_k (k := ((σ 5 0).toNatClampNeg)) hx hb hK hP hD hS 18 0 wm_a29 rfl rfl hr60 dX9_adds_53 (fun H locs hP hD hS => ?_)
  rw [wm_s29] at hP hD
  refine lv_aload_n hx hb dX9_adds_54 rfl (lv_at hl 0 rfl) ?_
  refine va_get (D := D) (ci := 9) (v := .ref (ad 30)) (C := RX9) (T := TX9) (N := 51) hx hb hts hu9 hown hK hP 0 wm_0 rfl 30 (by decide) (hts (.fieldLink RX9 65 "GrazeBookModel" "rPiece" "[I") (List.mem_cons_of_mem _ mw_813)) (fun _ h9 => h9) rfl dX9_adds_55 ?_
  refine lv_aload_n hx hb dX9_adds_58 rfl (lv_at hl 0 rfl) ?_
  refine va_get (D := D) (ci := 9) (v := .int (σ 5 0)) (C := RX9) (T := TX9) (N := 51) hx hb hts hu9 hown hK hP 0 wm_0 rfl 5 (by decide) (hts (.fieldLink RX9 148 "GrazeBookModel" "rights" "I") (List.mem_cons_of_mem _ mw_788)) (fun _ h9 => h9) rfl dX9_adds_59 ?_
  refine lv_iload hx hb dX9_adds_62 (lv_at hl 6 rfl) ?_
  refine va_iast_k (k := ((σ 5 0).toNatClampNeg)) hx hb hK hP hD hS 19 0 wm_a30 rfl rfl hr60 dX9_adds_64 (fun H locs hP hD hS => ?_)
  rw [wm_s30] at hP hD
  refine lv_aload_n hx hb dX9_adds_65 rfl (lv_at hl 0 rfl) ?_
  refine va_get (D := D) (ci := 9) (v := .ref (ad 31)) (C := RX9) (T := TX9) (N := 51) hx hb hts hu9 hown hK hP 0 wm_0 rfl 31 (by decide) (hts (.fieldLink RX9 68 "GrazeBookModel" "rOf" "[I") (List.mem_cons_of_mem _ mw_814)) (fun _ h9 => h9) rfl dX9_adds_66 ?_
  refine lv_aload_n hx hb dX9_adds_69 rfl (lv_at hl 0 rfl) ?_
  refine va_get (D := D) (ci := 9) (v := .int (σ 5 0)) (C := RX9) (T := TX9) (N := 51) hx hb hts hu9 hown hK hP 0 wm_0 rfl 5 (by decide) (hts (.fieldLink RX9 148 "GrazeBookModel" "rights" "I") (List.mem_cons_of_mem _ mw_788)) (fun _ h9 => h9) rfl dX9_adds_70 ?_
  refine lv_iload hx hb dX9_adds_73 (lv_at hl 5 rfl) ?_
  refine va_iast_k (k := ((σ 5 0).toNatClampNeg)) hx hb hK hP hD hS 20 0 wm_a31 rfl rfl hr60 dX9_adds_75 (fun H locs hP hD hS => ?_)
  rw [wm_s31] at hP hD
  refine lv_aload_n hx hb dX9_adds_76 rfl (lv_at hl 0 rfl) ?_
  refine va_get (D := D) (ci := 9) (v := .ref (ad 32)) (C := RX9) (T := TX9) (N := 51) hx hb hts hu9 hown hK hP 0 wm_0 rfl 32 (by decide) (hts (.fieldLink RX9 71 "GrazeBookModel" "rUsed" "[I") (List.mem_cons_of_mem _ mw_815)) (fun _ h9 => h9) rfl dX9_adds_77 ?_
  refine lv_aload_n hx hb dX9_adds_80 rfl (lv_at hl 0 rfl) ?_
  refine va_get (D := D) (ci := 9) (v := .int (σ 5 0)) (C := RX9) (T := TX9) (N := 51) hx hb hts hu9 hown hK hP 0 wm_0 rfl 5 (by decide) (hts (.fieldLink RX9 148 "GrazeBookModel" "rights" "I") (List.mem_cons_of_mem _ mw_788)) (fun _ h9 => h9) rfl dX9_adds_81 ?_
  refine lv_bipush (v := (-9 : Int32)) hx hb dX9_adds_84 (by decide) ?_
  refine va_iast_k (k := ((σ 5 0).toNatClampNeg)) hx hb hK hP hD hS 21 0 wm_a32 rfl rfl hr60 dX9_adds_86 (fun H locs hP hD hS => ?_)
  rw [wm_s32] at hP hD
  refine lv_aload_n hx hb dX9_adds_87 rfl (lv_at hl 0 rfl) ?_
  refine lv_dup hx hb dX9_adds_88 rfl ?_
  refine va_get (D := D) (ci := 9) (v := .int (σ 5 0)) (C := RX9) (T := TX9) (N := 51) hx hb hts hu9 hown hK hP 0 wm_0 rfl 5 (by decide) (hts (.fieldLink RX9 148 "GrazeBookModel" "rights" "I") (List.mem_cons_of_mem _ mw_788)) (fun _ h9 => h9) rfl dX9_adds_89 ?_
  refine lv_iconst (v := (1 : Int32)) hx hb dX9_adds_92 (by decide) ?_
  refine lv_iadd hx hb dX9_adds_93 ?_
  refine va_put (D := D) (ci := 9) (v := .int ((σ 5 0) + (1 : Int32))) (ty := .int) (C := RX9) (T := TX9) (N := 51) hx hb hts hu9 tyX9 tyX9_ok nmX9 hown hK hP hD hS 0 wm_0 rfl 5 (by decide) (hts (.fieldLink RX9 148 "GrazeBookModel" "rights" "I") (List.mem_cons_of_mem _ mw_788)) (fun _ h9 => h9) rfl (by decide +kernel) rfl rfl (Nat.le_of_ble_eq_true rfl) dX9_adds_94 (fun H locs hP hD hS => ?_)
  rw [wm_p5] at hP hD
  refine lv_aload_n hx hb dX9_adds_97 rfl (lv_at hl 0 rfl) ?_
  refine va_get (D := D) (ci := 9) (v := .int ((σ 5 0) + (1 : Int32))) (C := RX9) (T := TX9) (N := 51) hx hb hts hu9 hown hK hP 0 wm_0 rfl 5 (by decide) (hts (.fieldLink RX9 148 "GrazeBookModel" "rights" "I") (List.mem_cons_of_mem _ mw_788)) (fun _ h9 => h9) rfl dX9_adds_98 ?_
  refine lv_iconst (v := (1 : Int32)) hx hb dX9_adds_101 (by decide) ?_
  refine lv_isub hx hb dX9_adds_102 ?_
  have hI9 : IR (put (put (put (put (put (put (put (put (put σ 25 ((σ 5 0).toNatClampNeg) a1) 26 ((σ 5 0).toNatClampNeg) a2) 27 ((σ 5 0).toNatClampNeg) a3) 28 ((σ 5 0).toNatClampNeg) (σ 1 0)) 29 ((σ 5 0).toNatClampNeg) a4) 30 ((σ 5 0).toNatClampNeg) a6) 31 ((σ 5 0).toNatClampNeg) a5) 32 ((σ 5 0).toNatClampNeg) (-9 : Int32)) 5 0 ((σ 5 0) + (1 : Int32))) := (ir_put5 (σ := (put (put (put (put (put (put (put (put σ 25 ((σ 5 0).toNatClampNeg) a1) 26 ((σ 5 0).toNatClampNeg) a2) 27 ((σ 5 0).toNatClampNeg) a3) 28 ((σ 5 0).toNatClampNeg) (σ 1 0)) 29 ((σ 5 0).toNatClampNeg) a4) 30 ((σ 5 0).toNatClampNeg) a6) 31 ((σ 5 0).toNatClampNeg) a5) 32 ((σ 5 0).toNatClampNeg) (-9 : Int32))) (ir_putright (σ := σ) hI hw) (inc60 hr60))
  subst hR
  rw [hQ]
  exact W.iret (v := (((σ 5 0) + (1 : Int32)) - (1 : Int32))) hx hb hr (fun t ht hW => ⟨⟨(((σ 5 0) + (1 : Int32)) - (1 : Int32)), (), rfl, rfl, ⟨by rw [ht]; exact hP, va_K.moved hW.alike hK, by rw [← hAe]; exact hD⟩, hI9⟩, hS.F ht⟩) hS.2.2 dX9_adds_103

def s_X9_right (σ : St) (a1 : Int32) (a2 : Int32) (a3 : Int32) (a4 : Int32) (a5 : Int32) : Int32 × St := (if (s_X9_isIn a1 (4 : Int32)) = (0 : Int32) then (((s_X9_refuse σ (-2 : Int32)).1), (s_X9_refuse σ (-2 : Int32)).2) else (if a1 = (1 : Int32) then (if (s_X9_isIn a2 (σ 4 0)) = (0 : Int32) then (((s_X9_refuse σ (-1 : Int32)).1), (s_X9_refuse σ (-1 : Int32)).2) else (if a1 = (3 : Int32) then (if (s_X9_isIn a5 (σ 2 0)) = (0 : Int32) then (((s_X9_refuse σ (-1 : Int32)).1), (s_X9_refuse σ (-1 : Int32)).2) else (if a3 < (1 : Int32) then (((s_X9_refuse σ (-4 : Int32)).1), (s_X9_refuse σ (-4 : Int32)).2) else (if (σ 1 0) ≤ a4 then (if (10000 : Int32) < a3 then (((s_X9_refuse σ (-6 : Int32)).1), (s_X9_refuse σ (-6 : Int32)).2) else (if (720 : Int32) < a4 then (((s_X9_refuse σ (-6 : Int32)).1), (s_X9_refuse σ (-6 : Int32)).2) else (if (σ 5 0) = (60 : Int32) then (((s_X9_refuse σ (-6 : Int32)).1), (s_X9_refuse σ (-6 : Int32)).2) else (((s_X9_adds σ a1 a2 a3 a4 (-9 : Int32) a5).1), (s_X9_adds σ a1 a2 a3 a4 (-9 : Int32) a5).2)))) else (((s_X9_refuse σ (-4 : Int32)).1), (s_X9_refuse σ (-4 : Int32)).2)))) else (if a3 < (1 : Int32) then (((s_X9_refuse σ (-4 : Int32)).1), (s_X9_refuse σ (-4 : Int32)).2) else (if (σ 1 0) ≤ a4 then (if (10000 : Int32) < a3 then (((s_X9_refuse σ (-6 : Int32)).1), (s_X9_refuse σ (-6 : Int32)).2) else (if (720 : Int32) < a4 then (((s_X9_refuse σ (-6 : Int32)).1), (s_X9_refuse σ (-6 : Int32)).2) else (if (σ 5 0) = (60 : Int32) then (((s_X9_refuse σ (-6 : Int32)).1), (s_X9_refuse σ (-6 : Int32)).2) else (((s_X9_adds σ a1 a2 a3 a4 (-9 : Int32) a5).1), (s_X9_adds σ a1 a2 a3 a4 (-9 : Int32) a5).2)))) else (((s_X9_refuse σ (-4 : Int32)).1), (s_X9_refuse σ (-4 : Int32)).2))))) else (if (s_X9_isIn a2 (σ 3 0)) = (0 : Int32) then (((s_X9_refuse σ (-1 : Int32)).1), (s_X9_refuse σ (-1 : Int32)).2) else (if a1 = (3 : Int32) then (if (s_X9_isIn a5 (σ 2 0)) = (0 : Int32) then (((s_X9_refuse σ (-1 : Int32)).1), (s_X9_refuse σ (-1 : Int32)).2) else (if a3 < (1 : Int32) then (((s_X9_refuse σ (-4 : Int32)).1), (s_X9_refuse σ (-4 : Int32)).2) else (if (σ 1 0) ≤ a4 then (if (10000 : Int32) < a3 then (((s_X9_refuse σ (-6 : Int32)).1), (s_X9_refuse σ (-6 : Int32)).2) else (if (720 : Int32) < a4 then (((s_X9_refuse σ (-6 : Int32)).1), (s_X9_refuse σ (-6 : Int32)).2) else (if (σ 5 0) = (60 : Int32) then (((s_X9_refuse σ (-6 : Int32)).1), (s_X9_refuse σ (-6 : Int32)).2) else (((s_X9_adds σ a1 a2 a3 a4 (-9 : Int32) a5).1), (s_X9_adds σ a1 a2 a3 a4 (-9 : Int32) a5).2)))) else (((s_X9_refuse σ (-4 : Int32)).1), (s_X9_refuse σ (-4 : Int32)).2)))) else (if a3 < (1 : Int32) then (((s_X9_refuse σ (-4 : Int32)).1), (s_X9_refuse σ (-4 : Int32)).2) else (if (σ 1 0) ≤ a4 then (if (10000 : Int32) < a3 then (((s_X9_refuse σ (-6 : Int32)).1), (s_X9_refuse σ (-6 : Int32)).2) else (if (720 : Int32) < a4 then (((s_X9_refuse σ (-6 : Int32)).1), (s_X9_refuse σ (-6 : Int32)).2) else (if (σ 5 0) = (60 : Int32) then (((s_X9_refuse σ (-6 : Int32)).1), (s_X9_refuse σ (-6 : Int32)).2) else (((s_X9_adds σ a1 a2 a3 a4 (-9 : Int32) a5).1), (s_X9_adds σ a1 a2 a3 a4 (-9 : Int32) a5).2)))) else (((s_X9_refuse σ (-4 : Int32)).1), (s_X9_refuse σ (-4 : Int32)).2)))))))
theorem fr_s_X9_right (σ : St) (a1 : Int32) (a2 : Int32) (a3 : Int32) (a4 : Int32) (a5 : Int32) {f : Nat} (h0 : f ≠ 0) (h5 : f ≠ 5) (h25 : f ≠ 25) (h26 : f ≠ 26) (h27 : f ≠ 27) (h28 : f ≠ 28) (h29 : f ≠ 29) (h30 : f ≠ 30) (h31 : f ≠ 31) (h32 : f ≠ 32) : (s_X9_right σ a1 a2 a3 a4 a5 ).2 f = σ f := by
  unfold s_X9_right
  all_goals ((try dsimp only) <;> ((repeat' split) <;> (try simp only [put_fr, ne_eq, not_false_eq_true, h0, h5, h25, h26, h27, h28, h29, h30, h31, h32, fr_s_X9_refuse, fr_s_X9_adds])))
set_option maxHeartbeats 1000000 in
set_option maxRecDepth 100000 in
theorem k_X9_right (l : Launch) (D : va_G) (ca : Nat → ClassId) (h : Nat) (ad : Nat → Nat) (σ : St) (a1 : Int32) (a2 : Int32) (a3 : Int32) (a4 : Int32) (a5 : Int32) (sz : Nat) (hI : IR σ)  (R : Int32 × St) (hR : s_X9_right σ a1 a2 a3 a4 a5 = R) : Met l yX9_right wsX9_right ({ frames := 1, cells := 0, slots := 0, locals := 26 }) (va_Pc [.ref h, .int a1, .int a2, .int a3, .int a4, .int a5] (pw_pre D ca (WM ca h ad σ) sz)) (va_Qi (fun (r : Int32) (_ : Unit) => r = R.1) (fun (_ : Unit) (t : State) => pw_post D ca (WM ca h ad σ) sz (WM ca h ad (R.2)) t ∧ IR R.2) (va_A (WM ca h ad σ) sz)) 0 0 (va_A (WM ca h ad σ) sz) := by
  refine Met.ofW (cc := cX9_right) (maxL := 6) (ret := (some .int)) (by decide) rfl ?_
  intro p e s m args below meth c s₁ B hml hv
  obtain ⟨rfl, hsz, hP, hK, hD0⟩ := hv
  have hx := B.exec
  have hb := B.bytes
  have hr := B.returns
  have hts := atoms_spec (ws := wsX9_right) B.pre
  have hown : s.vm.findClass RX9 = some m.cls := findClass_of_methodNamed B.named
  have hlocks := B.notSynchronized
  have hu9 : ∀ w ∈ u_ws RX9 TX9 51, w ∈ wsX9_right := fun w h => List.mem_cons_of_mem _ (uw9 w h)
  subst hsz
  have hD := hD0.self (sz := s.heap.size)
  obtain ⟨A, hAe⟩ : ∃ A, A = va_A (WM ca h ad σ) s.heap.size := ⟨_, rfl⟩
  rw [← hAe] at hD ⊢
  have hA : ∀ q : Nat, s.heap.size ≤ q → A q := fun q h => by rw [hAe]; exact Or.inr h
  have hS : va_S A s.heap s.heap [] := va_S.rf
  have hl := lv_entry ([.ref h, .int a1, .int a2, .int a3, .int a4, .int a5]) (n := 6) (Nat.le_of_ble_eq_true rfl)
  rw [lg_entry_eq]
  generalize (lg_sl ([.ref h, .int a1, .int a2, .int a3, .int a4, .int a5]) ++ List.replicate (6 - (lg_sl ([.ref h, .int a1, .int a2, .int a3, .int a4, .int a5])).length) Slot.unset).toArray = ls at hl ⊢
  have hl : lv_has ls 6 [(0, .ref h), (1, .int a1), (2, .int a2), (3, .int a3), (4, .int a4), (5, .int a5)] := hl
  obtain ⟨H, hH⟩ : ∃ H, H = s.heap := ⟨_, rfl⟩
  have hP : va_P D vwCl (WM ca h ad σ) H := by rw [hH]; exact hP
  have hS : va_S A s.heap H [] := by rw [hH]; exact hS
  obtain ⟨QQ, hQ⟩ : ∃ Q9, Q9 = MQ below (va_Qi (fun (r : Int32) (_ : Unit) => r = R.1) (fun (_ : Unit) (t : State) => pw_post D ca (WM ca h ad σ) s.heap.size (WM ca h ad (R.2)) t ∧ IR R.2) A) ([.ref h, .int a1, .int a2, .int a3, .int a4, .int a5] : List Value).toArray s 0 0 A := ⟨_, rfl⟩
  rw [← hQ]
  show W _ _ _ _ _ _ _ _ _ _ s.heap _ _ _ _ _
  rw [← hH]
  have hR : (if (s_X9_isIn a1 (4 : Int32)) = (0 : Int32) then (((s_X9_refuse σ (-2 : Int32)).1), (s_X9_refuse σ (-2 : Int32)).2) else (if a1 = (1 : Int32) then (if (s_X9_isIn a2 (σ 4 0)) = (0 : Int32) then (((s_X9_refuse σ (-1 : Int32)).1), (s_X9_refuse σ (-1 : Int32)).2) else (if a1 = (3 : Int32) then (if (s_X9_isIn a5 (σ 2 0)) = (0 : Int32) then (((s_X9_refuse σ (-1 : Int32)).1), (s_X9_refuse σ (-1 : Int32)).2) else (if a3 < (1 : Int32) then (((s_X9_refuse σ (-4 : Int32)).1), (s_X9_refuse σ (-4 : Int32)).2) else (if (σ 1 0) ≤ a4 then (if (10000 : Int32) < a3 then (((s_X9_refuse σ (-6 : Int32)).1), (s_X9_refuse σ (-6 : Int32)).2) else (if (720 : Int32) < a4 then (((s_X9_refuse σ (-6 : Int32)).1), (s_X9_refuse σ (-6 : Int32)).2) else (if (σ 5 0) = (60 : Int32) then (((s_X9_refuse σ (-6 : Int32)).1), (s_X9_refuse σ (-6 : Int32)).2) else (((s_X9_adds σ a1 a2 a3 a4 (-9 : Int32) a5).1), (s_X9_adds σ a1 a2 a3 a4 (-9 : Int32) a5).2)))) else (((s_X9_refuse σ (-4 : Int32)).1), (s_X9_refuse σ (-4 : Int32)).2)))) else (if a3 < (1 : Int32) then (((s_X9_refuse σ (-4 : Int32)).1), (s_X9_refuse σ (-4 : Int32)).2) else (if (σ 1 0) ≤ a4 then (if (10000 : Int32) < a3 then (((s_X9_refuse σ (-6 : Int32)).1), (s_X9_refuse σ (-6 : Int32)).2) else (if (720 : Int32) < a4 then (((s_X9_refuse σ (-6 : Int32)).1), (s_X9_refuse σ (-6 : Int32)).2) else (if (σ 5 0) = (60 : Int32) then (((s_X9_refuse σ (-6 : Int32)).1), (s_X9_refuse σ (-6 : Int32)).2) else (((s_X9_adds σ a1 a2 a3 a4 (-9 : Int32) a5).1), (s_X9_adds σ a1 a2 a3 a4 (-9 : Int32) a5).2)))) else (((s_X9_refuse σ (-4 : Int32)).1), (s_X9_refuse σ (-4 : Int32)).2))))) else (if (s_X9_isIn a2 (σ 3 0)) = (0 : Int32) then (((s_X9_refuse σ (-1 : Int32)).1), (s_X9_refuse σ (-1 : Int32)).2) else (if a1 = (3 : Int32) then (if (s_X9_isIn a5 (σ 2 0)) = (0 : Int32) then (((s_X9_refuse σ (-1 : Int32)).1), (s_X9_refuse σ (-1 : Int32)).2) else (if a3 < (1 : Int32) then (((s_X9_refuse σ (-4 : Int32)).1), (s_X9_refuse σ (-4 : Int32)).2) else (if (σ 1 0) ≤ a4 then (if (10000 : Int32) < a3 then (((s_X9_refuse σ (-6 : Int32)).1), (s_X9_refuse σ (-6 : Int32)).2) else (if (720 : Int32) < a4 then (((s_X9_refuse σ (-6 : Int32)).1), (s_X9_refuse σ (-6 : Int32)).2) else (if (σ 5 0) = (60 : Int32) then (((s_X9_refuse σ (-6 : Int32)).1), (s_X9_refuse σ (-6 : Int32)).2) else (((s_X9_adds σ a1 a2 a3 a4 (-9 : Int32) a5).1), (s_X9_adds σ a1 a2 a3 a4 (-9 : Int32) a5).2)))) else (((s_X9_refuse σ (-4 : Int32)).1), (s_X9_refuse σ (-4 : Int32)).2)))) else (if a3 < (1 : Int32) then (((s_X9_refuse σ (-4 : Int32)).1), (s_X9_refuse σ (-4 : Int32)).2) else (if (σ 1 0) ≤ a4 then (if (10000 : Int32) < a3 then (((s_X9_refuse σ (-6 : Int32)).1), (s_X9_refuse σ (-6 : Int32)).2) else (if (720 : Int32) < a4 then (((s_X9_refuse σ (-6 : Int32)).1), (s_X9_refuse σ (-6 : Int32)).2) else (if (σ 5 0) = (60 : Int32) then (((s_X9_refuse σ (-6 : Int32)).1), (s_X9_refuse σ (-6 : Int32)).2) else (((s_X9_adds σ a1 a2 a3 a4 (-9 : Int32) a5).1), (s_X9_adds σ a1 a2 a3 a4 (-9 : Int32) a5).2)))) else (((s_X9_refuse σ (-4 : Int32)).1), (s_X9_refuse σ (-4 : Int32)).2))))))) = R := hR
  refine lv_iload_n hx hb dX9_right_0 rfl (lv_at hl 1 rfl) ?_
  refine lv_iconst (v := (4 : Int32)) hx hb dX9_right_1 (by decide) ?_
  have hF := pw_free (pn_D (A := A)) hS hA
  refine va_calli (va_runS (As := [.int a1, .int (4 : Int32)]) (rest := []) ⟨hx, hb, hml, hown, hts⟩ (k_X9_isIn l D ca a1 (4 : Int32) H.size _ rfl) (va_cwS 2 hts gX9_right_X9_isIn rfl rfl rfl (by decide +kernel) ⟨Nat.le_of_ble_eq_true rfl, Nat.le_of_ble_eq_true rfl⟩) ⟨pw_blind, pw_give pn_P hK (pn_D (A := A))⟩ rfl rfl hl.1 rfl (lv_room (Nat.le_of_ble_eq_true rfl)) dX9_right_2 ⟨Nat.le_of_ble_eq_true rfl, Nat.le_of_ble_eq_true rfl⟩) hS (fun q _ h => hF q h) hF (fun r_1 u t H1 locs ht hvm hw hB hz1 hk1 hS => ?_)
  subst hw
  have hP := pn_back hP hk1
  clear hB hk1 hz1 hF
  generalize H1 = H at hP hS ⊢
  refine lv_if_ne (tgt := 15) hx hb dX9_right_5 (by decide) (fun c_2 => ?_) (fun c_2 => ?_)
  · have hR := (if_neg c_2).symm.trans hR
    refine lv_iload_n hx hb dX9_right_15 rfl (lv_at hl 2 rfl) ?_
    refine lv_iload_n hx hb dX9_right_16 rfl (lv_at hl 1 rfl) ?_
    refine lv_iconst (v := (1 : Int32)) hx hb dX9_right_17 (by decide) ?_
    refine lv_icmp_ne (tgt := 28) hx hb dX9_right_18 (by decide) (fun c_3 => ?_) (fun c_3 => ?_)
    · have hR := (if_neg c_3).symm.trans hR
      refine lv_aload_n hx hb dX9_right_28 rfl (lv_at hl 0 rfl) ?_
      refine va_get (D := D) (ci := 9) (v := .int (σ 3 0)) (C := RX9) (T := TX9) (N := 51) hx hb hts hu9 hown hK hP 0 wm_0 rfl 3 (by decide) (hts (.fieldLink RX9 131 "GrazeBookModel" "owners" "I") (List.mem_cons_of_mem _ mw_786)) (fun _ h9 => h9) rfl dX9_right_29 ?_
      have hF := pw_free (pn_D (A := A)) hS hA
      refine va_calli (va_runS (As := [.int a2, .int (σ 3 0)]) (rest := []) ⟨hx, hb, hml, hown, hts⟩ (k_X9_isIn l D ca a2 (σ 3 0) H.size _ rfl) (va_cwS 2 hts gX9_right_X9_isIn rfl rfl rfl (by decide +kernel) ⟨Nat.le_of_ble_eq_true rfl, Nat.le_of_ble_eq_true rfl⟩) ⟨pw_blind, pw_give pn_P hK (pn_D (A := A))⟩ rfl rfl hl.1 rfl (lv_room (Nat.le_of_ble_eq_true rfl)) dX9_right_32 ⟨Nat.le_of_ble_eq_true rfl, Nat.le_of_ble_eq_true rfl⟩) hS (fun q _ h => hF q h) hF (fun r_4 u t H1 locs ht hvm hw hB hz1 hk1 hS => ?_)
      subst hw
      have hP := pn_back hP hk1
      clear hB hk1 hz1 hF
      generalize H1 = H at hP hS ⊢
      refine lv_if_eq (tgt := 55) hx hb dX9_right_35 (by decide) (fun c_5 => ?_) (fun c_5 => ?_)
      · have hR := (if_pos c_5).symm.trans hR
        refine lv_aload_n hx hb dX9_right_55 rfl (lv_at hl 0 rfl) ?_
        refine lv_iconst (v := (-1 : Int32)) hx hb dX9_right_56 (by decide) ?_
        have hF := pw_free hD hS hA
        refine va_calli (va_runV (As := [.int (-1 : Int32)]) (rest := []) ⟨hx, hb, hml, hown, hts⟩ (k_X9_refuse l D ca h ad σ (-1 : Int32) H.size hI (by unfold vp_in; decide) _ rfl) (cwV 1 hts gX9_right_X9_refuse rfl rfl rfl (by decide +kernel) ⟨Nat.le_of_ble_eq_true rfl, Nat.le_of_ble_eq_true rfl⟩) ⟨pw_blind, va_recv hK hP (ci := 9) (q0 := 0) rfl wm_0, pw_give hP hK hD⟩ rfl rfl hl.1 rfl (lv_room (Nat.le_of_ble_eq_true rfl)) dX9_right_57 ⟨Nat.le_of_ble_eq_true rfl, Nat.le_of_ble_eq_true rfl⟩) hS (fun q _ h => hF q h) hF (fun r_6 u t H1 locs ht hvm hw hB hz1 hk1 hS => ?_)
        subst hw
        obtain ⟨hB, hI_7⟩ := hB
        obtain ⟨hP, hD⟩ := pw_back hF ht hB
        clear hB hk1 hz1 hF
        generalize H1 = H at hP hS ⊢
        have hI9 : IR ((s_X9_refuse σ (-1 : Int32)).2) := hI_7
        subst hR
        rw [hQ]
        exact W.iret (v := ((s_X9_refuse σ (-1 : Int32)).1)) hx hb hr (fun t ht hW => ⟨⟨((s_X9_refuse σ (-1 : Int32)).1), (), rfl, rfl, ⟨by rw [ht]; exact hP, va_K.moved hW.alike hK, by rw [← hAe]; exact hD⟩, hI9⟩, hS.F ht⟩) hS.2.2 dX9_right_60
      · have hR := (if_neg c_5).symm.trans hR
        refine lv_iload_n hx hb dX9_right_38 rfl (lv_at hl 1 rfl) ?_
        refine lv_iconst (v := (3 : Int32)) hx hb dX9_right_39 (by decide) ?_
        refine lv_icmp_ne (tgt := 61) hx hb dX9_right_40 (by decide) (fun c_8 => ?_) (fun c_8 => ?_)
        · have hR := (if_neg c_8).symm.trans hR
          refine lv_iload_n hx hb dX9_right_61 rfl (lv_at hl 3 rfl) ?_
          refine lv_iconst (v := (1 : Int32)) hx hb dX9_right_62 (by decide) ?_
          refine lv_icmp_lt (tgt := 75) hx hb dX9_right_63 (by decide) (fun c_9 => ?_) (fun c_9 => ?_)
          · have hR := (if_pos c_9).symm.trans hR
            refine lv_aload_n hx hb dX9_right_75 rfl (lv_at hl 0 rfl) ?_
            refine lv_bipush (v := (-4 : Int32)) hx hb dX9_right_76 (by decide) ?_
            have hF := pw_free hD hS hA
            refine va_calli (va_runV (As := [.int (-4 : Int32)]) (rest := []) ⟨hx, hb, hml, hown, hts⟩ (k_X9_refuse l D ca h ad σ (-4 : Int32) H.size hI (by unfold vp_in; decide) _ rfl) (cwV 1 hts gX9_right_X9_refuse rfl rfl rfl (by decide +kernel) ⟨Nat.le_of_ble_eq_true rfl, Nat.le_of_ble_eq_true rfl⟩) ⟨pw_blind, va_recv hK hP (ci := 9) (q0 := 0) rfl wm_0, pw_give hP hK hD⟩ rfl rfl hl.1 rfl (lv_room (Nat.le_of_ble_eq_true rfl)) dX9_right_78 ⟨Nat.le_of_ble_eq_true rfl, Nat.le_of_ble_eq_true rfl⟩) hS (fun q _ h => hF q h) hF (fun r_10 u t H1 locs ht hvm hw hB hz1 hk1 hS => ?_)
            subst hw
            obtain ⟨hB, hI_11⟩ := hB
            obtain ⟨hP, hD⟩ := pw_back hF ht hB
            clear hB hk1 hz1 hF
            generalize H1 = H at hP hS ⊢
            have hI9 : IR ((s_X9_refuse σ (-4 : Int32)).2) := hI_11
            subst hR
            rw [hQ]
            exact W.iret (v := ((s_X9_refuse σ (-4 : Int32)).1)) hx hb hr (fun t ht hW => ⟨⟨((s_X9_refuse σ (-4 : Int32)).1), (), rfl, rfl, ⟨by rw [ht]; exact hP, va_K.moved hW.alike hK, by rw [← hAe]; exact hD⟩, hI9⟩, hS.F ht⟩) hS.2.2 dX9_right_81
          · have hR := (if_neg c_9).symm.trans hR
            refine lv_iload hx hb dX9_right_66 (lv_at hl 4 rfl) ?_
            refine lv_aload_n hx hb dX9_right_68 rfl (lv_at hl 0 rfl) ?_
            refine va_get (D := D) (ci := 9) (v := .int (σ 1 0)) (C := RX9) (T := TX9) (N := 51) hx hb hts hu9 hown hK hP 0 wm_0 rfl 1 (by decide) (hts (.fieldLink RX9 141 "GrazeBookModel" "day" "I") (List.mem_cons_of_mem _ mw_784)) (fun _ h9 => h9) rfl dX9_right_69 ?_
            refine lv_icmp_ge (tgt := 82) hx hb dX9_right_72 (by decide) (fun c_12 => ?_) (fun c_12 => ?_)
            · have hR := (if_pos c_12).symm.trans hR
              refine lv_iload_n hx hb dX9_right_82 rfl (lv_at hl 3 rfl) ?_
              refine lv_sipush (v := (10000 : Int32)) hx hb dX9_right_83 (by decide) ?_
              refine lv_icmp_gt (tgt := 106) hx hb dX9_right_86 (by decide) (fun c_13 => ?_) (fun c_13 => ?_)
              · have hR := (if_pos c_13).symm.trans hR
                refine lv_aload_n hx hb dX9_right_106 rfl (lv_at hl 0 rfl) ?_
                refine lv_bipush (v := (-6 : Int32)) hx hb dX9_right_107 (by decide) ?_
                have hF := pw_free hD hS hA
                refine va_calli (va_runV (As := [.int (-6 : Int32)]) (rest := []) ⟨hx, hb, hml, hown, hts⟩ (k_X9_refuse l D ca h ad σ (-6 : Int32) H.size hI (by unfold vp_in; decide) _ rfl) (cwV 1 hts gX9_right_X9_refuse rfl rfl rfl (by decide +kernel) ⟨Nat.le_of_ble_eq_true rfl, Nat.le_of_ble_eq_true rfl⟩) ⟨pw_blind, va_recv hK hP (ci := 9) (q0 := 0) rfl wm_0, pw_give hP hK hD⟩ rfl rfl hl.1 rfl (lv_room (Nat.le_of_ble_eq_true rfl)) dX9_right_109 ⟨Nat.le_of_ble_eq_true rfl, Nat.le_of_ble_eq_true rfl⟩) hS (fun q _ h => hF q h) hF (fun r_14 u t H1 locs ht hvm hw hB hz1 hk1 hS => ?_)
                subst hw
                obtain ⟨hB, hI_15⟩ := hB
                obtain ⟨hP, hD⟩ := pw_back hF ht hB
                clear hB hk1 hz1 hF
                generalize H1 = H at hP hS ⊢
                have hI9 : IR ((s_X9_refuse σ (-6 : Int32)).2) := hI_15
                subst hR
                rw [hQ]
                exact W.iret (v := ((s_X9_refuse σ (-6 : Int32)).1)) hx hb hr (fun t ht hW => ⟨⟨((s_X9_refuse σ (-6 : Int32)).1), (), rfl, rfl, ⟨by rw [ht]; exact hP, va_K.moved hW.alike hK, by rw [← hAe]; exact hD⟩, hI9⟩, hS.F ht⟩) hS.2.2 dX9_right_112
              · have hR := (if_neg c_13).symm.trans hR
                refine lv_iload hx hb dX9_right_89 (lv_at hl 4 rfl) ?_
                refine lv_sipush (v := (720 : Int32)) hx hb dX9_right_91 (by decide) ?_
                refine lv_icmp_gt (tgt := 106) hx hb dX9_right_94 (by decide) (fun c_16 => ?_) (fun c_16 => ?_)
                · have hR := (if_pos c_16).symm.trans hR
                  refine lv_aload_n hx hb dX9_right_106 rfl (lv_at hl 0 rfl) ?_
                  refine lv_bipush (v := (-6 : Int32)) hx hb dX9_right_107 (by decide) ?_
                  have hF := pw_free hD hS hA
                  refine va_calli (va_runV (As := [.int (-6 : Int32)]) (rest := []) ⟨hx, hb, hml, hown, hts⟩ (k_X9_refuse l D ca h ad σ (-6 : Int32) H.size hI (by unfold vp_in; decide) _ rfl) (cwV 1 hts gX9_right_X9_refuse rfl rfl rfl (by decide +kernel) ⟨Nat.le_of_ble_eq_true rfl, Nat.le_of_ble_eq_true rfl⟩) ⟨pw_blind, va_recv hK hP (ci := 9) (q0 := 0) rfl wm_0, pw_give hP hK hD⟩ rfl rfl hl.1 rfl (lv_room (Nat.le_of_ble_eq_true rfl)) dX9_right_109 ⟨Nat.le_of_ble_eq_true rfl, Nat.le_of_ble_eq_true rfl⟩) hS (fun q _ h => hF q h) hF (fun r_17 u t H1 locs ht hvm hw hB hz1 hk1 hS => ?_)
                  subst hw
                  obtain ⟨hB, hI_18⟩ := hB
                  obtain ⟨hP, hD⟩ := pw_back hF ht hB
                  clear hB hk1 hz1 hF
                  generalize H1 = H at hP hS ⊢
                  have hI9 : IR ((s_X9_refuse σ (-6 : Int32)).2) := hI_18
                  subst hR
                  rw [hQ]
                  exact W.iret (v := ((s_X9_refuse σ (-6 : Int32)).1)) hx hb hr (fun t ht hW => ⟨⟨((s_X9_refuse σ (-6 : Int32)).1), (), rfl, rfl, ⟨by rw [ht]; exact hP, va_K.moved hW.alike hK, by rw [← hAe]; exact hD⟩, hI9⟩, hS.F ht⟩) hS.2.2 dX9_right_112
                · have hR := (if_neg c_16).symm.trans hR
                  refine lv_aload_n hx hb dX9_right_97 rfl (lv_at hl 0 rfl) ?_
                  refine va_get (D := D) (ci := 9) (v := .int (σ 5 0)) (C := RX9) (T := TX9) (N := 51) hx hb hts hu9 hown hK hP 0 wm_0 rfl 5 (by decide) (hts (.fieldLink RX9 148 "GrazeBookModel" "rights" "I") (List.mem_cons_of_mem _ mw_788)) (fun _ h9 => h9) rfl dX9_right_98 ?_
                  refine lv_bipush (v := (60 : Int32)) hx hb dX9_right_101 (by decide) ?_
                  refine lv_icmp_ne (tgt := 113) hx hb dX9_right_103 (by decide) (fun c_19 => ?_) (fun c_19 => ?_)
                  · have hR := (if_neg c_19).symm.trans hR
                    refine lv_aload_n hx hb dX9_right_113 rfl (lv_at hl 0 rfl) ?_
                    refine lv_iload_n hx hb dX9_right_114 rfl (lv_at hl 1 rfl) ?_
                    refine lv_iload_n hx hb dX9_right_115 rfl (lv_at hl 2 rfl) ?_
                    refine lv_iload_n hx hb dX9_right_116 rfl (lv_at hl 3 rfl) ?_
                    refine lv_iload hx hb dX9_right_117 (lv_at hl 4 rfl) ?_
                    refine lv_bipush (v := (-9 : Int32)) hx hb dX9_right_119 (by decide) ?_
                    refine lv_iload hx hb dX9_right_121 (lv_at hl 5 rfl) ?_
                    have hF := pw_free hD hS hA
                    refine va_calli (va_runV (As := [.int a1, .int a2, .int a3, .int a4, .int (-9 : Int32), .int a5]) (rest := []) ⟨hx, hb, hml, hown, hts⟩ (k_X9_adds l D ca h ad σ a1 a2 a3 a4 (-9 : Int32) a5 H.size hI (ix_cnt (ir_5 hI) c_19 (by decide)) (fun _ => vp_10 (ix_isIn c_5 (ir_3 hI))) _ rfl) (cwV 6 hts gX9_right_X9_adds rfl rfl rfl (by decide +kernel) ⟨Nat.le_of_ble_eq_true rfl, Nat.le_of_ble_eq_true rfl⟩) ⟨pw_blind, va_recv hK hP (ci := 9) (q0 := 0) rfl wm_0, pw_give hP hK hD⟩ rfl rfl hl.1 rfl (lv_room (Nat.le_of_ble_eq_true rfl)) dX9_right_123 ⟨Nat.le_of_ble_eq_true rfl, Nat.le_of_ble_eq_true rfl⟩) hS (fun q _ h => hF q h) hF (fun r_20 u t H1 locs ht hvm hw hB hz1 hk1 hS => ?_)
                    subst hw
                    obtain ⟨hB, hI_21⟩ := hB
                    obtain ⟨hP, hD⟩ := pw_back hF ht hB
                    clear hB hk1 hz1 hF
                    generalize H1 = H at hP hS ⊢
                    have hI9 : IR ((s_X9_adds σ a1 a2 a3 a4 (-9 : Int32) a5).2) := hI_21
                    subst hR
                    rw [hQ]
                    exact W.iret (v := ((s_X9_adds σ a1 a2 a3 a4 (-9 : Int32) a5).1)) hx hb hr (fun t ht hW => ⟨⟨((s_X9_adds σ a1 a2 a3 a4 (-9 : Int32) a5).1), (), rfl, rfl, ⟨by rw [ht]; exact hP, va_K.moved hW.alike hK, by rw [← hAe]; exact hD⟩, hI9⟩, hS.F ht⟩) hS.2.2 dX9_right_126
                  · have hR := (if_pos c_19).symm.trans hR
                    refine lv_aload_n hx hb dX9_right_106 rfl (lv_at hl 0 rfl) ?_
                    refine lv_bipush (v := (-6 : Int32)) hx hb dX9_right_107 (by decide) ?_
                    have hF := pw_free hD hS hA
                    refine va_calli (va_runV (As := [.int (-6 : Int32)]) (rest := []) ⟨hx, hb, hml, hown, hts⟩ (k_X9_refuse l D ca h ad σ (-6 : Int32) H.size hI (by unfold vp_in; decide) _ rfl) (cwV 1 hts gX9_right_X9_refuse rfl rfl rfl (by decide +kernel) ⟨Nat.le_of_ble_eq_true rfl, Nat.le_of_ble_eq_true rfl⟩) ⟨pw_blind, va_recv hK hP (ci := 9) (q0 := 0) rfl wm_0, pw_give hP hK hD⟩ rfl rfl hl.1 rfl (lv_room (Nat.le_of_ble_eq_true rfl)) dX9_right_109 ⟨Nat.le_of_ble_eq_true rfl, Nat.le_of_ble_eq_true rfl⟩) hS (fun q _ h => hF q h) hF (fun r_22 u t H1 locs ht hvm hw hB hz1 hk1 hS => ?_)
                    subst hw
                    obtain ⟨hB, hI_23⟩ := hB
                    obtain ⟨hP, hD⟩ := pw_back hF ht hB
                    clear hB hk1 hz1 hF
                    generalize H1 = H at hP hS ⊢
                    have hI9 : IR ((s_X9_refuse σ (-6 : Int32)).2) := hI_23
                    subst hR
                    rw [hQ]
                    exact W.iret (v := ((s_X9_refuse σ (-6 : Int32)).1)) hx hb hr (fun t ht hW => ⟨⟨((s_X9_refuse σ (-6 : Int32)).1), (), rfl, rfl, ⟨by rw [ht]; exact hP, va_K.moved hW.alike hK, by rw [← hAe]; exact hD⟩, hI9⟩, hS.F ht⟩) hS.2.2 dX9_right_112
            · have hR := (if_neg c_12).symm.trans hR
              refine lv_aload_n hx hb dX9_right_75 rfl (lv_at hl 0 rfl) ?_
              refine lv_bipush (v := (-4 : Int32)) hx hb dX9_right_76 (by decide) ?_
              have hF := pw_free hD hS hA
              refine va_calli (va_runV (As := [.int (-4 : Int32)]) (rest := []) ⟨hx, hb, hml, hown, hts⟩ (k_X9_refuse l D ca h ad σ (-4 : Int32) H.size hI (by unfold vp_in; decide) _ rfl) (cwV 1 hts gX9_right_X9_refuse rfl rfl rfl (by decide +kernel) ⟨Nat.le_of_ble_eq_true rfl, Nat.le_of_ble_eq_true rfl⟩) ⟨pw_blind, va_recv hK hP (ci := 9) (q0 := 0) rfl wm_0, pw_give hP hK hD⟩ rfl rfl hl.1 rfl (lv_room (Nat.le_of_ble_eq_true rfl)) dX9_right_78 ⟨Nat.le_of_ble_eq_true rfl, Nat.le_of_ble_eq_true rfl⟩) hS (fun q _ h => hF q h) hF (fun r_24 u t H1 locs ht hvm hw hB hz1 hk1 hS => ?_)
              subst hw
              obtain ⟨hB, hI_25⟩ := hB
              obtain ⟨hP, hD⟩ := pw_back hF ht hB
              clear hB hk1 hz1 hF
              generalize H1 = H at hP hS ⊢
              have hI9 : IR ((s_X9_refuse σ (-4 : Int32)).2) := hI_25
              subst hR
              rw [hQ]
              exact W.iret (v := ((s_X9_refuse σ (-4 : Int32)).1)) hx hb hr (fun t ht hW => ⟨⟨((s_X9_refuse σ (-4 : Int32)).1), (), rfl, rfl, ⟨by rw [ht]; exact hP, va_K.moved hW.alike hK, by rw [← hAe]; exact hD⟩, hI9⟩, hS.F ht⟩) hS.2.2 dX9_right_81
        · have hR := (if_pos c_8).symm.trans hR
          refine lv_iload hx hb dX9_right_43 (lv_at hl 5 rfl) ?_
          refine lv_aload_n hx hb dX9_right_45 rfl (lv_at hl 0 rfl) ?_
          refine va_get (D := D) (ci := 9) (v := .int (σ 2 0)) (C := RX9) (T := TX9) (N := 51) hx hb hts hu9 hown hK hP 0 wm_0 rfl 2 (by decide) (hts (.fieldLink RX9 127 "GrazeBookModel" "pieces" "I") (List.mem_cons_of_mem _ mw_785)) (fun _ h9 => h9) rfl dX9_right_46 ?_
          have hF := pw_free (pn_D (A := A)) hS hA
          refine va_calli (va_runS (As := [.int a5, .int (σ 2 0)]) (rest := []) ⟨hx, hb, hml, hown, hts⟩ (k_X9_isIn l D ca a5 (σ 2 0) H.size _ rfl) (va_cwS 2 hts gX9_right_X9_isIn rfl rfl rfl (by decide +kernel) ⟨Nat.le_of_ble_eq_true rfl, Nat.le_of_ble_eq_true rfl⟩) ⟨pw_blind, pw_give pn_P hK (pn_D (A := A))⟩ rfl rfl hl.1 rfl (lv_room (Nat.le_of_ble_eq_true rfl)) dX9_right_49 ⟨Nat.le_of_ble_eq_true rfl, Nat.le_of_ble_eq_true rfl⟩) hS (fun q _ h => hF q h) hF (fun r_26 u t H1 locs ht hvm hw hB hz1 hk1 hS => ?_)
          subst hw
          have hP := pn_back hP hk1
          clear hB hk1 hz1 hF
          generalize H1 = H at hP hS ⊢
          refine lv_if_ne (tgt := 61) hx hb dX9_right_52 (by decide) (fun c_27 => ?_) (fun c_27 => ?_)
          · have hR := (if_neg c_27).symm.trans hR
            refine lv_iload_n hx hb dX9_right_61 rfl (lv_at hl 3 rfl) ?_
            refine lv_iconst (v := (1 : Int32)) hx hb dX9_right_62 (by decide) ?_
            refine lv_icmp_lt (tgt := 75) hx hb dX9_right_63 (by decide) (fun c_28 => ?_) (fun c_28 => ?_)
            · have hR := (if_pos c_28).symm.trans hR
              refine lv_aload_n hx hb dX9_right_75 rfl (lv_at hl 0 rfl) ?_
              refine lv_bipush (v := (-4 : Int32)) hx hb dX9_right_76 (by decide) ?_
              have hF := pw_free hD hS hA
              refine va_calli (va_runV (As := [.int (-4 : Int32)]) (rest := []) ⟨hx, hb, hml, hown, hts⟩ (k_X9_refuse l D ca h ad σ (-4 : Int32) H.size hI (by unfold vp_in; decide) _ rfl) (cwV 1 hts gX9_right_X9_refuse rfl rfl rfl (by decide +kernel) ⟨Nat.le_of_ble_eq_true rfl, Nat.le_of_ble_eq_true rfl⟩) ⟨pw_blind, va_recv hK hP (ci := 9) (q0 := 0) rfl wm_0, pw_give hP hK hD⟩ rfl rfl hl.1 rfl (lv_room (Nat.le_of_ble_eq_true rfl)) dX9_right_78 ⟨Nat.le_of_ble_eq_true rfl, Nat.le_of_ble_eq_true rfl⟩) hS (fun q _ h => hF q h) hF (fun r_29 u t H1 locs ht hvm hw hB hz1 hk1 hS => ?_)
              subst hw
              obtain ⟨hB, hI_30⟩ := hB
              obtain ⟨hP, hD⟩ := pw_back hF ht hB
              clear hB hk1 hz1 hF
              generalize H1 = H at hP hS ⊢
              have hI9 : IR ((s_X9_refuse σ (-4 : Int32)).2) := hI_30
              subst hR
              rw [hQ]
              exact W.iret (v := ((s_X9_refuse σ (-4 : Int32)).1)) hx hb hr (fun t ht hW => ⟨⟨((s_X9_refuse σ (-4 : Int32)).1), (), rfl, rfl, ⟨by rw [ht]; exact hP, va_K.moved hW.alike hK, by rw [← hAe]; exact hD⟩, hI9⟩, hS.F ht⟩) hS.2.2 dX9_right_81
            · have hR := (if_neg c_28).symm.trans hR
              refine lv_iload hx hb dX9_right_66 (lv_at hl 4 rfl) ?_
              refine lv_aload_n hx hb dX9_right_68 rfl (lv_at hl 0 rfl) ?_
              refine va_get (D := D) (ci := 9) (v := .int (σ 1 0)) (C := RX9) (T := TX9) (N := 51) hx hb hts hu9 hown hK hP 0 wm_0 rfl 1 (by decide) (hts (.fieldLink RX9 141 "GrazeBookModel" "day" "I") (List.mem_cons_of_mem _ mw_784)) (fun _ h9 => h9) rfl dX9_right_69 ?_
              refine lv_icmp_ge (tgt := 82) hx hb dX9_right_72 (by decide) (fun c_31 => ?_) (fun c_31 => ?_)
              · have hR := (if_pos c_31).symm.trans hR
                refine lv_iload_n hx hb dX9_right_82 rfl (lv_at hl 3 rfl) ?_
                refine lv_sipush (v := (10000 : Int32)) hx hb dX9_right_83 (by decide) ?_
                refine lv_icmp_gt (tgt := 106) hx hb dX9_right_86 (by decide) (fun c_32 => ?_) (fun c_32 => ?_)
                · have hR := (if_pos c_32).symm.trans hR
                  refine lv_aload_n hx hb dX9_right_106 rfl (lv_at hl 0 rfl) ?_
                  refine lv_bipush (v := (-6 : Int32)) hx hb dX9_right_107 (by decide) ?_
                  have hF := pw_free hD hS hA
                  refine va_calli (va_runV (As := [.int (-6 : Int32)]) (rest := []) ⟨hx, hb, hml, hown, hts⟩ (k_X9_refuse l D ca h ad σ (-6 : Int32) H.size hI (by unfold vp_in; decide) _ rfl) (cwV 1 hts gX9_right_X9_refuse rfl rfl rfl (by decide +kernel) ⟨Nat.le_of_ble_eq_true rfl, Nat.le_of_ble_eq_true rfl⟩) ⟨pw_blind, va_recv hK hP (ci := 9) (q0 := 0) rfl wm_0, pw_give hP hK hD⟩ rfl rfl hl.1 rfl (lv_room (Nat.le_of_ble_eq_true rfl)) dX9_right_109 ⟨Nat.le_of_ble_eq_true rfl, Nat.le_of_ble_eq_true rfl⟩) hS (fun q _ h => hF q h) hF (fun r_33 u t H1 locs ht hvm hw hB hz1 hk1 hS => ?_)
                  subst hw
                  obtain ⟨hB, hI_34⟩ := hB
                  obtain ⟨hP, hD⟩ := pw_back hF ht hB
                  clear hB hk1 hz1 hF
                  generalize H1 = H at hP hS ⊢
                  have hI9 : IR ((s_X9_refuse σ (-6 : Int32)).2) := hI_34
                  subst hR
                  rw [hQ]
                  exact W.iret (v := ((s_X9_refuse σ (-6 : Int32)).1)) hx hb hr (fun t ht hW => ⟨⟨((s_X9_refuse σ (-6 : Int32)).1), (), rfl, rfl, ⟨by rw [ht]; exact hP, va_K.moved hW.alike hK, by rw [← hAe]; exact hD⟩, hI9⟩, hS.F ht⟩) hS.2.2 dX9_right_112
                · have hR := (if_neg c_32).symm.trans hR
                  refine lv_iload hx hb dX9_right_89 (lv_at hl 4 rfl) ?_
                  refine lv_sipush (v := (720 : Int32)) hx hb dX9_right_91 (by decide) ?_
                  refine lv_icmp_gt (tgt := 106) hx hb dX9_right_94 (by decide) (fun c_35 => ?_) (fun c_35 => ?_)
                  · have hR := (if_pos c_35).symm.trans hR
                    refine lv_aload_n hx hb dX9_right_106 rfl (lv_at hl 0 rfl) ?_
                    refine lv_bipush (v := (-6 : Int32)) hx hb dX9_right_107 (by decide) ?_
                    have hF := pw_free hD hS hA
                    refine va_calli (va_runV (As := [.int (-6 : Int32)]) (rest := []) ⟨hx, hb, hml, hown, hts⟩ (k_X9_refuse l D ca h ad σ (-6 : Int32) H.size hI (by unfold vp_in; decide) _ rfl) (cwV 1 hts gX9_right_X9_refuse rfl rfl rfl (by decide +kernel) ⟨Nat.le_of_ble_eq_true rfl, Nat.le_of_ble_eq_true rfl⟩) ⟨pw_blind, va_recv hK hP (ci := 9) (q0 := 0) rfl wm_0, pw_give hP hK hD⟩ rfl rfl hl.1 rfl (lv_room (Nat.le_of_ble_eq_true rfl)) dX9_right_109 ⟨Nat.le_of_ble_eq_true rfl, Nat.le_of_ble_eq_true rfl⟩) hS (fun q _ h => hF q h) hF (fun r_36 u t H1 locs ht hvm hw hB hz1 hk1 hS => ?_)
                    subst hw
                    obtain ⟨hB, hI_37⟩ := hB
                    obtain ⟨hP, hD⟩ := pw_back hF ht hB
                    clear hB hk1 hz1 hF
                    generalize H1 = H at hP hS ⊢
                    have hI9 : IR ((s_X9_refuse σ (-6 : Int32)).2) := hI_37
                    subst hR
                    rw [hQ]
                    exact W.iret (v := ((s_X9_refuse σ (-6 : Int32)).1)) hx hb hr (fun t ht hW => ⟨⟨((s_X9_refuse σ (-6 : Int32)).1), (), rfl, rfl, ⟨by rw [ht]; exact hP, va_K.moved hW.alike hK, by rw [← hAe]; exact hD⟩, hI9⟩, hS.F ht⟩) hS.2.2 dX9_right_112
                  · have hR := (if_neg c_35).symm.trans hR
                    refine lv_aload_n hx hb dX9_right_97 rfl (lv_at hl 0 rfl) ?_
                    refine va_get (D := D) (ci := 9) (v := .int (σ 5 0)) (C := RX9) (T := TX9) (N := 51) hx hb hts hu9 hown hK hP 0 wm_0 rfl 5 (by decide) (hts (.fieldLink RX9 148 "GrazeBookModel" "rights" "I") (List.mem_cons_of_mem _ mw_788)) (fun _ h9 => h9) rfl dX9_right_98 ?_
                    refine lv_bipush (v := (60 : Int32)) hx hb dX9_right_101 (by decide) ?_
                    refine lv_icmp_ne (tgt := 113) hx hb dX9_right_103 (by decide) (fun c_38 => ?_) (fun c_38 => ?_)
                    · have hR := (if_neg c_38).symm.trans hR
                      refine lv_aload_n hx hb dX9_right_113 rfl (lv_at hl 0 rfl) ?_
                      refine lv_iload_n hx hb dX9_right_114 rfl (lv_at hl 1 rfl) ?_
                      refine lv_iload_n hx hb dX9_right_115 rfl (lv_at hl 2 rfl) ?_
                      refine lv_iload_n hx hb dX9_right_116 rfl (lv_at hl 3 rfl) ?_
                      refine lv_iload hx hb dX9_right_117 (lv_at hl 4 rfl) ?_
                      refine lv_bipush (v := (-9 : Int32)) hx hb dX9_right_119 (by decide) ?_
                      refine lv_iload hx hb dX9_right_121 (lv_at hl 5 rfl) ?_
                      have hF := pw_free hD hS hA
                      refine va_calli (va_runV (As := [.int a1, .int a2, .int a3, .int a4, .int (-9 : Int32), .int a5]) (rest := []) ⟨hx, hb, hml, hown, hts⟩ (k_X9_adds l D ca h ad σ a1 a2 a3 a4 (-9 : Int32) a5 H.size hI (ix_cnt (ir_5 hI) c_38 (by decide)) (fun _ => vp_10 (ix_isIn c_5 (ir_3 hI))) _ rfl) (cwV 6 hts gX9_right_X9_adds rfl rfl rfl (by decide +kernel) ⟨Nat.le_of_ble_eq_true rfl, Nat.le_of_ble_eq_true rfl⟩) ⟨pw_blind, va_recv hK hP (ci := 9) (q0 := 0) rfl wm_0, pw_give hP hK hD⟩ rfl rfl hl.1 rfl (lv_room (Nat.le_of_ble_eq_true rfl)) dX9_right_123 ⟨Nat.le_of_ble_eq_true rfl, Nat.le_of_ble_eq_true rfl⟩) hS (fun q _ h => hF q h) hF (fun r_39 u t H1 locs ht hvm hw hB hz1 hk1 hS => ?_)
                      subst hw
                      obtain ⟨hB, hI_40⟩ := hB
                      obtain ⟨hP, hD⟩ := pw_back hF ht hB
                      clear hB hk1 hz1 hF
                      generalize H1 = H at hP hS ⊢
                      have hI9 : IR ((s_X9_adds σ a1 a2 a3 a4 (-9 : Int32) a5).2) := hI_40
                      subst hR
                      rw [hQ]
                      exact W.iret (v := ((s_X9_adds σ a1 a2 a3 a4 (-9 : Int32) a5).1)) hx hb hr (fun t ht hW => ⟨⟨((s_X9_adds σ a1 a2 a3 a4 (-9 : Int32) a5).1), (), rfl, rfl, ⟨by rw [ht]; exact hP, va_K.moved hW.alike hK, by rw [← hAe]; exact hD⟩, hI9⟩, hS.F ht⟩) hS.2.2 dX9_right_126
                    · have hR := (if_pos c_38).symm.trans hR
                      refine lv_aload_n hx hb dX9_right_106 rfl (lv_at hl 0 rfl) ?_
                      refine lv_bipush (v := (-6 : Int32)) hx hb dX9_right_107 (by decide) ?_
                      have hF := pw_free hD hS hA
                      refine va_calli (va_runV (As := [.int (-6 : Int32)]) (rest := []) ⟨hx, hb, hml, hown, hts⟩ (k_X9_refuse l D ca h ad σ (-6 : Int32) H.size hI (by unfold vp_in; decide) _ rfl) (cwV 1 hts gX9_right_X9_refuse rfl rfl rfl (by decide +kernel) ⟨Nat.le_of_ble_eq_true rfl, Nat.le_of_ble_eq_true rfl⟩) ⟨pw_blind, va_recv hK hP (ci := 9) (q0 := 0) rfl wm_0, pw_give hP hK hD⟩ rfl rfl hl.1 rfl (lv_room (Nat.le_of_ble_eq_true rfl)) dX9_right_109 ⟨Nat.le_of_ble_eq_true rfl, Nat.le_of_ble_eq_true rfl⟩) hS (fun q _ h => hF q h) hF (fun r_41 u t H1 locs ht hvm hw hB hz1 hk1 hS => ?_)
                      subst hw
                      obtain ⟨hB, hI_42⟩ := hB
                      obtain ⟨hP, hD⟩ := pw_back hF ht hB
                      clear hB hk1 hz1 hF
                      generalize H1 = H at hP hS ⊢
                      have hI9 : IR ((s_X9_refuse σ (-6 : Int32)).2) := hI_42
                      subst hR
                      rw [hQ]
                      exact W.iret (v := ((s_X9_refuse σ (-6 : Int32)).1)) hx hb hr (fun t ht hW => ⟨⟨((s_X9_refuse σ (-6 : Int32)).1), (), rfl, rfl, ⟨by rw [ht]; exact hP, va_K.moved hW.alike hK, by rw [← hAe]; exact hD⟩, hI9⟩, hS.F ht⟩) hS.2.2 dX9_right_112
              · have hR := (if_neg c_31).symm.trans hR
                refine lv_aload_n hx hb dX9_right_75 rfl (lv_at hl 0 rfl) ?_
                refine lv_bipush (v := (-4 : Int32)) hx hb dX9_right_76 (by decide) ?_
                have hF := pw_free hD hS hA
                refine va_calli (va_runV (As := [.int (-4 : Int32)]) (rest := []) ⟨hx, hb, hml, hown, hts⟩ (k_X9_refuse l D ca h ad σ (-4 : Int32) H.size hI (by unfold vp_in; decide) _ rfl) (cwV 1 hts gX9_right_X9_refuse rfl rfl rfl (by decide +kernel) ⟨Nat.le_of_ble_eq_true rfl, Nat.le_of_ble_eq_true rfl⟩) ⟨pw_blind, va_recv hK hP (ci := 9) (q0 := 0) rfl wm_0, pw_give hP hK hD⟩ rfl rfl hl.1 rfl (lv_room (Nat.le_of_ble_eq_true rfl)) dX9_right_78 ⟨Nat.le_of_ble_eq_true rfl, Nat.le_of_ble_eq_true rfl⟩) hS (fun q _ h => hF q h) hF (fun r_43 u t H1 locs ht hvm hw hB hz1 hk1 hS => ?_)
                subst hw
                obtain ⟨hB, hI_44⟩ := hB
                obtain ⟨hP, hD⟩ := pw_back hF ht hB
                clear hB hk1 hz1 hF
                generalize H1 = H at hP hS ⊢
                have hI9 : IR ((s_X9_refuse σ (-4 : Int32)).2) := hI_44
                subst hR
                rw [hQ]
                exact W.iret (v := ((s_X9_refuse σ (-4 : Int32)).1)) hx hb hr (fun t ht hW => ⟨⟨((s_X9_refuse σ (-4 : Int32)).1), (), rfl, rfl, ⟨by rw [ht]; exact hP, va_K.moved hW.alike hK, by rw [← hAe]; exact hD⟩, hI9⟩, hS.F ht⟩) hS.2.2 dX9_right_81
          · have hR := (if_pos c_27).symm.trans hR
            refine lv_aload_n hx hb dX9_right_55 rfl (lv_at hl 0 rfl) ?_
            refine lv_iconst (v := (-1 : Int32)) hx hb dX9_right_56 (by decide) ?_
            have hF := pw_free hD hS hA
            refine va_calli (va_runV (As := [.int (-1 : Int32)]) (rest := []) ⟨hx, hb, hml, hown, hts⟩ (k_X9_refuse l D ca h ad σ (-1 : Int32) H.size hI (by unfold vp_in; decide) _ rfl) (cwV 1 hts gX9_right_X9_refuse rfl rfl rfl (by decide +kernel) ⟨Nat.le_of_ble_eq_true rfl, Nat.le_of_ble_eq_true rfl⟩) ⟨pw_blind, va_recv hK hP (ci := 9) (q0 := 0) rfl wm_0, pw_give hP hK hD⟩ rfl rfl hl.1 rfl (lv_room (Nat.le_of_ble_eq_true rfl)) dX9_right_57 ⟨Nat.le_of_ble_eq_true rfl, Nat.le_of_ble_eq_true rfl⟩) hS (fun q _ h => hF q h) hF (fun r_45 u t H1 locs ht hvm hw hB hz1 hk1 hS => ?_)
            subst hw
            obtain ⟨hB, hI_46⟩ := hB
            obtain ⟨hP, hD⟩ := pw_back hF ht hB
            clear hB hk1 hz1 hF
            generalize H1 = H at hP hS ⊢
            have hI9 : IR ((s_X9_refuse σ (-1 : Int32)).2) := hI_46
            subst hR
            rw [hQ]
            exact W.iret (v := ((s_X9_refuse σ (-1 : Int32)).1)) hx hb hr (fun t ht hW => ⟨⟨((s_X9_refuse σ (-1 : Int32)).1), (), rfl, rfl, ⟨by rw [ht]; exact hP, va_K.moved hW.alike hK, by rw [← hAe]; exact hD⟩, hI9⟩, hS.F ht⟩) hS.2.2 dX9_right_60
    · have hR := (if_pos c_3).symm.trans hR
      refine lv_aload_n hx hb dX9_right_21 rfl (lv_at hl 0 rfl) ?_
      refine va_get (D := D) (ci := 9) (v := .int (σ 4 0)) (C := RX9) (T := TX9) (N := 51) hx hb hts hu9 hown hK hP 0 wm_0 rfl 4 (by decide) (hts (.fieldLink RX9 138 "GrazeBookModel" "houses" "I") (List.mem_cons_of_mem _ mw_787)) (fun _ h9 => h9) rfl dX9_right_22 ?_
      refine lv_goto (tgt := 32) hx hb dX9_right_25 (by decide) ?_
      have hF := pw_free (pn_D (A := A)) hS hA
      refine va_calli (va_runS (As := [.int a2, .int (σ 4 0)]) (rest := []) ⟨hx, hb, hml, hown, hts⟩ (k_X9_isIn l D ca a2 (σ 4 0) H.size _ rfl) (va_cwS 2 hts gX9_right_X9_isIn rfl rfl rfl (by decide +kernel) ⟨Nat.le_of_ble_eq_true rfl, Nat.le_of_ble_eq_true rfl⟩) ⟨pw_blind, pw_give pn_P hK (pn_D (A := A))⟩ rfl rfl hl.1 rfl (lv_room (Nat.le_of_ble_eq_true rfl)) dX9_right_32 ⟨Nat.le_of_ble_eq_true rfl, Nat.le_of_ble_eq_true rfl⟩) hS (fun q _ h => hF q h) hF (fun r_47 u t H1 locs ht hvm hw hB hz1 hk1 hS => ?_)
      subst hw
      have hP := pn_back hP hk1
      clear hB hk1 hz1 hF
      generalize H1 = H at hP hS ⊢
      refine lv_if_eq (tgt := 55) hx hb dX9_right_35 (by decide) (fun c_48 => ?_) (fun c_48 => ?_)
      · have hR := (if_pos c_48).symm.trans hR
        refine lv_aload_n hx hb dX9_right_55 rfl (lv_at hl 0 rfl) ?_
        refine lv_iconst (v := (-1 : Int32)) hx hb dX9_right_56 (by decide) ?_
        have hF := pw_free hD hS hA
        refine va_calli (va_runV (As := [.int (-1 : Int32)]) (rest := []) ⟨hx, hb, hml, hown, hts⟩ (k_X9_refuse l D ca h ad σ (-1 : Int32) H.size hI (by unfold vp_in; decide) _ rfl) (cwV 1 hts gX9_right_X9_refuse rfl rfl rfl (by decide +kernel) ⟨Nat.le_of_ble_eq_true rfl, Nat.le_of_ble_eq_true rfl⟩) ⟨pw_blind, va_recv hK hP (ci := 9) (q0 := 0) rfl wm_0, pw_give hP hK hD⟩ rfl rfl hl.1 rfl (lv_room (Nat.le_of_ble_eq_true rfl)) dX9_right_57 ⟨Nat.le_of_ble_eq_true rfl, Nat.le_of_ble_eq_true rfl⟩) hS (fun q _ h => hF q h) hF (fun r_49 u t H1 locs ht hvm hw hB hz1 hk1 hS => ?_)
        subst hw
        obtain ⟨hB, hI_50⟩ := hB
        obtain ⟨hP, hD⟩ := pw_back hF ht hB
        clear hB hk1 hz1 hF
        generalize H1 = H at hP hS ⊢
        have hI9 : IR ((s_X9_refuse σ (-1 : Int32)).2) := hI_50
        subst hR
        rw [hQ]
        exact W.iret (v := ((s_X9_refuse σ (-1 : Int32)).1)) hx hb hr (fun t ht hW => ⟨⟨((s_X9_refuse σ (-1 : Int32)).1), (), rfl, rfl, ⟨by rw [ht]; exact hP, va_K.moved hW.alike hK, by rw [← hAe]; exact hD⟩, hI9⟩, hS.F ht⟩) hS.2.2 dX9_right_60
      · have hR := (if_neg c_48).symm.trans hR
        refine lv_iload_n hx hb dX9_right_38 rfl (lv_at hl 1 rfl) ?_
        refine lv_iconst (v := (3 : Int32)) hx hb dX9_right_39 (by decide) ?_
        refine lv_icmp_ne (tgt := 61) hx hb dX9_right_40 (by decide) (fun c_51 => ?_) (fun c_51 => ?_)
        · have hR := (if_neg c_51).symm.trans hR
          refine lv_iload_n hx hb dX9_right_61 rfl (lv_at hl 3 rfl) ?_
          refine lv_iconst (v := (1 : Int32)) hx hb dX9_right_62 (by decide) ?_
          refine lv_icmp_lt (tgt := 75) hx hb dX9_right_63 (by decide) (fun c_52 => ?_) (fun c_52 => ?_)
          · have hR := (if_pos c_52).symm.trans hR
            refine lv_aload_n hx hb dX9_right_75 rfl (lv_at hl 0 rfl) ?_
            refine lv_bipush (v := (-4 : Int32)) hx hb dX9_right_76 (by decide) ?_
            have hF := pw_free hD hS hA
            refine va_calli (va_runV (As := [.int (-4 : Int32)]) (rest := []) ⟨hx, hb, hml, hown, hts⟩ (k_X9_refuse l D ca h ad σ (-4 : Int32) H.size hI (by unfold vp_in; decide) _ rfl) (cwV 1 hts gX9_right_X9_refuse rfl rfl rfl (by decide +kernel) ⟨Nat.le_of_ble_eq_true rfl, Nat.le_of_ble_eq_true rfl⟩) ⟨pw_blind, va_recv hK hP (ci := 9) (q0 := 0) rfl wm_0, pw_give hP hK hD⟩ rfl rfl hl.1 rfl (lv_room (Nat.le_of_ble_eq_true rfl)) dX9_right_78 ⟨Nat.le_of_ble_eq_true rfl, Nat.le_of_ble_eq_true rfl⟩) hS (fun q _ h => hF q h) hF (fun r_53 u t H1 locs ht hvm hw hB hz1 hk1 hS => ?_)
            subst hw
            obtain ⟨hB, hI_54⟩ := hB
            obtain ⟨hP, hD⟩ := pw_back hF ht hB
            clear hB hk1 hz1 hF
            generalize H1 = H at hP hS ⊢
            have hI9 : IR ((s_X9_refuse σ (-4 : Int32)).2) := hI_54
            subst hR
            rw [hQ]
            exact W.iret (v := ((s_X9_refuse σ (-4 : Int32)).1)) hx hb hr (fun t ht hW => ⟨⟨((s_X9_refuse σ (-4 : Int32)).1), (), rfl, rfl, ⟨by rw [ht]; exact hP, va_K.moved hW.alike hK, by rw [← hAe]; exact hD⟩, hI9⟩, hS.F ht⟩) hS.2.2 dX9_right_81
          · have hR := (if_neg c_52).symm.trans hR
            refine lv_iload hx hb dX9_right_66 (lv_at hl 4 rfl) ?_
            refine lv_aload_n hx hb dX9_right_68 rfl (lv_at hl 0 rfl) ?_
            refine va_get (D := D) (ci := 9) (v := .int (σ 1 0)) (C := RX9) (T := TX9) (N := 51) hx hb hts hu9 hown hK hP 0 wm_0 rfl 1 (by decide) (hts (.fieldLink RX9 141 "GrazeBookModel" "day" "I") (List.mem_cons_of_mem _ mw_784)) (fun _ h9 => h9) rfl dX9_right_69 ?_
            refine lv_icmp_ge (tgt := 82) hx hb dX9_right_72 (by decide) (fun c_55 => ?_) (fun c_55 => ?_)
            · have hR := (if_pos c_55).symm.trans hR
              refine lv_iload_n hx hb dX9_right_82 rfl (lv_at hl 3 rfl) ?_
              refine lv_sipush (v := (10000 : Int32)) hx hb dX9_right_83 (by decide) ?_
              refine lv_icmp_gt (tgt := 106) hx hb dX9_right_86 (by decide) (fun c_56 => ?_) (fun c_56 => ?_)
              · have hR := (if_pos c_56).symm.trans hR
                refine lv_aload_n hx hb dX9_right_106 rfl (lv_at hl 0 rfl) ?_
                refine lv_bipush (v := (-6 : Int32)) hx hb dX9_right_107 (by decide) ?_
                have hF := pw_free hD hS hA
                refine va_calli (va_runV (As := [.int (-6 : Int32)]) (rest := []) ⟨hx, hb, hml, hown, hts⟩ (k_X9_refuse l D ca h ad σ (-6 : Int32) H.size hI (by unfold vp_in; decide) _ rfl) (cwV 1 hts gX9_right_X9_refuse rfl rfl rfl (by decide +kernel) ⟨Nat.le_of_ble_eq_true rfl, Nat.le_of_ble_eq_true rfl⟩) ⟨pw_blind, va_recv hK hP (ci := 9) (q0 := 0) rfl wm_0, pw_give hP hK hD⟩ rfl rfl hl.1 rfl (lv_room (Nat.le_of_ble_eq_true rfl)) dX9_right_109 ⟨Nat.le_of_ble_eq_true rfl, Nat.le_of_ble_eq_true rfl⟩) hS (fun q _ h => hF q h) hF (fun r_57 u t H1 locs ht hvm hw hB hz1 hk1 hS => ?_)
                subst hw
                obtain ⟨hB, hI_58⟩ := hB
                obtain ⟨hP, hD⟩ := pw_back hF ht hB
                clear hB hk1 hz1 hF
                generalize H1 = H at hP hS ⊢
                have hI9 : IR ((s_X9_refuse σ (-6 : Int32)).2) := hI_58
                subst hR
                rw [hQ]
                exact W.iret (v := ((s_X9_refuse σ (-6 : Int32)).1)) hx hb hr (fun t ht hW => ⟨⟨((s_X9_refuse σ (-6 : Int32)).1), (), rfl, rfl, ⟨by rw [ht]; exact hP, va_K.moved hW.alike hK, by rw [← hAe]; exact hD⟩, hI9⟩, hS.F ht⟩) hS.2.2 dX9_right_112
              · have hR := (if_neg c_56).symm.trans hR
                refine lv_iload hx hb dX9_right_89 (lv_at hl 4 rfl) ?_
                refine lv_sipush (v := (720 : Int32)) hx hb dX9_right_91 (by decide) ?_
                refine lv_icmp_gt (tgt := 106) hx hb dX9_right_94 (by decide) (fun c_59 => ?_) (fun c_59 => ?_)
                · have hR := (if_pos c_59).symm.trans hR
                  refine lv_aload_n hx hb dX9_right_106 rfl (lv_at hl 0 rfl) ?_
                  refine lv_bipush (v := (-6 : Int32)) hx hb dX9_right_107 (by decide) ?_
                  have hF := pw_free hD hS hA
                  refine va_calli (va_runV (As := [.int (-6 : Int32)]) (rest := []) ⟨hx, hb, hml, hown, hts⟩ (k_X9_refuse l D ca h ad σ (-6 : Int32) H.size hI (by unfold vp_in; decide) _ rfl) (cwV 1 hts gX9_right_X9_refuse rfl rfl rfl (by decide +kernel) ⟨Nat.le_of_ble_eq_true rfl, Nat.le_of_ble_eq_true rfl⟩) ⟨pw_blind, va_recv hK hP (ci := 9) (q0 := 0) rfl wm_0, pw_give hP hK hD⟩ rfl rfl hl.1 rfl (lv_room (Nat.le_of_ble_eq_true rfl)) dX9_right_109 ⟨Nat.le_of_ble_eq_true rfl, Nat.le_of_ble_eq_true rfl⟩) hS (fun q _ h => hF q h) hF (fun r_60 u t H1 locs ht hvm hw hB hz1 hk1 hS => ?_)
                  subst hw
                  obtain ⟨hB, hI_61⟩ := hB
                  obtain ⟨hP, hD⟩ := pw_back hF ht hB
                  clear hB hk1 hz1 hF
                  generalize H1 = H at hP hS ⊢
                  have hI9 : IR ((s_X9_refuse σ (-6 : Int32)).2) := hI_61
                  subst hR
                  rw [hQ]
                  exact W.iret (v := ((s_X9_refuse σ (-6 : Int32)).1)) hx hb hr (fun t ht hW => ⟨⟨((s_X9_refuse σ (-6 : Int32)).1), (), rfl, rfl, ⟨by rw [ht]; exact hP, va_K.moved hW.alike hK, by rw [← hAe]; exact hD⟩, hI9⟩, hS.F ht⟩) hS.2.2 dX9_right_112
                · have hR := (if_neg c_59).symm.trans hR
                  refine lv_aload_n hx hb dX9_right_97 rfl (lv_at hl 0 rfl) ?_
                  refine va_get (D := D) (ci := 9) (v := .int (σ 5 0)) (C := RX9) (T := TX9) (N := 51) hx hb hts hu9 hown hK hP 0 wm_0 rfl 5 (by decide) (hts (.fieldLink RX9 148 "GrazeBookModel" "rights" "I") (List.mem_cons_of_mem _ mw_788)) (fun _ h9 => h9) rfl dX9_right_98 ?_
                  refine lv_bipush (v := (60 : Int32)) hx hb dX9_right_101 (by decide) ?_
                  refine lv_icmp_ne (tgt := 113) hx hb dX9_right_103 (by decide) (fun c_62 => ?_) (fun c_62 => ?_)
                  · have hR := (if_neg c_62).symm.trans hR
                    refine lv_aload_n hx hb dX9_right_113 rfl (lv_at hl 0 rfl) ?_
                    refine lv_iload_n hx hb dX9_right_114 rfl (lv_at hl 1 rfl) ?_
                    refine lv_iload_n hx hb dX9_right_115 rfl (lv_at hl 2 rfl) ?_
                    refine lv_iload_n hx hb dX9_right_116 rfl (lv_at hl 3 rfl) ?_
                    refine lv_iload hx hb dX9_right_117 (lv_at hl 4 rfl) ?_
                    refine lv_bipush (v := (-9 : Int32)) hx hb dX9_right_119 (by decide) ?_
                    refine lv_iload hx hb dX9_right_121 (lv_at hl 5 rfl) ?_
                    have hF := pw_free hD hS hA
                    refine va_calli (va_runV (As := [.int a1, .int a2, .int a3, .int a4, .int (-9 : Int32), .int a5]) (rest := []) ⟨hx, hb, hml, hown, hts⟩ (k_X9_adds l D ca h ad σ a1 a2 a3 a4 (-9 : Int32) a5 H.size hI (ix_cnt (ir_5 hI) c_62 (by decide)) (fun _ => vp_10 (ix_isIn c_48 (ir_4 hI))) _ rfl) (cwV 6 hts gX9_right_X9_adds rfl rfl rfl (by decide +kernel) ⟨Nat.le_of_ble_eq_true rfl, Nat.le_of_ble_eq_true rfl⟩) ⟨pw_blind, va_recv hK hP (ci := 9) (q0 := 0) rfl wm_0, pw_give hP hK hD⟩ rfl rfl hl.1 rfl (lv_room (Nat.le_of_ble_eq_true rfl)) dX9_right_123 ⟨Nat.le_of_ble_eq_true rfl, Nat.le_of_ble_eq_true rfl⟩) hS (fun q _ h => hF q h) hF (fun r_63 u t H1 locs ht hvm hw hB hz1 hk1 hS => ?_)
                    subst hw
                    obtain ⟨hB, hI_64⟩ := hB
                    obtain ⟨hP, hD⟩ := pw_back hF ht hB
                    clear hB hk1 hz1 hF
                    generalize H1 = H at hP hS ⊢
                    have hI9 : IR ((s_X9_adds σ a1 a2 a3 a4 (-9 : Int32) a5).2) := hI_64
                    subst hR
                    rw [hQ]
                    exact W.iret (v := ((s_X9_adds σ a1 a2 a3 a4 (-9 : Int32) a5).1)) hx hb hr (fun t ht hW => ⟨⟨((s_X9_adds σ a1 a2 a3 a4 (-9 : Int32) a5).1), (), rfl, rfl, ⟨by rw [ht]; exact hP, va_K.moved hW.alike hK, by rw [← hAe]; exact hD⟩, hI9⟩, hS.F ht⟩) hS.2.2 dX9_right_126
                  · have hR := (if_pos c_62).symm.trans hR
                    refine lv_aload_n hx hb dX9_right_106 rfl (lv_at hl 0 rfl) ?_
                    refine lv_bipush (v := (-6 : Int32)) hx hb dX9_right_107 (by decide) ?_
                    have hF := pw_free hD hS hA
                    refine va_calli (va_runV (As := [.int (-6 : Int32)]) (rest := []) ⟨hx, hb, hml, hown, hts⟩ (k_X9_refuse l D ca h ad σ (-6 : Int32) H.size hI (by unfold vp_in; decide) _ rfl) (cwV 1 hts gX9_right_X9_refuse rfl rfl rfl (by decide +kernel) ⟨Nat.le_of_ble_eq_true rfl, Nat.le_of_ble_eq_true rfl⟩) ⟨pw_blind, va_recv hK hP (ci := 9) (q0 := 0) rfl wm_0, pw_give hP hK hD⟩ rfl rfl hl.1 rfl (lv_room (Nat.le_of_ble_eq_true rfl)) dX9_right_109 ⟨Nat.le_of_ble_eq_true rfl, Nat.le_of_ble_eq_true rfl⟩) hS (fun q _ h => hF q h) hF (fun r_65 u t H1 locs ht hvm hw hB hz1 hk1 hS => ?_)
                    subst hw
                    obtain ⟨hB, hI_66⟩ := hB
                    obtain ⟨hP, hD⟩ := pw_back hF ht hB
                    clear hB hk1 hz1 hF
                    generalize H1 = H at hP hS ⊢
                    have hI9 : IR ((s_X9_refuse σ (-6 : Int32)).2) := hI_66
                    subst hR
                    rw [hQ]
                    exact W.iret (v := ((s_X9_refuse σ (-6 : Int32)).1)) hx hb hr (fun t ht hW => ⟨⟨((s_X9_refuse σ (-6 : Int32)).1), (), rfl, rfl, ⟨by rw [ht]; exact hP, va_K.moved hW.alike hK, by rw [← hAe]; exact hD⟩, hI9⟩, hS.F ht⟩) hS.2.2 dX9_right_112
            · have hR := (if_neg c_55).symm.trans hR
              refine lv_aload_n hx hb dX9_right_75 rfl (lv_at hl 0 rfl) ?_
              refine lv_bipush (v := (-4 : Int32)) hx hb dX9_right_76 (by decide) ?_
              have hF := pw_free hD hS hA
              refine va_calli (va_runV (As := [.int (-4 : Int32)]) (rest := []) ⟨hx, hb, hml, hown, hts⟩ (k_X9_refuse l D ca h ad σ (-4 : Int32) H.size hI (by unfold vp_in; decide) _ rfl) (cwV 1 hts gX9_right_X9_refuse rfl rfl rfl (by decide +kernel) ⟨Nat.le_of_ble_eq_true rfl, Nat.le_of_ble_eq_true rfl⟩) ⟨pw_blind, va_recv hK hP (ci := 9) (q0 := 0) rfl wm_0, pw_give hP hK hD⟩ rfl rfl hl.1 rfl (lv_room (Nat.le_of_ble_eq_true rfl)) dX9_right_78 ⟨Nat.le_of_ble_eq_true rfl, Nat.le_of_ble_eq_true rfl⟩) hS (fun q _ h => hF q h) hF (fun r_67 u t H1 locs ht hvm hw hB hz1 hk1 hS => ?_)
              subst hw
              obtain ⟨hB, hI_68⟩ := hB
              obtain ⟨hP, hD⟩ := pw_back hF ht hB
              clear hB hk1 hz1 hF
              generalize H1 = H at hP hS ⊢
              have hI9 : IR ((s_X9_refuse σ (-4 : Int32)).2) := hI_68
              subst hR
              rw [hQ]
              exact W.iret (v := ((s_X9_refuse σ (-4 : Int32)).1)) hx hb hr (fun t ht hW => ⟨⟨((s_X9_refuse σ (-4 : Int32)).1), (), rfl, rfl, ⟨by rw [ht]; exact hP, va_K.moved hW.alike hK, by rw [← hAe]; exact hD⟩, hI9⟩, hS.F ht⟩) hS.2.2 dX9_right_81
        · have hR := (if_pos c_51).symm.trans hR
          refine lv_iload hx hb dX9_right_43 (lv_at hl 5 rfl) ?_
          refine lv_aload_n hx hb dX9_right_45 rfl (lv_at hl 0 rfl) ?_
          refine va_get (D := D) (ci := 9) (v := .int (σ 2 0)) (C := RX9) (T := TX9) (N := 51) hx hb hts hu9 hown hK hP 0 wm_0 rfl 2 (by decide) (hts (.fieldLink RX9 127 "GrazeBookModel" "pieces" "I") (List.mem_cons_of_mem _ mw_785)) (fun _ h9 => h9) rfl dX9_right_46 ?_
          have hF := pw_free (pn_D (A := A)) hS hA
          refine va_calli (va_runS (As := [.int a5, .int (σ 2 0)]) (rest := []) ⟨hx, hb, hml, hown, hts⟩ (k_X9_isIn l D ca a5 (σ 2 0) H.size _ rfl) (va_cwS 2 hts gX9_right_X9_isIn rfl rfl rfl (by decide +kernel) ⟨Nat.le_of_ble_eq_true rfl, Nat.le_of_ble_eq_true rfl⟩) ⟨pw_blind, pw_give pn_P hK (pn_D (A := A))⟩ rfl rfl hl.1 rfl (lv_room (Nat.le_of_ble_eq_true rfl)) dX9_right_49 ⟨Nat.le_of_ble_eq_true rfl, Nat.le_of_ble_eq_true rfl⟩) hS (fun q _ h => hF q h) hF (fun r_69 u t H1 locs ht hvm hw hB hz1 hk1 hS => ?_)
          subst hw
          have hP := pn_back hP hk1
          clear hB hk1 hz1 hF
          generalize H1 = H at hP hS ⊢
          refine lv_if_ne (tgt := 61) hx hb dX9_right_52 (by decide) (fun c_70 => ?_) (fun c_70 => ?_)
          · have hR := (if_neg c_70).symm.trans hR
            refine lv_iload_n hx hb dX9_right_61 rfl (lv_at hl 3 rfl) ?_
            refine lv_iconst (v := (1 : Int32)) hx hb dX9_right_62 (by decide) ?_
            refine lv_icmp_lt (tgt := 75) hx hb dX9_right_63 (by decide) (fun c_71 => ?_) (fun c_71 => ?_)
            · have hR := (if_pos c_71).symm.trans hR
              refine lv_aload_n hx hb dX9_right_75 rfl (lv_at hl 0 rfl) ?_
              refine lv_bipush (v := (-4 : Int32)) hx hb dX9_right_76 (by decide) ?_
              have hF := pw_free hD hS hA
              refine va_calli (va_runV (As := [.int (-4 : Int32)]) (rest := []) ⟨hx, hb, hml, hown, hts⟩ (k_X9_refuse l D ca h ad σ (-4 : Int32) H.size hI (by unfold vp_in; decide) _ rfl) (cwV 1 hts gX9_right_X9_refuse rfl rfl rfl (by decide +kernel) ⟨Nat.le_of_ble_eq_true rfl, Nat.le_of_ble_eq_true rfl⟩) ⟨pw_blind, va_recv hK hP (ci := 9) (q0 := 0) rfl wm_0, pw_give hP hK hD⟩ rfl rfl hl.1 rfl (lv_room (Nat.le_of_ble_eq_true rfl)) dX9_right_78 ⟨Nat.le_of_ble_eq_true rfl, Nat.le_of_ble_eq_true rfl⟩) hS (fun q _ h => hF q h) hF (fun r_72 u t H1 locs ht hvm hw hB hz1 hk1 hS => ?_)
              subst hw
              obtain ⟨hB, hI_73⟩ := hB
              obtain ⟨hP, hD⟩ := pw_back hF ht hB
              clear hB hk1 hz1 hF
              generalize H1 = H at hP hS ⊢
              have hI9 : IR ((s_X9_refuse σ (-4 : Int32)).2) := hI_73
              subst hR
              rw [hQ]
              exact W.iret (v := ((s_X9_refuse σ (-4 : Int32)).1)) hx hb hr (fun t ht hW => ⟨⟨((s_X9_refuse σ (-4 : Int32)).1), (), rfl, rfl, ⟨by rw [ht]; exact hP, va_K.moved hW.alike hK, by rw [← hAe]; exact hD⟩, hI9⟩, hS.F ht⟩) hS.2.2 dX9_right_81
            · have hR := (if_neg c_71).symm.trans hR
              refine lv_iload hx hb dX9_right_66 (lv_at hl 4 rfl) ?_
              refine lv_aload_n hx hb dX9_right_68 rfl (lv_at hl 0 rfl) ?_
              refine va_get (D := D) (ci := 9) (v := .int (σ 1 0)) (C := RX9) (T := TX9) (N := 51) hx hb hts hu9 hown hK hP 0 wm_0 rfl 1 (by decide) (hts (.fieldLink RX9 141 "GrazeBookModel" "day" "I") (List.mem_cons_of_mem _ mw_784)) (fun _ h9 => h9) rfl dX9_right_69 ?_
              refine lv_icmp_ge (tgt := 82) hx hb dX9_right_72 (by decide) (fun c_74 => ?_) (fun c_74 => ?_)
              · have hR := (if_pos c_74).symm.trans hR
                refine lv_iload_n hx hb dX9_right_82 rfl (lv_at hl 3 rfl) ?_
                refine lv_sipush (v := (10000 : Int32)) hx hb dX9_right_83 (by decide) ?_
                refine lv_icmp_gt (tgt := 106) hx hb dX9_right_86 (by decide) (fun c_75 => ?_) (fun c_75 => ?_)
                · have hR := (if_pos c_75).symm.trans hR
                  refine lv_aload_n hx hb dX9_right_106 rfl (lv_at hl 0 rfl) ?_
                  refine lv_bipush (v := (-6 : Int32)) hx hb dX9_right_107 (by decide) ?_
                  have hF := pw_free hD hS hA
                  refine va_calli (va_runV (As := [.int (-6 : Int32)]) (rest := []) ⟨hx, hb, hml, hown, hts⟩ (k_X9_refuse l D ca h ad σ (-6 : Int32) H.size hI (by unfold vp_in; decide) _ rfl) (cwV 1 hts gX9_right_X9_refuse rfl rfl rfl (by decide +kernel) ⟨Nat.le_of_ble_eq_true rfl, Nat.le_of_ble_eq_true rfl⟩) ⟨pw_blind, va_recv hK hP (ci := 9) (q0 := 0) rfl wm_0, pw_give hP hK hD⟩ rfl rfl hl.1 rfl (lv_room (Nat.le_of_ble_eq_true rfl)) dX9_right_109 ⟨Nat.le_of_ble_eq_true rfl, Nat.le_of_ble_eq_true rfl⟩) hS (fun q _ h => hF q h) hF (fun r_76 u t H1 locs ht hvm hw hB hz1 hk1 hS => ?_)
                  subst hw
                  obtain ⟨hB, hI_77⟩ := hB
                  obtain ⟨hP, hD⟩ := pw_back hF ht hB
                  clear hB hk1 hz1 hF
                  generalize H1 = H at hP hS ⊢
                  have hI9 : IR ((s_X9_refuse σ (-6 : Int32)).2) := hI_77
                  subst hR
                  rw [hQ]
                  exact W.iret (v := ((s_X9_refuse σ (-6 : Int32)).1)) hx hb hr (fun t ht hW => ⟨⟨((s_X9_refuse σ (-6 : Int32)).1), (), rfl, rfl, ⟨by rw [ht]; exact hP, va_K.moved hW.alike hK, by rw [← hAe]; exact hD⟩, hI9⟩, hS.F ht⟩) hS.2.2 dX9_right_112
                · have hR := (if_neg c_75).symm.trans hR
                  refine lv_iload hx hb dX9_right_89 (lv_at hl 4 rfl) ?_
                  refine lv_sipush (v := (720 : Int32)) hx hb dX9_right_91 (by decide) ?_
                  refine lv_icmp_gt (tgt := 106) hx hb dX9_right_94 (by decide) (fun c_78 => ?_) (fun c_78 => ?_)
                  · have hR := (if_pos c_78).symm.trans hR
                    refine lv_aload_n hx hb dX9_right_106 rfl (lv_at hl 0 rfl) ?_
                    refine lv_bipush (v := (-6 : Int32)) hx hb dX9_right_107 (by decide) ?_
                    have hF := pw_free hD hS hA
                    refine va_calli (va_runV (As := [.int (-6 : Int32)]) (rest := []) ⟨hx, hb, hml, hown, hts⟩ (k_X9_refuse l D ca h ad σ (-6 : Int32) H.size hI (by unfold vp_in; decide) _ rfl) (cwV 1 hts gX9_right_X9_refuse rfl rfl rfl (by decide +kernel) ⟨Nat.le_of_ble_eq_true rfl, Nat.le_of_ble_eq_true rfl⟩) ⟨pw_blind, va_recv hK hP (ci := 9) (q0 := 0) rfl wm_0, pw_give hP hK hD⟩ rfl rfl hl.1 rfl (lv_room (Nat.le_of_ble_eq_true rfl)) dX9_right_109 ⟨Nat.le_of_ble_eq_true rfl, Nat.le_of_ble_eq_true rfl⟩) hS (fun q _ h => hF q h) hF (fun r_79 u t H1 locs ht hvm hw hB hz1 hk1 hS => ?_)
                    subst hw
                    obtain ⟨hB, hI_80⟩ := hB
                    obtain ⟨hP, hD⟩ := pw_back hF ht hB
                    clear hB hk1 hz1 hF
                    generalize H1 = H at hP hS ⊢
                    have hI9 : IR ((s_X9_refuse σ (-6 : Int32)).2) := hI_80
                    subst hR
                    rw [hQ]
                    exact W.iret (v := ((s_X9_refuse σ (-6 : Int32)).1)) hx hb hr (fun t ht hW => ⟨⟨((s_X9_refuse σ (-6 : Int32)).1), (), rfl, rfl, ⟨by rw [ht]; exact hP, va_K.moved hW.alike hK, by rw [← hAe]; exact hD⟩, hI9⟩, hS.F ht⟩) hS.2.2 dX9_right_112
                  · have hR := (if_neg c_78).symm.trans hR
                    refine lv_aload_n hx hb dX9_right_97 rfl (lv_at hl 0 rfl) ?_
                    refine va_get (D := D) (ci := 9) (v := .int (σ 5 0)) (C := RX9) (T := TX9) (N := 51) hx hb hts hu9 hown hK hP 0 wm_0 rfl 5 (by decide) (hts (.fieldLink RX9 148 "GrazeBookModel" "rights" "I") (List.mem_cons_of_mem _ mw_788)) (fun _ h9 => h9) rfl dX9_right_98 ?_
                    refine lv_bipush (v := (60 : Int32)) hx hb dX9_right_101 (by decide) ?_
                    refine lv_icmp_ne (tgt := 113) hx hb dX9_right_103 (by decide) (fun c_81 => ?_) (fun c_81 => ?_)
                    · have hR := (if_neg c_81).symm.trans hR
                      refine lv_aload_n hx hb dX9_right_113 rfl (lv_at hl 0 rfl) ?_
                      refine lv_iload_n hx hb dX9_right_114 rfl (lv_at hl 1 rfl) ?_
                      refine lv_iload_n hx hb dX9_right_115 rfl (lv_at hl 2 rfl) ?_
                      refine lv_iload_n hx hb dX9_right_116 rfl (lv_at hl 3 rfl) ?_
                      refine lv_iload hx hb dX9_right_117 (lv_at hl 4 rfl) ?_
                      refine lv_bipush (v := (-9 : Int32)) hx hb dX9_right_119 (by decide) ?_
                      refine lv_iload hx hb dX9_right_121 (lv_at hl 5 rfl) ?_
                      have hF := pw_free hD hS hA
                      refine va_calli (va_runV (As := [.int a1, .int a2, .int a3, .int a4, .int (-9 : Int32), .int a5]) (rest := []) ⟨hx, hb, hml, hown, hts⟩ (k_X9_adds l D ca h ad σ a1 a2 a3 a4 (-9 : Int32) a5 H.size hI (ix_cnt (ir_5 hI) c_81 (by decide)) (fun _ => vp_10 (ix_isIn c_48 (ir_4 hI))) _ rfl) (cwV 6 hts gX9_right_X9_adds rfl rfl rfl (by decide +kernel) ⟨Nat.le_of_ble_eq_true rfl, Nat.le_of_ble_eq_true rfl⟩) ⟨pw_blind, va_recv hK hP (ci := 9) (q0 := 0) rfl wm_0, pw_give hP hK hD⟩ rfl rfl hl.1 rfl (lv_room (Nat.le_of_ble_eq_true rfl)) dX9_right_123 ⟨Nat.le_of_ble_eq_true rfl, Nat.le_of_ble_eq_true rfl⟩) hS (fun q _ h => hF q h) hF (fun r_82 u t H1 locs ht hvm hw hB hz1 hk1 hS => ?_)
                      subst hw
                      obtain ⟨hB, hI_83⟩ := hB
                      obtain ⟨hP, hD⟩ := pw_back hF ht hB
                      clear hB hk1 hz1 hF
                      generalize H1 = H at hP hS ⊢
                      have hI9 : IR ((s_X9_adds σ a1 a2 a3 a4 (-9 : Int32) a5).2) := hI_83
                      subst hR
                      rw [hQ]
                      exact W.iret (v := ((s_X9_adds σ a1 a2 a3 a4 (-9 : Int32) a5).1)) hx hb hr (fun t ht hW => ⟨⟨((s_X9_adds σ a1 a2 a3 a4 (-9 : Int32) a5).1), (), rfl, rfl, ⟨by rw [ht]; exact hP, va_K.moved hW.alike hK, by rw [← hAe]; exact hD⟩, hI9⟩, hS.F ht⟩) hS.2.2 dX9_right_126
                    · have hR := (if_pos c_81).symm.trans hR
                      refine lv_aload_n hx hb dX9_right_106 rfl (lv_at hl 0 rfl) ?_
                      refine lv_bipush (v := (-6 : Int32)) hx hb dX9_right_107 (by decide) ?_
                      have hF := pw_free hD hS hA
                      refine va_calli (va_runV (As := [.int (-6 : Int32)]) (rest := []) ⟨hx, hb, hml, hown, hts⟩ (k_X9_refuse l D ca h ad σ (-6 : Int32) H.size hI (by unfold vp_in; decide) _ rfl) (cwV 1 hts gX9_right_X9_refuse rfl rfl rfl (by decide +kernel) ⟨Nat.le_of_ble_eq_true rfl, Nat.le_of_ble_eq_true rfl⟩) ⟨pw_blind, va_recv hK hP (ci := 9) (q0 := 0) rfl wm_0, pw_give hP hK hD⟩ rfl rfl hl.1 rfl (lv_room (Nat.le_of_ble_eq_true rfl)) dX9_right_109 ⟨Nat.le_of_ble_eq_true rfl, Nat.le_of_ble_eq_true rfl⟩) hS (fun q _ h => hF q h) hF (fun r_84 u t H1 locs ht hvm hw hB hz1 hk1 hS => ?_)
                      subst hw
                      obtain ⟨hB, hI_85⟩ := hB
                      obtain ⟨hP, hD⟩ := pw_back hF ht hB
                      clear hB hk1 hz1 hF
                      generalize H1 = H at hP hS ⊢
                      have hI9 : IR ((s_X9_refuse σ (-6 : Int32)).2) := hI_85
                      subst hR
                      rw [hQ]
                      exact W.iret (v := ((s_X9_refuse σ (-6 : Int32)).1)) hx hb hr (fun t ht hW => ⟨⟨((s_X9_refuse σ (-6 : Int32)).1), (), rfl, rfl, ⟨by rw [ht]; exact hP, va_K.moved hW.alike hK, by rw [← hAe]; exact hD⟩, hI9⟩, hS.F ht⟩) hS.2.2 dX9_right_112
              · have hR := (if_neg c_74).symm.trans hR
                refine lv_aload_n hx hb dX9_right_75 rfl (lv_at hl 0 rfl) ?_
                refine lv_bipush (v := (-4 : Int32)) hx hb dX9_right_76 (by decide) ?_
                have hF := pw_free hD hS hA
                refine va_calli (va_runV (As := [.int (-4 : Int32)]) (rest := []) ⟨hx, hb, hml, hown, hts⟩ (k_X9_refuse l D ca h ad σ (-4 : Int32) H.size hI (by unfold vp_in; decide) _ rfl) (cwV 1 hts gX9_right_X9_refuse rfl rfl rfl (by decide +kernel) ⟨Nat.le_of_ble_eq_true rfl, Nat.le_of_ble_eq_true rfl⟩) ⟨pw_blind, va_recv hK hP (ci := 9) (q0 := 0) rfl wm_0, pw_give hP hK hD⟩ rfl rfl hl.1 rfl (lv_room (Nat.le_of_ble_eq_true rfl)) dX9_right_78 ⟨Nat.le_of_ble_eq_true rfl, Nat.le_of_ble_eq_true rfl⟩) hS (fun q _ h => hF q h) hF (fun r_86 u t H1 locs ht hvm hw hB hz1 hk1 hS => ?_)
                subst hw
                obtain ⟨hB, hI_87⟩ := hB
                obtain ⟨hP, hD⟩ := pw_back hF ht hB
                clear hB hk1 hz1 hF
                generalize H1 = H at hP hS ⊢
                have hI9 : IR ((s_X9_refuse σ (-4 : Int32)).2) := hI_87
                subst hR
                rw [hQ]
                exact W.iret (v := ((s_X9_refuse σ (-4 : Int32)).1)) hx hb hr (fun t ht hW => ⟨⟨((s_X9_refuse σ (-4 : Int32)).1), (), rfl, rfl, ⟨by rw [ht]; exact hP, va_K.moved hW.alike hK, by rw [← hAe]; exact hD⟩, hI9⟩, hS.F ht⟩) hS.2.2 dX9_right_81
          · have hR := (if_pos c_70).symm.trans hR
            refine lv_aload_n hx hb dX9_right_55 rfl (lv_at hl 0 rfl) ?_
            refine lv_iconst (v := (-1 : Int32)) hx hb dX9_right_56 (by decide) ?_
            have hF := pw_free hD hS hA
            refine va_calli (va_runV (As := [.int (-1 : Int32)]) (rest := []) ⟨hx, hb, hml, hown, hts⟩ (k_X9_refuse l D ca h ad σ (-1 : Int32) H.size hI (by unfold vp_in; decide) _ rfl) (cwV 1 hts gX9_right_X9_refuse rfl rfl rfl (by decide +kernel) ⟨Nat.le_of_ble_eq_true rfl, Nat.le_of_ble_eq_true rfl⟩) ⟨pw_blind, va_recv hK hP (ci := 9) (q0 := 0) rfl wm_0, pw_give hP hK hD⟩ rfl rfl hl.1 rfl (lv_room (Nat.le_of_ble_eq_true rfl)) dX9_right_57 ⟨Nat.le_of_ble_eq_true rfl, Nat.le_of_ble_eq_true rfl⟩) hS (fun q _ h => hF q h) hF (fun r_88 u t H1 locs ht hvm hw hB hz1 hk1 hS => ?_)
            subst hw
            obtain ⟨hB, hI_89⟩ := hB
            obtain ⟨hP, hD⟩ := pw_back hF ht hB
            clear hB hk1 hz1 hF
            generalize H1 = H at hP hS ⊢
            have hI9 : IR ((s_X9_refuse σ (-1 : Int32)).2) := hI_89
            subst hR
            rw [hQ]
            exact W.iret (v := ((s_X9_refuse σ (-1 : Int32)).1)) hx hb hr (fun t ht hW => ⟨⟨((s_X9_refuse σ (-1 : Int32)).1), (), rfl, rfl, ⟨by rw [ht]; exact hP, va_K.moved hW.alike hK, by rw [← hAe]; exact hD⟩, hI9⟩, hS.F ht⟩) hS.2.2 dX9_right_60
  · have hR := (if_pos c_2).symm.trans hR
    refine lv_aload_n hx hb dX9_right_8 rfl (lv_at hl 0 rfl) ?_
    refine lv_bipush (v := (-2 : Int32)) hx hb dX9_right_9 (by decide) ?_
    have hF := pw_free hD hS hA
    refine va_calli (va_runV (As := [.int (-2 : Int32)]) (rest := []) ⟨hx, hb, hml, hown, hts⟩ (k_X9_refuse l D ca h ad σ (-2 : Int32) H.size hI (by unfold vp_in; decide) _ rfl) (cwV 1 hts gX9_right_X9_refuse rfl rfl rfl (by decide +kernel) ⟨Nat.le_of_ble_eq_true rfl, Nat.le_of_ble_eq_true rfl⟩) ⟨pw_blind, va_recv hK hP (ci := 9) (q0 := 0) rfl wm_0, pw_give hP hK hD⟩ rfl rfl hl.1 rfl (lv_room (Nat.le_of_ble_eq_true rfl)) dX9_right_11 ⟨Nat.le_of_ble_eq_true rfl, Nat.le_of_ble_eq_true rfl⟩) hS (fun q _ h => hF q h) hF (fun r_90 u t H1 locs ht hvm hw hB hz1 hk1 hS => ?_)
    subst hw
    obtain ⟨hB, hI_91⟩ := hB
    obtain ⟨hP, hD⟩ := pw_back hF ht hB
    clear hB hk1 hz1 hF
    generalize H1 = H at hP hS ⊢
    have hI9 : IR ((s_X9_refuse σ (-2 : Int32)).2) := hI_91
    subst hR
    rw [hQ]
    exact W.iret (v := ((s_X9_refuse σ (-2 : Int32)).1)) hx hb hr (fun t ht hW => ⟨⟨((s_X9_refuse σ (-2 : Int32)).1), (), rfl, rfl, ⟨by rw [ht]; exact hP, va_K.moved hW.alike hK, by rw [← hAe]; exact hD⟩, hI9⟩, hS.F ht⟩) hS.2.2 dX9_right_14

def s_X9_lend (σ : St) (a1 : Int32) (a2 : Int32) (a3 : Int32) (a4 : Int32) : Int32 × St := (if (s_X9_isIn a1 (σ 5 0)) = (0 : Int32) then (((s_X9_refuse σ (-1 : Int32)).1), (s_X9_refuse σ (-1 : Int32)).2) else (if (s_X9_isIn a2 (σ 3 0)) = (0 : Int32) then (((s_X9_refuse σ (-1 : Int32)).1), (s_X9_refuse σ (-1 : Int32)).2) else (if (s_X9_ownerOfRight σ a1) = a2 then (((s_X9_refuse σ (-1 : Int32)).1), (s_X9_refuse σ (-1 : Int32)).2) else (if (σ 25 (a1.toNatClampNeg)) = (0 : Int32) then (if (s_X9_isInForce σ a1) = (0 : Int32) then (((s_X9_refuse σ (-3 : Int32)).1), (s_X9_refuse σ (-3 : Int32)).2) else (if a3 < (1 : Int32) then (((s_X9_refuse σ (-4 : Int32)).1), (s_X9_refuse σ (-4 : Int32)).2) else (if (σ 1 0) ≤ a4 then (if a3 ≤ (s_X9_partsOf σ a1) then (if (σ 29 (a1.toNatClampNeg)) < a4 then (((s_X9_refuse σ (-6 : Int32)).1), (s_X9_refuse σ (-6 : Int32)).2) else (if (σ 5 0) = (60 : Int32) then (((s_X9_refuse σ (-6 : Int32)).1), (s_X9_refuse σ (-6 : Int32)).2) else (((s_X9_adds σ (4 : Int32) a2 a3 a4 a1 (0 : Int32)).1), (s_X9_adds σ (4 : Int32) a2 a3 a4 a1 (0 : Int32)).2))) else (((s_X9_refuse σ (-5 : Int32)).1), (s_X9_refuse σ (-5 : Int32)).2)) else (((s_X9_refuse σ (-4 : Int32)).1), (s_X9_refuse σ (-4 : Int32)).2)))) else (((s_X9_refuse σ (-2 : Int32)).1), (s_X9_refuse σ (-2 : Int32)).2)))))
theorem fr_s_X9_lend (σ : St) (a1 : Int32) (a2 : Int32) (a3 : Int32) (a4 : Int32) {f : Nat} (h0 : f ≠ 0) (h5 : f ≠ 5) (h25 : f ≠ 25) (h26 : f ≠ 26) (h27 : f ≠ 27) (h28 : f ≠ 28) (h29 : f ≠ 29) (h30 : f ≠ 30) (h31 : f ≠ 31) (h32 : f ≠ 32) : (s_X9_lend σ a1 a2 a3 a4 ).2 f = σ f := by
  unfold s_X9_lend
  all_goals ((try dsimp only) <;> ((repeat' split) <;> (try simp only [put_fr, ne_eq, not_false_eq_true, h0, h5, h25, h26, h27, h28, h29, h30, h31, h32, fr_s_X9_refuse, fr_s_X9_adds])))
set_option maxHeartbeats 1000000 in
set_option maxRecDepth 100000 in
theorem k_X9_lend (l : Launch) (D : va_G) (ca : Nat → ClassId) (h : Nat) (ad : Nat → Nat) (σ : St) (a1 : Int32) (a2 : Int32) (a3 : Int32) (a4 : Int32) (sz : Nat) (hI : IR σ)  (R : Int32 × St) (hR : s_X9_lend σ a1 a2 a3 a4 = R) : Met l yX9_lend wsX9_lend ({ frames := 2, cells := 0, slots := 0, locals := 44 }) (va_Pc [.ref h, .int a1, .int a2, .int a3, .int a4] (pw_pre D ca (WM ca h ad σ) sz)) (va_Qi (fun (r : Int32) (_ : Unit) => r = R.1) (fun (_ : Unit) (t : State) => pw_post D ca (WM ca h ad σ) sz (WM ca h ad (R.2)) t ∧ IR R.2) (va_A (WM ca h ad σ) sz)) 0 0 (va_A (WM ca h ad σ) sz) := by
  refine Met.ofW (cc := cX9_lend) (maxL := 5) (ret := (some .int)) (by decide) rfl ?_
  intro p e s m args below meth c s₁ B hml hv
  obtain ⟨rfl, hsz, hP, hK, hD0⟩ := hv
  have hx := B.exec
  have hb := B.bytes
  have hr := B.returns
  have hts := atoms_spec (ws := wsX9_lend) B.pre
  have hown : s.vm.findClass RX9 = some m.cls := findClass_of_methodNamed B.named
  have hlocks := B.notSynchronized
  have hu9 : ∀ w ∈ u_ws RX9 TX9 51, w ∈ wsX9_lend := fun w h => List.mem_cons_of_mem _ (uw9 w h)
  subst hsz
  have hD := hD0.self (sz := s.heap.size)
  obtain ⟨A, hAe⟩ : ∃ A, A = va_A (WM ca h ad σ) s.heap.size := ⟨_, rfl⟩
  rw [← hAe] at hD ⊢
  have hA : ∀ q : Nat, s.heap.size ≤ q → A q := fun q h => by rw [hAe]; exact Or.inr h
  have hS : va_S A s.heap s.heap [] := va_S.rf
  have hl := lv_entry ([.ref h, .int a1, .int a2, .int a3, .int a4]) (n := 5) (Nat.le_of_ble_eq_true rfl)
  rw [lg_entry_eq]
  generalize (lg_sl ([.ref h, .int a1, .int a2, .int a3, .int a4]) ++ List.replicate (5 - (lg_sl ([.ref h, .int a1, .int a2, .int a3, .int a4])).length) Slot.unset).toArray = ls at hl ⊢
  have hl : lv_has ls 5 [(0, .ref h), (1, .int a1), (2, .int a2), (3, .int a3), (4, .int a4)] := hl
  obtain ⟨H, hH⟩ : ∃ H, H = s.heap := ⟨_, rfl⟩
  have hP : va_P D vwCl (WM ca h ad σ) H := by rw [hH]; exact hP
  have hS : va_S A s.heap H [] := by rw [hH]; exact hS
  obtain ⟨QQ, hQ⟩ : ∃ Q9, Q9 = MQ below (va_Qi (fun (r : Int32) (_ : Unit) => r = R.1) (fun (_ : Unit) (t : State) => pw_post D ca (WM ca h ad σ) s.heap.size (WM ca h ad (R.2)) t ∧ IR R.2) A) ([.ref h, .int a1, .int a2, .int a3, .int a4] : List Value).toArray s 0 0 A := ⟨_, rfl⟩
  rw [← hQ]
  show W _ _ _ _ _ _ _ _ _ _ s.heap _ _ _ _ _
  rw [← hH]
  have hR : (if (s_X9_isIn a1 (σ 5 0)) = (0 : Int32) then (((s_X9_refuse σ (-1 : Int32)).1), (s_X9_refuse σ (-1 : Int32)).2) else (if (s_X9_isIn a2 (σ 3 0)) = (0 : Int32) then (((s_X9_refuse σ (-1 : Int32)).1), (s_X9_refuse σ (-1 : Int32)).2) else (if (s_X9_ownerOfRight σ a1) = a2 then (((s_X9_refuse σ (-1 : Int32)).1), (s_X9_refuse σ (-1 : Int32)).2) else (if (σ 25 (a1.toNatClampNeg)) = (0 : Int32) then (if (s_X9_isInForce σ a1) = (0 : Int32) then (((s_X9_refuse σ (-3 : Int32)).1), (s_X9_refuse σ (-3 : Int32)).2) else (if a3 < (1 : Int32) then (((s_X9_refuse σ (-4 : Int32)).1), (s_X9_refuse σ (-4 : Int32)).2) else (if (σ 1 0) ≤ a4 then (if a3 ≤ (s_X9_partsOf σ a1) then (if (σ 29 (a1.toNatClampNeg)) < a4 then (((s_X9_refuse σ (-6 : Int32)).1), (s_X9_refuse σ (-6 : Int32)).2) else (if (σ 5 0) = (60 : Int32) then (((s_X9_refuse σ (-6 : Int32)).1), (s_X9_refuse σ (-6 : Int32)).2) else (((s_X9_adds σ (4 : Int32) a2 a3 a4 a1 (0 : Int32)).1), (s_X9_adds σ (4 : Int32) a2 a3 a4 a1 (0 : Int32)).2))) else (((s_X9_refuse σ (-5 : Int32)).1), (s_X9_refuse σ (-5 : Int32)).2)) else (((s_X9_refuse σ (-4 : Int32)).1), (s_X9_refuse σ (-4 : Int32)).2)))) else (((s_X9_refuse σ (-2 : Int32)).1), (s_X9_refuse σ (-2 : Int32)).2))))) = R := hR
  refine lv_iload_n hx hb dX9_lend_0 rfl (lv_at hl 1 rfl) ?_
  refine lv_aload_n hx hb dX9_lend_1 rfl (lv_at hl 0 rfl) ?_
  refine va_get (D := D) (ci := 9) (v := .int (σ 5 0)) (C := RX9) (T := TX9) (N := 51) hx hb hts hu9 hown hK hP 0 wm_0 rfl 5 (by decide) (hts (.fieldLink RX9 148 "GrazeBookModel" "rights" "I") (List.mem_cons_of_mem _ mw_788)) (fun _ h9 => h9) rfl dX9_lend_2 ?_
  have hF := pw_free (pn_D (A := A)) hS hA
  refine va_calli (va_runS (As := [.int a1, .int (σ 5 0)]) (rest := []) ⟨hx, hb, hml, hown, hts⟩ (k_X9_isIn l D ca a1 (σ 5 0) H.size _ rfl) (va_cwS 2 hts gX9_lend_X9_isIn rfl rfl rfl (by decide +kernel) ⟨Nat.le_of_ble_eq_true rfl, Nat.le_of_ble_eq_true rfl⟩) ⟨pw_blind, pw_give pn_P hK (pn_D (A := A))⟩ rfl rfl hl.1 rfl (lv_room (Nat.le_of_ble_eq_true rfl)) dX9_lend_5 ⟨Nat.le_of_ble_eq_true rfl, Nat.le_of_ble_eq_true rfl⟩) hS (fun q _ h => hF q h) hF (fun r_1 u t H1 locs ht hvm hw hB hz1 hk1 hS => ?_)
  subst hw
  have hP := pn_back hP hk1
  clear hB hk1 hz1 hF
  generalize H1 = H at hP hS ⊢
  refine lv_if_eq (tgt := 31) hx hb dX9_lend_8 (by decide) (fun c_2 => ?_) (fun c_2 => ?_)
  · have hR := (if_pos c_2).symm.trans hR
    refine lv_aload_n hx hb dX9_lend_31 rfl (lv_at hl 0 rfl) ?_
    refine lv_iconst (v := (-1 : Int32)) hx hb dX9_lend_32 (by decide) ?_
    have hF := pw_free hD hS hA
    refine va_calli (va_runV (As := [.int (-1 : Int32)]) (rest := []) ⟨hx, hb, hml, hown, hts⟩ (k_X9_refuse l D ca h ad σ (-1 : Int32) H.size hI (by unfold vp_in; decide) _ rfl) (cwV 1 hts gX9_lend_X9_refuse rfl rfl rfl (by decide +kernel) ⟨Nat.le_of_ble_eq_true rfl, Nat.le_of_ble_eq_true rfl⟩) ⟨pw_blind, va_recv hK hP (ci := 9) (q0 := 0) rfl wm_0, pw_give hP hK hD⟩ rfl rfl hl.1 rfl (lv_room (Nat.le_of_ble_eq_true rfl)) dX9_lend_33 ⟨Nat.le_of_ble_eq_true rfl, Nat.le_of_ble_eq_true rfl⟩) hS (fun q _ h => hF q h) hF (fun r_3 u t H1 locs ht hvm hw hB hz1 hk1 hS => ?_)
    subst hw
    obtain ⟨hB, hI_4⟩ := hB
    obtain ⟨hP, hD⟩ := pw_back hF ht hB
    clear hB hk1 hz1 hF
    generalize H1 = H at hP hS ⊢
    have hI9 : IR ((s_X9_refuse σ (-1 : Int32)).2) := hI_4
    subst hR
    rw [hQ]
    exact W.iret (v := ((s_X9_refuse σ (-1 : Int32)).1)) hx hb hr (fun t ht hW => ⟨⟨((s_X9_refuse σ (-1 : Int32)).1), (), rfl, rfl, ⟨by rw [ht]; exact hP, va_K.moved hW.alike hK, by rw [← hAe]; exact hD⟩, hI9⟩, hS.F ht⟩) hS.2.2 dX9_lend_36
  · have hR := (if_neg c_2).symm.trans hR
    refine lv_iload_n hx hb dX9_lend_11 rfl (lv_at hl 2 rfl) ?_
    refine lv_aload_n hx hb dX9_lend_12 rfl (lv_at hl 0 rfl) ?_
    refine va_get (D := D) (ci := 9) (v := .int (σ 3 0)) (C := RX9) (T := TX9) (N := 51) hx hb hts hu9 hown hK hP 0 wm_0 rfl 3 (by decide) (hts (.fieldLink RX9 131 "GrazeBookModel" "owners" "I") (List.mem_cons_of_mem _ mw_786)) (fun _ h9 => h9) rfl dX9_lend_13 ?_
    have hF := pw_free (pn_D (A := A)) hS hA
    refine va_calli (va_runS (As := [.int a2, .int (σ 3 0)]) (rest := []) ⟨hx, hb, hml, hown, hts⟩ (k_X9_isIn l D ca a2 (σ 3 0) H.size _ rfl) (va_cwS 2 hts gX9_lend_X9_isIn rfl rfl rfl (by decide +kernel) ⟨Nat.le_of_ble_eq_true rfl, Nat.le_of_ble_eq_true rfl⟩) ⟨pw_blind, pw_give pn_P hK (pn_D (A := A))⟩ rfl rfl hl.1 rfl (lv_room (Nat.le_of_ble_eq_true rfl)) dX9_lend_16 ⟨Nat.le_of_ble_eq_true rfl, Nat.le_of_ble_eq_true rfl⟩) hS (fun q _ h => hF q h) hF (fun r_5 u t H1 locs ht hvm hw hB hz1 hk1 hS => ?_)
    subst hw
    have hP := pn_back hP hk1
    clear hB hk1 hz1 hF
    generalize H1 = H at hP hS ⊢
    refine lv_if_eq (tgt := 31) hx hb dX9_lend_19 (by decide) (fun c_6 => ?_) (fun c_6 => ?_)
    · have hR := (if_pos c_6).symm.trans hR
      refine lv_aload_n hx hb dX9_lend_31 rfl (lv_at hl 0 rfl) ?_
      refine lv_iconst (v := (-1 : Int32)) hx hb dX9_lend_32 (by decide) ?_
      have hF := pw_free hD hS hA
      refine va_calli (va_runV (As := [.int (-1 : Int32)]) (rest := []) ⟨hx, hb, hml, hown, hts⟩ (k_X9_refuse l D ca h ad σ (-1 : Int32) H.size hI (by unfold vp_in; decide) _ rfl) (cwV 1 hts gX9_lend_X9_refuse rfl rfl rfl (by decide +kernel) ⟨Nat.le_of_ble_eq_true rfl, Nat.le_of_ble_eq_true rfl⟩) ⟨pw_blind, va_recv hK hP (ci := 9) (q0 := 0) rfl wm_0, pw_give hP hK hD⟩ rfl rfl hl.1 rfl (lv_room (Nat.le_of_ble_eq_true rfl)) dX9_lend_33 ⟨Nat.le_of_ble_eq_true rfl, Nat.le_of_ble_eq_true rfl⟩) hS (fun q _ h => hF q h) hF (fun r_7 u t H1 locs ht hvm hw hB hz1 hk1 hS => ?_)
      subst hw
      obtain ⟨hB, hI_8⟩ := hB
      obtain ⟨hP, hD⟩ := pw_back hF ht hB
      clear hB hk1 hz1 hF
      generalize H1 = H at hP hS ⊢
      have hI9 : IR ((s_X9_refuse σ (-1 : Int32)).2) := hI_8
      subst hR
      rw [hQ]
      exact W.iret (v := ((s_X9_refuse σ (-1 : Int32)).1)) hx hb hr (fun t ht hW => ⟨⟨((s_X9_refuse σ (-1 : Int32)).1), (), rfl, rfl, ⟨by rw [ht]; exact hP, va_K.moved hW.alike hK, by rw [← hAe]; exact hD⟩, hI9⟩, hS.F ht⟩) hS.2.2 dX9_lend_36
    · have hR := (if_neg c_6).symm.trans hR
      refine lv_aload_n hx hb dX9_lend_22 rfl (lv_at hl 0 rfl) ?_
      refine lv_iload_n hx hb dX9_lend_23 rfl (lv_at hl 1 rfl) ?_
      have hF := pw_free hD hS hA
      refine va_calli (va_runV (As := [.int a1]) (rest := []) ⟨hx, hb, hml, hown, hts⟩ (k_X9_ownerOfRight l D ca h ad σ a1 H.size hI (ix_isIn c_2 (ir_5 hI)) _ rfl) (cwV 1 hts gX9_lend_X9_ownerOfRight rfl rfl rfl (by decide +kernel) ⟨Nat.le_of_ble_eq_true rfl, Nat.le_of_ble_eq_true rfl⟩) ⟨pw_blind, va_recv hK hP (ci := 9) (q0 := 0) rfl wm_0, pw_give hP hK hD⟩ rfl rfl hl.1 rfl (lv_room (Nat.le_of_ble_eq_true rfl)) dX9_lend_24 ⟨Nat.le_of_ble_eq_true rfl, Nat.le_of_ble_eq_true rfl⟩) hS (fun q _ h => hF q h) hF (fun r_9 u t H1 locs ht hvm hw hB hz1 hk1 hS => ?_)
      subst hw
      obtain ⟨hP, hD⟩ := pw_back hF ht hB
      clear hB hk1 hz1 hF
      generalize H1 = H at hP hS ⊢
      refine lv_iload_n hx hb dX9_lend_27 rfl (lv_at hl 2 rfl) ?_
      refine lv_icmp_ne (tgt := 37) hx hb dX9_lend_28 (by decide) (fun c_10 => ?_) (fun c_10 => ?_)
      · have hR := (if_neg c_10).symm.trans hR
        refine lv_aload_n hx hb dX9_lend_37 rfl (lv_at hl 0 rfl) ?_
        refine va_get (D := D) (ci := 9) (v := .ref (ad 25)) (C := RX9) (T := TX9) (N := 51) hx hb hts hu9 hown hK hP 0 wm_0 rfl 25 (by decide) (hts (.fieldLink RX9 50 "GrazeBookModel" "rKind" "[I") (List.mem_cons_of_mem _ mw_808)) (fun _ h9 => h9) rfl dX9_lend_38 ?_
        refine lv_iload_n hx hb dX9_lend_41 rfl (lv_at hl 1 rfl) ?_
        refine va_iald_k (k := (a1.toNatClampNeg)) (v := (σ 25 (a1.toNatClampNeg))) hx hb hK hP 14 0 wm_a25 rfl rfl rfl (ix_isIn c_2 (ir_5 hI)) dX9_lend_42 ?_
        refine lv_if_eq (tgt := 53) hx hb dX9_lend_43 (by decide) (fun c_11 => ?_) (fun c_11 => ?_)
        · have hR := (if_pos c_11).symm.trans hR
          refine lv_aload_n hx hb dX9_lend_53 rfl (lv_at hl 0 rfl) ?_
          refine lv_iload_n hx hb dX9_lend_54 rfl (lv_at hl 1 rfl) ?_
          have hF := pw_free hD hS hA
          refine va_calli (va_runV (As := [.int a1]) (rest := []) ⟨hx, hb, hml, hown, hts⟩ (k_X9_isInForce l D ca h ad σ a1 H.size hI (ix_isIn c_2 (ir_5 hI)) _ rfl) (cwV 1 hts gX9_lend_X9_isInForce rfl rfl rfl (by decide +kernel) ⟨Nat.le_of_ble_eq_true rfl, Nat.le_of_ble_eq_true rfl⟩) ⟨pw_blind, va_recv hK hP (ci := 9) (q0 := 0) rfl wm_0, pw_give hP hK hD⟩ rfl rfl hl.1 rfl (lv_room (Nat.le_of_ble_eq_true rfl)) dX9_lend_55 ⟨Nat.le_of_ble_eq_true rfl, Nat.le_of_ble_eq_true rfl⟩) hS (fun q _ h => hF q h) hF (fun r_12 u t H1 locs ht hvm hw hB hz1 hk1 hS => ?_)
          subst hw
          obtain ⟨hP, hD⟩ := pw_back hF ht hB
          clear hB hk1 hz1 hF
          generalize H1 = H at hP hS ⊢
          refine lv_if_ne (tgt := 68) hx hb dX9_lend_58 (by decide) (fun c_13 => ?_) (fun c_13 => ?_)
          · have hR := (if_neg c_13).symm.trans hR
            refine lv_iload_n hx hb dX9_lend_68 rfl (lv_at hl 3 rfl) ?_
            refine lv_iconst (v := (1 : Int32)) hx hb dX9_lend_69 (by decide) ?_
            refine lv_icmp_lt (tgt := 82) hx hb dX9_lend_70 (by decide) (fun c_14 => ?_) (fun c_14 => ?_)
            · have hR := (if_pos c_14).symm.trans hR
              refine lv_aload_n hx hb dX9_lend_82 rfl (lv_at hl 0 rfl) ?_
              refine lv_bipush (v := (-4 : Int32)) hx hb dX9_lend_83 (by decide) ?_
              have hF := pw_free hD hS hA
              refine va_calli (va_runV (As := [.int (-4 : Int32)]) (rest := []) ⟨hx, hb, hml, hown, hts⟩ (k_X9_refuse l D ca h ad σ (-4 : Int32) H.size hI (by unfold vp_in; decide) _ rfl) (cwV 1 hts gX9_lend_X9_refuse rfl rfl rfl (by decide +kernel) ⟨Nat.le_of_ble_eq_true rfl, Nat.le_of_ble_eq_true rfl⟩) ⟨pw_blind, va_recv hK hP (ci := 9) (q0 := 0) rfl wm_0, pw_give hP hK hD⟩ rfl rfl hl.1 rfl (lv_room (Nat.le_of_ble_eq_true rfl)) dX9_lend_85 ⟨Nat.le_of_ble_eq_true rfl, Nat.le_of_ble_eq_true rfl⟩) hS (fun q _ h => hF q h) hF (fun r_15 u t H1 locs ht hvm hw hB hz1 hk1 hS => ?_)
              subst hw
              obtain ⟨hB, hI_16⟩ := hB
              obtain ⟨hP, hD⟩ := pw_back hF ht hB
              clear hB hk1 hz1 hF
              generalize H1 = H at hP hS ⊢
              have hI9 : IR ((s_X9_refuse σ (-4 : Int32)).2) := hI_16
              subst hR
              rw [hQ]
              exact W.iret (v := ((s_X9_refuse σ (-4 : Int32)).1)) hx hb hr (fun t ht hW => ⟨⟨((s_X9_refuse σ (-4 : Int32)).1), (), rfl, rfl, ⟨by rw [ht]; exact hP, va_K.moved hW.alike hK, by rw [← hAe]; exact hD⟩, hI9⟩, hS.F ht⟩) hS.2.2 dX9_lend_88
            · have hR := (if_neg c_14).symm.trans hR
              refine lv_iload hx hb dX9_lend_73 (lv_at hl 4 rfl) ?_
              refine lv_aload_n hx hb dX9_lend_75 rfl (lv_at hl 0 rfl) ?_
              refine va_get (D := D) (ci := 9) (v := .int (σ 1 0)) (C := RX9) (T := TX9) (N := 51) hx hb hts hu9 hown hK hP 0 wm_0 rfl 1 (by decide) (hts (.fieldLink RX9 141 "GrazeBookModel" "day" "I") (List.mem_cons_of_mem _ mw_784)) (fun _ h9 => h9) rfl dX9_lend_76 ?_
              refine lv_icmp_ge (tgt := 89) hx hb dX9_lend_79 (by decide) (fun c_17 => ?_) (fun c_17 => ?_)
              · have hR := (if_pos c_17).symm.trans hR
                refine lv_iload_n hx hb dX9_lend_89 rfl (lv_at hl 3 rfl) ?_
                refine lv_aload_n hx hb dX9_lend_90 rfl (lv_at hl 0 rfl) ?_
                refine lv_iload_n hx hb dX9_lend_91 rfl (lv_at hl 1 rfl) ?_
                have hF := pw_free hD hS hA
                refine va_calli (va_runV (As := [.int a1]) (rest := [.int a3]) ⟨hx, hb, hml, hown, hts⟩ (k_X9_partsOf l D ca h ad σ a1 H.size hI (ix_isIn c_2 (ir_5 hI)) _ rfl) (cwV 1 hts gX9_lend_X9_partsOf rfl rfl rfl (by decide +kernel) ⟨Nat.le_of_ble_eq_true rfl, Nat.le_of_ble_eq_true rfl⟩) ⟨pw_blind, va_recv hK hP (ci := 9) (q0 := 0) rfl wm_0, pw_give hP hK hD⟩ rfl rfl hl.1 rfl (lv_room (Nat.le_of_ble_eq_true rfl)) dX9_lend_92 ⟨Nat.le_of_ble_eq_true rfl, Nat.le_of_ble_eq_true rfl⟩) hS (fun q _ h => hF q h) hF (fun r_18 u t H1 locs ht hvm hw hB hz1 hk1 hS => ?_)
                subst hw
                obtain ⟨hP, hD⟩ := pw_back hF ht hB
                clear hB hk1 hz1 hF
                generalize H1 = H at hP hS ⊢
                refine lv_icmp_le (tgt := 105) hx hb dX9_lend_95 (by decide) (fun c_19 => ?_) (fun c_19 => ?_)
                · have hR := (if_pos c_19).symm.trans hR
                  refine lv_iload hx hb dX9_lend_105 (lv_at hl 4 rfl) ?_
                  refine lv_aload_n hx hb dX9_lend_107 rfl (lv_at hl 0 rfl) ?_
                  refine va_get (D := D) (ci := 9) (v := .ref (ad 29)) (C := RX9) (T := TX9) (N := 51) hx hb hts hu9 hown hK hP 0 wm_0 rfl 29 (by decide) (hts (.fieldLink RX9 62 "GrazeBookModel" "rTo" "[I") (List.mem_cons_of_mem _ mw_812)) (fun _ h9 => h9) rfl dX9_lend_108 ?_
                  refine lv_iload_n hx hb dX9_lend_111 rfl (lv_at hl 1 rfl) ?_
                  refine va_iald_k (k := (a1.toNatClampNeg)) (v := (σ 29 (a1.toNatClampNeg))) hx hb hK hP 18 0 wm_a29 rfl rfl rfl (ix_isIn c_2 (ir_5 hI)) dX9_lend_112 ?_
                  refine lv_icmp_gt (tgt := 125) hx hb dX9_lend_113 (by decide) (fun c_20 => ?_) (fun c_20 => ?_)
                  · have hR := (if_pos c_20).symm.trans hR
                    refine lv_aload_n hx hb dX9_lend_125 rfl (lv_at hl 0 rfl) ?_
                    refine lv_bipush (v := (-6 : Int32)) hx hb dX9_lend_126 (by decide) ?_
                    have hF := pw_free hD hS hA
                    refine va_calli (va_runV (As := [.int (-6 : Int32)]) (rest := []) ⟨hx, hb, hml, hown, hts⟩ (k_X9_refuse l D ca h ad σ (-6 : Int32) H.size hI (by unfold vp_in; decide) _ rfl) (cwV 1 hts gX9_lend_X9_refuse rfl rfl rfl (by decide +kernel) ⟨Nat.le_of_ble_eq_true rfl, Nat.le_of_ble_eq_true rfl⟩) ⟨pw_blind, va_recv hK hP (ci := 9) (q0 := 0) rfl wm_0, pw_give hP hK hD⟩ rfl rfl hl.1 rfl (lv_room (Nat.le_of_ble_eq_true rfl)) dX9_lend_128 ⟨Nat.le_of_ble_eq_true rfl, Nat.le_of_ble_eq_true rfl⟩) hS (fun q _ h => hF q h) hF (fun r_21 u t H1 locs ht hvm hw hB hz1 hk1 hS => ?_)
                    subst hw
                    obtain ⟨hB, hI_22⟩ := hB
                    obtain ⟨hP, hD⟩ := pw_back hF ht hB
                    clear hB hk1 hz1 hF
                    generalize H1 = H at hP hS ⊢
                    have hI9 : IR ((s_X9_refuse σ (-6 : Int32)).2) := hI_22
                    subst hR
                    rw [hQ]
                    exact W.iret (v := ((s_X9_refuse σ (-6 : Int32)).1)) hx hb hr (fun t ht hW => ⟨⟨((s_X9_refuse σ (-6 : Int32)).1), (), rfl, rfl, ⟨by rw [ht]; exact hP, va_K.moved hW.alike hK, by rw [← hAe]; exact hD⟩, hI9⟩, hS.F ht⟩) hS.2.2 dX9_lend_131
                  · have hR := (if_neg c_20).symm.trans hR
                    refine lv_aload_n hx hb dX9_lend_116 rfl (lv_at hl 0 rfl) ?_
                    refine va_get (D := D) (ci := 9) (v := .int (σ 5 0)) (C := RX9) (T := TX9) (N := 51) hx hb hts hu9 hown hK hP 0 wm_0 rfl 5 (by decide) (hts (.fieldLink RX9 148 "GrazeBookModel" "rights" "I") (List.mem_cons_of_mem _ mw_788)) (fun _ h9 => h9) rfl dX9_lend_117 ?_
                    refine lv_bipush (v := (60 : Int32)) hx hb dX9_lend_120 (by decide) ?_
                    refine lv_icmp_ne (tgt := 132) hx hb dX9_lend_122 (by decide) (fun c_23 => ?_) (fun c_23 => ?_)
                    · have hR := (if_neg c_23).symm.trans hR
                      refine lv_aload_n hx hb dX9_lend_132 rfl (lv_at hl 0 rfl) ?_
                      refine lv_iconst (v := (4 : Int32)) hx hb dX9_lend_133 (by decide) ?_
                      refine lv_iload_n hx hb dX9_lend_134 rfl (lv_at hl 2 rfl) ?_
                      refine lv_iload_n hx hb dX9_lend_135 rfl (lv_at hl 3 rfl) ?_
                      refine lv_iload hx hb dX9_lend_136 (lv_at hl 4 rfl) ?_
                      refine lv_iload_n hx hb dX9_lend_138 rfl (lv_at hl 1 rfl) ?_
                      refine lv_iconst (v := (0 : Int32)) hx hb dX9_lend_139 (by decide) ?_
                      have hF := pw_free hD hS hA
                      refine va_calli (va_runV (As := [.int (4 : Int32), .int a2, .int a3, .int a4, .int a1, .int (0 : Int32)]) (rest := []) ⟨hx, hb, hml, hown, hts⟩ (k_X9_adds l D ca h ad σ (4 : Int32) a2 a3 a4 a1 (0 : Int32) H.size hI (ix_cnt (ir_5 hI) c_23 (by decide)) (fun h => absurd h (by decide)) _ rfl) (cwV 6 hts gX9_lend_X9_adds rfl rfl rfl (by decide +kernel) ⟨Nat.le_of_ble_eq_true rfl, Nat.le_of_ble_eq_true rfl⟩) ⟨pw_blind, va_recv hK hP (ci := 9) (q0 := 0) rfl wm_0, pw_give hP hK hD⟩ rfl rfl hl.1 rfl (lv_room (Nat.le_of_ble_eq_true rfl)) dX9_lend_140 ⟨Nat.le_of_ble_eq_true rfl, Nat.le_of_ble_eq_true rfl⟩) hS (fun q _ h => hF q h) hF (fun r_24 u t H1 locs ht hvm hw hB hz1 hk1 hS => ?_)
                      subst hw
                      obtain ⟨hB, hI_25⟩ := hB
                      obtain ⟨hP, hD⟩ := pw_back hF ht hB
                      clear hB hk1 hz1 hF
                      generalize H1 = H at hP hS ⊢
                      have hI9 : IR ((s_X9_adds σ (4 : Int32) a2 a3 a4 a1 (0 : Int32)).2) := hI_25
                      subst hR
                      rw [hQ]
                      exact W.iret (v := ((s_X9_adds σ (4 : Int32) a2 a3 a4 a1 (0 : Int32)).1)) hx hb hr (fun t ht hW => ⟨⟨((s_X9_adds σ (4 : Int32) a2 a3 a4 a1 (0 : Int32)).1), (), rfl, rfl, ⟨by rw [ht]; exact hP, va_K.moved hW.alike hK, by rw [← hAe]; exact hD⟩, hI9⟩, hS.F ht⟩) hS.2.2 dX9_lend_143
                    · have hR := (if_pos c_23).symm.trans hR
                      refine lv_aload_n hx hb dX9_lend_125 rfl (lv_at hl 0 rfl) ?_
                      refine lv_bipush (v := (-6 : Int32)) hx hb dX9_lend_126 (by decide) ?_
                      have hF := pw_free hD hS hA
                      refine va_calli (va_runV (As := [.int (-6 : Int32)]) (rest := []) ⟨hx, hb, hml, hown, hts⟩ (k_X9_refuse l D ca h ad σ (-6 : Int32) H.size hI (by unfold vp_in; decide) _ rfl) (cwV 1 hts gX9_lend_X9_refuse rfl rfl rfl (by decide +kernel) ⟨Nat.le_of_ble_eq_true rfl, Nat.le_of_ble_eq_true rfl⟩) ⟨pw_blind, va_recv hK hP (ci := 9) (q0 := 0) rfl wm_0, pw_give hP hK hD⟩ rfl rfl hl.1 rfl (lv_room (Nat.le_of_ble_eq_true rfl)) dX9_lend_128 ⟨Nat.le_of_ble_eq_true rfl, Nat.le_of_ble_eq_true rfl⟩) hS (fun q _ h => hF q h) hF (fun r_26 u t H1 locs ht hvm hw hB hz1 hk1 hS => ?_)
                      subst hw
                      obtain ⟨hB, hI_27⟩ := hB
                      obtain ⟨hP, hD⟩ := pw_back hF ht hB
                      clear hB hk1 hz1 hF
                      generalize H1 = H at hP hS ⊢
                      have hI9 : IR ((s_X9_refuse σ (-6 : Int32)).2) := hI_27
                      subst hR
                      rw [hQ]
                      exact W.iret (v := ((s_X9_refuse σ (-6 : Int32)).1)) hx hb hr (fun t ht hW => ⟨⟨((s_X9_refuse σ (-6 : Int32)).1), (), rfl, rfl, ⟨by rw [ht]; exact hP, va_K.moved hW.alike hK, by rw [← hAe]; exact hD⟩, hI9⟩, hS.F ht⟩) hS.2.2 dX9_lend_131
                · have hR := (if_neg c_19).symm.trans hR
                  refine lv_aload_n hx hb dX9_lend_98 rfl (lv_at hl 0 rfl) ?_
                  refine lv_bipush (v := (-5 : Int32)) hx hb dX9_lend_99 (by decide) ?_
                  have hF := pw_free hD hS hA
                  refine va_calli (va_runV (As := [.int (-5 : Int32)]) (rest := []) ⟨hx, hb, hml, hown, hts⟩ (k_X9_refuse l D ca h ad σ (-5 : Int32) H.size hI (by unfold vp_in; decide) _ rfl) (cwV 1 hts gX9_lend_X9_refuse rfl rfl rfl (by decide +kernel) ⟨Nat.le_of_ble_eq_true rfl, Nat.le_of_ble_eq_true rfl⟩) ⟨pw_blind, va_recv hK hP (ci := 9) (q0 := 0) rfl wm_0, pw_give hP hK hD⟩ rfl rfl hl.1 rfl (lv_room (Nat.le_of_ble_eq_true rfl)) dX9_lend_101 ⟨Nat.le_of_ble_eq_true rfl, Nat.le_of_ble_eq_true rfl⟩) hS (fun q _ h => hF q h) hF (fun r_28 u t H1 locs ht hvm hw hB hz1 hk1 hS => ?_)
                  subst hw
                  obtain ⟨hB, hI_29⟩ := hB
                  obtain ⟨hP, hD⟩ := pw_back hF ht hB
                  clear hB hk1 hz1 hF
                  generalize H1 = H at hP hS ⊢
                  have hI9 : IR ((s_X9_refuse σ (-5 : Int32)).2) := hI_29
                  subst hR
                  rw [hQ]
                  exact W.iret (v := ((s_X9_refuse σ (-5 : Int32)).1)) hx hb hr (fun t ht hW => ⟨⟨((s_X9_refuse σ (-5 : Int32)).1), (), rfl, rfl, ⟨by rw [ht]; exact hP, va_K.moved hW.alike hK, by rw [← hAe]; exact hD⟩, hI9⟩, hS.F ht⟩) hS.2.2 dX9_lend_104
              · have hR := (if_neg c_17).symm.trans hR
                refine lv_aload_n hx hb dX9_lend_82 rfl (lv_at hl 0 rfl) ?_
                refine lv_bipush (v := (-4 : Int32)) hx hb dX9_lend_83 (by decide) ?_
                have hF := pw_free hD hS hA
                refine va_calli (va_runV (As := [.int (-4 : Int32)]) (rest := []) ⟨hx, hb, hml, hown, hts⟩ (k_X9_refuse l D ca h ad σ (-4 : Int32) H.size hI (by unfold vp_in; decide) _ rfl) (cwV 1 hts gX9_lend_X9_refuse rfl rfl rfl (by decide +kernel) ⟨Nat.le_of_ble_eq_true rfl, Nat.le_of_ble_eq_true rfl⟩) ⟨pw_blind, va_recv hK hP (ci := 9) (q0 := 0) rfl wm_0, pw_give hP hK hD⟩ rfl rfl hl.1 rfl (lv_room (Nat.le_of_ble_eq_true rfl)) dX9_lend_85 ⟨Nat.le_of_ble_eq_true rfl, Nat.le_of_ble_eq_true rfl⟩) hS (fun q _ h => hF q h) hF (fun r_30 u t H1 locs ht hvm hw hB hz1 hk1 hS => ?_)
                subst hw
                obtain ⟨hB, hI_31⟩ := hB
                obtain ⟨hP, hD⟩ := pw_back hF ht hB
                clear hB hk1 hz1 hF
                generalize H1 = H at hP hS ⊢
                have hI9 : IR ((s_X9_refuse σ (-4 : Int32)).2) := hI_31
                subst hR
                rw [hQ]
                exact W.iret (v := ((s_X9_refuse σ (-4 : Int32)).1)) hx hb hr (fun t ht hW => ⟨⟨((s_X9_refuse σ (-4 : Int32)).1), (), rfl, rfl, ⟨by rw [ht]; exact hP, va_K.moved hW.alike hK, by rw [← hAe]; exact hD⟩, hI9⟩, hS.F ht⟩) hS.2.2 dX9_lend_88
          · have hR := (if_pos c_13).symm.trans hR
            refine lv_aload_n hx hb dX9_lend_61 rfl (lv_at hl 0 rfl) ?_
            refine lv_bipush (v := (-3 : Int32)) hx hb dX9_lend_62 (by decide) ?_
            have hF := pw_free hD hS hA
            refine va_calli (va_runV (As := [.int (-3 : Int32)]) (rest := []) ⟨hx, hb, hml, hown, hts⟩ (k_X9_refuse l D ca h ad σ (-3 : Int32) H.size hI (by unfold vp_in; decide) _ rfl) (cwV 1 hts gX9_lend_X9_refuse rfl rfl rfl (by decide +kernel) ⟨Nat.le_of_ble_eq_true rfl, Nat.le_of_ble_eq_true rfl⟩) ⟨pw_blind, va_recv hK hP (ci := 9) (q0 := 0) rfl wm_0, pw_give hP hK hD⟩ rfl rfl hl.1 rfl (lv_room (Nat.le_of_ble_eq_true rfl)) dX9_lend_64 ⟨Nat.le_of_ble_eq_true rfl, Nat.le_of_ble_eq_true rfl⟩) hS (fun q _ h => hF q h) hF (fun r_32 u t H1 locs ht hvm hw hB hz1 hk1 hS => ?_)
            subst hw
            obtain ⟨hB, hI_33⟩ := hB
            obtain ⟨hP, hD⟩ := pw_back hF ht hB
            clear hB hk1 hz1 hF
            generalize H1 = H at hP hS ⊢
            have hI9 : IR ((s_X9_refuse σ (-3 : Int32)).2) := hI_33
            subst hR
            rw [hQ]
            exact W.iret (v := ((s_X9_refuse σ (-3 : Int32)).1)) hx hb hr (fun t ht hW => ⟨⟨((s_X9_refuse σ (-3 : Int32)).1), (), rfl, rfl, ⟨by rw [ht]; exact hP, va_K.moved hW.alike hK, by rw [← hAe]; exact hD⟩, hI9⟩, hS.F ht⟩) hS.2.2 dX9_lend_67
        · have hR := (if_neg c_11).symm.trans hR
          refine lv_aload_n hx hb dX9_lend_46 rfl (lv_at hl 0 rfl) ?_
          refine lv_bipush (v := (-2 : Int32)) hx hb dX9_lend_47 (by decide) ?_
          have hF := pw_free hD hS hA
          refine va_calli (va_runV (As := [.int (-2 : Int32)]) (rest := []) ⟨hx, hb, hml, hown, hts⟩ (k_X9_refuse l D ca h ad σ (-2 : Int32) H.size hI (by unfold vp_in; decide) _ rfl) (cwV 1 hts gX9_lend_X9_refuse rfl rfl rfl (by decide +kernel) ⟨Nat.le_of_ble_eq_true rfl, Nat.le_of_ble_eq_true rfl⟩) ⟨pw_blind, va_recv hK hP (ci := 9) (q0 := 0) rfl wm_0, pw_give hP hK hD⟩ rfl rfl hl.1 rfl (lv_room (Nat.le_of_ble_eq_true rfl)) dX9_lend_49 ⟨Nat.le_of_ble_eq_true rfl, Nat.le_of_ble_eq_true rfl⟩) hS (fun q _ h => hF q h) hF (fun r_34 u t H1 locs ht hvm hw hB hz1 hk1 hS => ?_)
          subst hw
          obtain ⟨hB, hI_35⟩ := hB
          obtain ⟨hP, hD⟩ := pw_back hF ht hB
          clear hB hk1 hz1 hF
          generalize H1 = H at hP hS ⊢
          have hI9 : IR ((s_X9_refuse σ (-2 : Int32)).2) := hI_35
          subst hR
          rw [hQ]
          exact W.iret (v := ((s_X9_refuse σ (-2 : Int32)).1)) hx hb hr (fun t ht hW => ⟨⟨((s_X9_refuse σ (-2 : Int32)).1), (), rfl, rfl, ⟨by rw [ht]; exact hP, va_K.moved hW.alike hK, by rw [← hAe]; exact hD⟩, hI9⟩, hS.F ht⟩) hS.2.2 dX9_lend_52
      · have hR := (if_pos c_10).symm.trans hR
        refine lv_aload_n hx hb dX9_lend_31 rfl (lv_at hl 0 rfl) ?_
        refine lv_iconst (v := (-1 : Int32)) hx hb dX9_lend_32 (by decide) ?_
        have hF := pw_free hD hS hA
        refine va_calli (va_runV (As := [.int (-1 : Int32)]) (rest := []) ⟨hx, hb, hml, hown, hts⟩ (k_X9_refuse l D ca h ad σ (-1 : Int32) H.size hI (by unfold vp_in; decide) _ rfl) (cwV 1 hts gX9_lend_X9_refuse rfl rfl rfl (by decide +kernel) ⟨Nat.le_of_ble_eq_true rfl, Nat.le_of_ble_eq_true rfl⟩) ⟨pw_blind, va_recv hK hP (ci := 9) (q0 := 0) rfl wm_0, pw_give hP hK hD⟩ rfl rfl hl.1 rfl (lv_room (Nat.le_of_ble_eq_true rfl)) dX9_lend_33 ⟨Nat.le_of_ble_eq_true rfl, Nat.le_of_ble_eq_true rfl⟩) hS (fun q _ h => hF q h) hF (fun r_36 u t H1 locs ht hvm hw hB hz1 hk1 hS => ?_)
        subst hw
        obtain ⟨hB, hI_37⟩ := hB
        obtain ⟨hP, hD⟩ := pw_back hF ht hB
        clear hB hk1 hz1 hF
        generalize H1 = H at hP hS ⊢
        have hI9 : IR ((s_X9_refuse σ (-1 : Int32)).2) := hI_37
        subst hR
        rw [hQ]
        exact W.iret (v := ((s_X9_refuse σ (-1 : Int32)).1)) hx hb hr (fun t ht hW => ⟨⟨((s_X9_refuse σ (-1 : Int32)).1), (), rfl, rfl, ⟨by rw [ht]; exact hP, va_K.moved hW.alike hK, by rw [← hAe]; exact hD⟩, hI9⟩, hS.F ht⟩) hS.2.2 dX9_lend_36

def s_X9_sell (σ : St) (a1 : Int32) (a2 : Int32) : Int32 × St := (if (s_X9_isIn a1 (σ 5 0)) = (0 : Int32) then (((s_X9_refuse σ (-1 : Int32)).1), (s_X9_refuse σ (-1 : Int32)).2) else (if (s_X9_isIn a2 (σ 3 0)) = (0 : Int32) then (((s_X9_refuse σ (-1 : Int32)).1), (s_X9_refuse σ (-1 : Int32)).2) else (if (s_X9_ownerOfRight σ a1) = a2 then (((s_X9_refuse σ (-1 : Int32)).1), (s_X9_refuse σ (-1 : Int32)).2) else (if (σ 25 (a1.toNatClampNeg)) = (0 : Int32) then (if (s_X9_isInForce σ a1) = (0 : Int32) then (((s_X9_refuse σ (-3 : Int32)).1), (s_X9_refuse σ (-3 : Int32)).2) else ((1 : Int32), (put σ 26 (a1.toNatClampNeg) a2))) else (((s_X9_refuse σ (-2 : Int32)).1), (s_X9_refuse σ (-2 : Int32)).2)))))
theorem fr_s_X9_sell (σ : St) (a1 : Int32) (a2 : Int32) {f : Nat} (h0 : f ≠ 0) (h26 : f ≠ 26) : (s_X9_sell σ a1 a2 ).2 f = σ f := by
  unfold s_X9_sell
  all_goals ((try dsimp only) <;> ((repeat' split) <;> (try simp only [put_fr, ne_eq, not_false_eq_true, h0, h26, fr_s_X9_refuse])))
set_option maxHeartbeats 1000000 in
set_option maxRecDepth 100000 in
theorem k_X9_sell (l : Launch) (D : va_G) (ca : Nat → ClassId) (h : Nat) (ad : Nat → Nat) (σ : St) (a1 : Int32) (a2 : Int32) (sz : Nat) (hI : IR σ)  (R : Int32 × St) (hR : s_X9_sell σ a1 a2 = R) : Met l yX9_sell wsX9_sell ({ frames := 1, cells := 0, slots := 0, locals := 21 }) (va_Pc [.ref h, .int a1, .int a2] (pw_pre D ca (WM ca h ad σ) sz)) (va_Qi (fun (r : Int32) (_ : Unit) => r = R.1) (fun (_ : Unit) (t : State) => pw_post D ca (WM ca h ad σ) sz (WM ca h ad (R.2)) t ∧ IR R.2) (va_A (WM ca h ad σ) sz)) 0 0 (va_A (WM ca h ad σ) sz) := by
  refine Met.ofW (cc := cX9_sell) (maxL := 3) (ret := (some .int)) (by decide) rfl ?_
  intro p e s m args below meth c s₁ B hml hv
  obtain ⟨rfl, hsz, hP, hK, hD0⟩ := hv
  have hx := B.exec
  have hb := B.bytes
  have hr := B.returns
  have hts := atoms_spec (ws := wsX9_sell) B.pre
  have hown : s.vm.findClass RX9 = some m.cls := findClass_of_methodNamed B.named
  have hlocks := B.notSynchronized
  have hu9 : ∀ w ∈ u_ws RX9 TX9 51, w ∈ wsX9_sell := fun w h => List.mem_cons_of_mem _ (uw9 w h)
  subst hsz
  have hD := hD0.self (sz := s.heap.size)
  obtain ⟨A, hAe⟩ : ∃ A, A = va_A (WM ca h ad σ) s.heap.size := ⟨_, rfl⟩
  rw [← hAe] at hD ⊢
  have hA : ∀ q : Nat, s.heap.size ≤ q → A q := fun q h => by rw [hAe]; exact Or.inr h
  have hS : va_S A s.heap s.heap [] := va_S.rf
  have hl := lv_entry ([.ref h, .int a1, .int a2]) (n := 3) (Nat.le_of_ble_eq_true rfl)
  rw [lg_entry_eq]
  generalize (lg_sl ([.ref h, .int a1, .int a2]) ++ List.replicate (3 - (lg_sl ([.ref h, .int a1, .int a2])).length) Slot.unset).toArray = ls at hl ⊢
  have hl : lv_has ls 3 [(0, .ref h), (1, .int a1), (2, .int a2)] := hl
  obtain ⟨H, hH⟩ : ∃ H, H = s.heap := ⟨_, rfl⟩
  have hP : va_P D vwCl (WM ca h ad σ) H := by rw [hH]; exact hP
  have hS : va_S A s.heap H [] := by rw [hH]; exact hS
  obtain ⟨QQ, hQ⟩ : ∃ Q9, Q9 = MQ below (va_Qi (fun (r : Int32) (_ : Unit) => r = R.1) (fun (_ : Unit) (t : State) => pw_post D ca (WM ca h ad σ) s.heap.size (WM ca h ad (R.2)) t ∧ IR R.2) A) ([.ref h, .int a1, .int a2] : List Value).toArray s 0 0 A := ⟨_, rfl⟩
  rw [← hQ]
  show W _ _ _ _ _ _ _ _ _ _ s.heap _ _ _ _ _
  rw [← hH]
  have hR : (if (s_X9_isIn a1 (σ 5 0)) = (0 : Int32) then (((s_X9_refuse σ (-1 : Int32)).1), (s_X9_refuse σ (-1 : Int32)).2) else (if (s_X9_isIn a2 (σ 3 0)) = (0 : Int32) then (((s_X9_refuse σ (-1 : Int32)).1), (s_X9_refuse σ (-1 : Int32)).2) else (if (s_X9_ownerOfRight σ a1) = a2 then (((s_X9_refuse σ (-1 : Int32)).1), (s_X9_refuse σ (-1 : Int32)).2) else (if (σ 25 (a1.toNatClampNeg)) = (0 : Int32) then (if (s_X9_isInForce σ a1) = (0 : Int32) then (((s_X9_refuse σ (-3 : Int32)).1), (s_X9_refuse σ (-3 : Int32)).2) else ((1 : Int32), (put σ 26 (a1.toNatClampNeg) a2))) else (((s_X9_refuse σ (-2 : Int32)).1), (s_X9_refuse σ (-2 : Int32)).2))))) = R := hR
  refine lv_iload_n hx hb dX9_sell_0 rfl (lv_at hl 1 rfl) ?_
  refine lv_aload_n hx hb dX9_sell_1 rfl (lv_at hl 0 rfl) ?_
  refine va_get (D := D) (ci := 9) (v := .int (σ 5 0)) (C := RX9) (T := TX9) (N := 51) hx hb hts hu9 hown hK hP 0 wm_0 rfl 5 (by decide) (hts (.fieldLink RX9 148 "GrazeBookModel" "rights" "I") (List.mem_cons_of_mem _ mw_788)) (fun _ h9 => h9) rfl dX9_sell_2 ?_
  have hF := pw_free (pn_D (A := A)) hS hA
  refine va_calli (va_runS (As := [.int a1, .int (σ 5 0)]) (rest := []) ⟨hx, hb, hml, hown, hts⟩ (k_X9_isIn l D ca a1 (σ 5 0) H.size _ rfl) (va_cwS 2 hts gX9_sell_X9_isIn rfl rfl rfl (by decide +kernel) ⟨Nat.le_of_ble_eq_true rfl, Nat.le_of_ble_eq_true rfl⟩) ⟨pw_blind, pw_give pn_P hK (pn_D (A := A))⟩ rfl rfl hl.1 rfl (lv_room (Nat.le_of_ble_eq_true rfl)) dX9_sell_5 ⟨Nat.le_of_ble_eq_true rfl, Nat.le_of_ble_eq_true rfl⟩) hS (fun q _ h => hF q h) hF (fun r_1 u t H1 locs ht hvm hw hB hz1 hk1 hS => ?_)
  subst hw
  have hP := pn_back hP hk1
  clear hB hk1 hz1 hF
  generalize H1 = H at hP hS ⊢
  refine lv_if_eq (tgt := 31) hx hb dX9_sell_8 (by decide) (fun c_2 => ?_) (fun c_2 => ?_)
  · have hR := (if_pos c_2).symm.trans hR
    refine lv_aload_n hx hb dX9_sell_31 rfl (lv_at hl 0 rfl) ?_
    refine lv_iconst (v := (-1 : Int32)) hx hb dX9_sell_32 (by decide) ?_
    have hF := pw_free hD hS hA
    refine va_calli (va_runV (As := [.int (-1 : Int32)]) (rest := []) ⟨hx, hb, hml, hown, hts⟩ (k_X9_refuse l D ca h ad σ (-1 : Int32) H.size hI (by unfold vp_in; decide) _ rfl) (cwV 1 hts gX9_sell_X9_refuse rfl rfl rfl (by decide +kernel) ⟨Nat.le_of_ble_eq_true rfl, Nat.le_of_ble_eq_true rfl⟩) ⟨pw_blind, va_recv hK hP (ci := 9) (q0 := 0) rfl wm_0, pw_give hP hK hD⟩ rfl rfl hl.1 rfl (lv_room (Nat.le_of_ble_eq_true rfl)) dX9_sell_33 ⟨Nat.le_of_ble_eq_true rfl, Nat.le_of_ble_eq_true rfl⟩) hS (fun q _ h => hF q h) hF (fun r_3 u t H1 locs ht hvm hw hB hz1 hk1 hS => ?_)
    subst hw
    obtain ⟨hB, hI_4⟩ := hB
    obtain ⟨hP, hD⟩ := pw_back hF ht hB
    clear hB hk1 hz1 hF
    generalize H1 = H at hP hS ⊢
    have hI9 : IR ((s_X9_refuse σ (-1 : Int32)).2) := hI_4
    subst hR
    rw [hQ]
    exact W.iret (v := ((s_X9_refuse σ (-1 : Int32)).1)) hx hb hr (fun t ht hW => ⟨⟨((s_X9_refuse σ (-1 : Int32)).1), (), rfl, rfl, ⟨by rw [ht]; exact hP, va_K.moved hW.alike hK, by rw [← hAe]; exact hD⟩, hI9⟩, hS.F ht⟩) hS.2.2 dX9_sell_36
  · have hR := (if_neg c_2).symm.trans hR
    refine lv_iload_n hx hb dX9_sell_11 rfl (lv_at hl 2 rfl) ?_
    refine lv_aload_n hx hb dX9_sell_12 rfl (lv_at hl 0 rfl) ?_
    refine va_get (D := D) (ci := 9) (v := .int (σ 3 0)) (C := RX9) (T := TX9) (N := 51) hx hb hts hu9 hown hK hP 0 wm_0 rfl 3 (by decide) (hts (.fieldLink RX9 131 "GrazeBookModel" "owners" "I") (List.mem_cons_of_mem _ mw_786)) (fun _ h9 => h9) rfl dX9_sell_13 ?_
    have hF := pw_free (pn_D (A := A)) hS hA
    refine va_calli (va_runS (As := [.int a2, .int (σ 3 0)]) (rest := []) ⟨hx, hb, hml, hown, hts⟩ (k_X9_isIn l D ca a2 (σ 3 0) H.size _ rfl) (va_cwS 2 hts gX9_sell_X9_isIn rfl rfl rfl (by decide +kernel) ⟨Nat.le_of_ble_eq_true rfl, Nat.le_of_ble_eq_true rfl⟩) ⟨pw_blind, pw_give pn_P hK (pn_D (A := A))⟩ rfl rfl hl.1 rfl (lv_room (Nat.le_of_ble_eq_true rfl)) dX9_sell_16 ⟨Nat.le_of_ble_eq_true rfl, Nat.le_of_ble_eq_true rfl⟩) hS (fun q _ h => hF q h) hF (fun r_5 u t H1 locs ht hvm hw hB hz1 hk1 hS => ?_)
    subst hw
    have hP := pn_back hP hk1
    clear hB hk1 hz1 hF
    generalize H1 = H at hP hS ⊢
    refine lv_if_eq (tgt := 31) hx hb dX9_sell_19 (by decide) (fun c_6 => ?_) (fun c_6 => ?_)
    · have hR := (if_pos c_6).symm.trans hR
      refine lv_aload_n hx hb dX9_sell_31 rfl (lv_at hl 0 rfl) ?_
      refine lv_iconst (v := (-1 : Int32)) hx hb dX9_sell_32 (by decide) ?_
      have hF := pw_free hD hS hA
      refine va_calli (va_runV (As := [.int (-1 : Int32)]) (rest := []) ⟨hx, hb, hml, hown, hts⟩ (k_X9_refuse l D ca h ad σ (-1 : Int32) H.size hI (by unfold vp_in; decide) _ rfl) (cwV 1 hts gX9_sell_X9_refuse rfl rfl rfl (by decide +kernel) ⟨Nat.le_of_ble_eq_true rfl, Nat.le_of_ble_eq_true rfl⟩) ⟨pw_blind, va_recv hK hP (ci := 9) (q0 := 0) rfl wm_0, pw_give hP hK hD⟩ rfl rfl hl.1 rfl (lv_room (Nat.le_of_ble_eq_true rfl)) dX9_sell_33 ⟨Nat.le_of_ble_eq_true rfl, Nat.le_of_ble_eq_true rfl⟩) hS (fun q _ h => hF q h) hF (fun r_7 u t H1 locs ht hvm hw hB hz1 hk1 hS => ?_)
      subst hw
      obtain ⟨hB, hI_8⟩ := hB
      obtain ⟨hP, hD⟩ := pw_back hF ht hB
      clear hB hk1 hz1 hF
      generalize H1 = H at hP hS ⊢
      have hI9 : IR ((s_X9_refuse σ (-1 : Int32)).2) := hI_8
      subst hR
      rw [hQ]
      exact W.iret (v := ((s_X9_refuse σ (-1 : Int32)).1)) hx hb hr (fun t ht hW => ⟨⟨((s_X9_refuse σ (-1 : Int32)).1), (), rfl, rfl, ⟨by rw [ht]; exact hP, va_K.moved hW.alike hK, by rw [← hAe]; exact hD⟩, hI9⟩, hS.F ht⟩) hS.2.2 dX9_sell_36
    · have hR := (if_neg c_6).symm.trans hR
      refine lv_aload_n hx hb dX9_sell_22 rfl (lv_at hl 0 rfl) ?_
      refine lv_iload_n hx hb dX9_sell_23 rfl (lv_at hl 1 rfl) ?_
      have hF := pw_free hD hS hA
      refine va_calli (va_runV (As := [.int a1]) (rest := []) ⟨hx, hb, hml, hown, hts⟩ (k_X9_ownerOfRight l D ca h ad σ a1 H.size hI (ix_isIn c_2 (ir_5 hI)) _ rfl) (cwV 1 hts gX9_sell_X9_ownerOfRight rfl rfl rfl (by decide +kernel) ⟨Nat.le_of_ble_eq_true rfl, Nat.le_of_ble_eq_true rfl⟩) ⟨pw_blind, va_recv hK hP (ci := 9) (q0 := 0) rfl wm_0, pw_give hP hK hD⟩ rfl rfl hl.1 rfl (lv_room (Nat.le_of_ble_eq_true rfl)) dX9_sell_24 ⟨Nat.le_of_ble_eq_true rfl, Nat.le_of_ble_eq_true rfl⟩) hS (fun q _ h => hF q h) hF (fun r_9 u t H1 locs ht hvm hw hB hz1 hk1 hS => ?_)
      subst hw
      obtain ⟨hP, hD⟩ := pw_back hF ht hB
      clear hB hk1 hz1 hF
      generalize H1 = H at hP hS ⊢
      refine lv_iload_n hx hb dX9_sell_27 rfl (lv_at hl 2 rfl) ?_
      refine lv_icmp_ne (tgt := 37) hx hb dX9_sell_28 (by decide) (fun c_10 => ?_) (fun c_10 => ?_)
      · have hR := (if_neg c_10).symm.trans hR
        refine lv_aload_n hx hb dX9_sell_37 rfl (lv_at hl 0 rfl) ?_
        refine va_get (D := D) (ci := 9) (v := .ref (ad 25)) (C := RX9) (T := TX9) (N := 51) hx hb hts hu9 hown hK hP 0 wm_0 rfl 25 (by decide) (hts (.fieldLink RX9 50 "GrazeBookModel" "rKind" "[I") (List.mem_cons_of_mem _ mw_808)) (fun _ h9 => h9) rfl dX9_sell_38 ?_
        refine lv_iload_n hx hb dX9_sell_41 rfl (lv_at hl 1 rfl) ?_
        refine va_iald_k (k := (a1.toNatClampNeg)) (v := (σ 25 (a1.toNatClampNeg))) hx hb hK hP 14 0 wm_a25 rfl rfl rfl (ix_isIn c_2 (ir_5 hI)) dX9_sell_42 ?_
        refine lv_if_eq (tgt := 53) hx hb dX9_sell_43 (by decide) (fun c_11 => ?_) (fun c_11 => ?_)
        · have hR := (if_pos c_11).symm.trans hR
          refine lv_aload_n hx hb dX9_sell_53 rfl (lv_at hl 0 rfl) ?_
          refine lv_iload_n hx hb dX9_sell_54 rfl (lv_at hl 1 rfl) ?_
          have hF := pw_free hD hS hA
          refine va_calli (va_runV (As := [.int a1]) (rest := []) ⟨hx, hb, hml, hown, hts⟩ (k_X9_isInForce l D ca h ad σ a1 H.size hI (ix_isIn c_2 (ir_5 hI)) _ rfl) (cwV 1 hts gX9_sell_X9_isInForce rfl rfl rfl (by decide +kernel) ⟨Nat.le_of_ble_eq_true rfl, Nat.le_of_ble_eq_true rfl⟩) ⟨pw_blind, va_recv hK hP (ci := 9) (q0 := 0) rfl wm_0, pw_give hP hK hD⟩ rfl rfl hl.1 rfl (lv_room (Nat.le_of_ble_eq_true rfl)) dX9_sell_55 ⟨Nat.le_of_ble_eq_true rfl, Nat.le_of_ble_eq_true rfl⟩) hS (fun q _ h => hF q h) hF (fun r_12 u t H1 locs ht hvm hw hB hz1 hk1 hS => ?_)
          subst hw
          obtain ⟨hP, hD⟩ := pw_back hF ht hB
          clear hB hk1 hz1 hF
          generalize H1 = H at hP hS ⊢
          refine lv_if_ne (tgt := 68) hx hb dX9_sell_58 (by decide) (fun c_13 => ?_) (fun c_13 => ?_)
          · have hR := (if_neg c_13).symm.trans hR
            refine lv_aload_n hx hb dX9_sell_68 rfl (lv_at hl 0 rfl) ?_
            refine va_get (D := D) (ci := 9) (v := .ref (ad 26)) (C := RX9) (T := TX9) (N := 51) hx hb hts hu9 hown hK hP 0 wm_0 rfl 26 (by decide) (hts (.fieldLink RX9 53 "GrazeBookModel" "rWho" "[I") (List.mem_cons_of_mem _ mw_809)) (fun _ h9 => h9) rfl dX9_sell_69 ?_
            refine lv_iload_n hx hb dX9_sell_72 rfl (lv_at hl 1 rfl) ?_
            refine lv_iload_n hx hb dX9_sell_73 rfl (lv_at hl 2 rfl) ?_
            refine va_iast_k (k := (a1.toNatClampNeg)) hx hb hK hP hD hS 15 0 wm_a26 rfl rfl (ix_isIn c_2 (ir_5 hI)) dX9_sell_74 (fun H locs hP hD hS => ?_)
            rw [wm_s26] at hP hD
            refine lv_iconst (v := (1 : Int32)) hx hb dX9_sell_75 (by decide) ?_
            have hI9 : IR (put σ 26 (a1.toNatClampNeg) a2) := (ir_put26 (σ := σ) hI (by rw [c_11]; decide))
            subst hR
            rw [hQ]
            exact W.iret (v := (1 : Int32)) hx hb hr (fun t ht hW => ⟨⟨(1 : Int32), (), rfl, rfl, ⟨by rw [ht]; exact hP, va_K.moved hW.alike hK, by rw [← hAe]; exact hD⟩, hI9⟩, hS.F ht⟩) hS.2.2 dX9_sell_76
          · have hR := (if_pos c_13).symm.trans hR
            refine lv_aload_n hx hb dX9_sell_61 rfl (lv_at hl 0 rfl) ?_
            refine lv_bipush (v := (-3 : Int32)) hx hb dX9_sell_62 (by decide) ?_
            have hF := pw_free hD hS hA
            refine va_calli (va_runV (As := [.int (-3 : Int32)]) (rest := []) ⟨hx, hb, hml, hown, hts⟩ (k_X9_refuse l D ca h ad σ (-3 : Int32) H.size hI (by unfold vp_in; decide) _ rfl) (cwV 1 hts gX9_sell_X9_refuse rfl rfl rfl (by decide +kernel) ⟨Nat.le_of_ble_eq_true rfl, Nat.le_of_ble_eq_true rfl⟩) ⟨pw_blind, va_recv hK hP (ci := 9) (q0 := 0) rfl wm_0, pw_give hP hK hD⟩ rfl rfl hl.1 rfl (lv_room (Nat.le_of_ble_eq_true rfl)) dX9_sell_64 ⟨Nat.le_of_ble_eq_true rfl, Nat.le_of_ble_eq_true rfl⟩) hS (fun q _ h => hF q h) hF (fun r_14 u t H1 locs ht hvm hw hB hz1 hk1 hS => ?_)
            subst hw
            obtain ⟨hB, hI_15⟩ := hB
            obtain ⟨hP, hD⟩ := pw_back hF ht hB
            clear hB hk1 hz1 hF
            generalize H1 = H at hP hS ⊢
            have hI9 : IR ((s_X9_refuse σ (-3 : Int32)).2) := hI_15
            subst hR
            rw [hQ]
            exact W.iret (v := ((s_X9_refuse σ (-3 : Int32)).1)) hx hb hr (fun t ht hW => ⟨⟨((s_X9_refuse σ (-3 : Int32)).1), (), rfl, rfl, ⟨by rw [ht]; exact hP, va_K.moved hW.alike hK, by rw [← hAe]; exact hD⟩, hI9⟩, hS.F ht⟩) hS.2.2 dX9_sell_67
        · have hR := (if_neg c_11).symm.trans hR
          refine lv_aload_n hx hb dX9_sell_46 rfl (lv_at hl 0 rfl) ?_
          refine lv_bipush (v := (-2 : Int32)) hx hb dX9_sell_47 (by decide) ?_
          have hF := pw_free hD hS hA
          refine va_calli (va_runV (As := [.int (-2 : Int32)]) (rest := []) ⟨hx, hb, hml, hown, hts⟩ (k_X9_refuse l D ca h ad σ (-2 : Int32) H.size hI (by unfold vp_in; decide) _ rfl) (cwV 1 hts gX9_sell_X9_refuse rfl rfl rfl (by decide +kernel) ⟨Nat.le_of_ble_eq_true rfl, Nat.le_of_ble_eq_true rfl⟩) ⟨pw_blind, va_recv hK hP (ci := 9) (q0 := 0) rfl wm_0, pw_give hP hK hD⟩ rfl rfl hl.1 rfl (lv_room (Nat.le_of_ble_eq_true rfl)) dX9_sell_49 ⟨Nat.le_of_ble_eq_true rfl, Nat.le_of_ble_eq_true rfl⟩) hS (fun q _ h => hF q h) hF (fun r_16 u t H1 locs ht hvm hw hB hz1 hk1 hS => ?_)
          subst hw
          obtain ⟨hB, hI_17⟩ := hB
          obtain ⟨hP, hD⟩ := pw_back hF ht hB
          clear hB hk1 hz1 hF
          generalize H1 = H at hP hS ⊢
          have hI9 : IR ((s_X9_refuse σ (-2 : Int32)).2) := hI_17
          subst hR
          rw [hQ]
          exact W.iret (v := ((s_X9_refuse σ (-2 : Int32)).1)) hx hb hr (fun t ht hW => ⟨⟨((s_X9_refuse σ (-2 : Int32)).1), (), rfl, rfl, ⟨by rw [ht]; exact hP, va_K.moved hW.alike hK, by rw [← hAe]; exact hD⟩, hI9⟩, hS.F ht⟩) hS.2.2 dX9_sell_52
      · have hR := (if_pos c_10).symm.trans hR
        refine lv_aload_n hx hb dX9_sell_31 rfl (lv_at hl 0 rfl) ?_
        refine lv_iconst (v := (-1 : Int32)) hx hb dX9_sell_32 (by decide) ?_
        have hF := pw_free hD hS hA
        refine va_calli (va_runV (As := [.int (-1 : Int32)]) (rest := []) ⟨hx, hb, hml, hown, hts⟩ (k_X9_refuse l D ca h ad σ (-1 : Int32) H.size hI (by unfold vp_in; decide) _ rfl) (cwV 1 hts gX9_sell_X9_refuse rfl rfl rfl (by decide +kernel) ⟨Nat.le_of_ble_eq_true rfl, Nat.le_of_ble_eq_true rfl⟩) ⟨pw_blind, va_recv hK hP (ci := 9) (q0 := 0) rfl wm_0, pw_give hP hK hD⟩ rfl rfl hl.1 rfl (lv_room (Nat.le_of_ble_eq_true rfl)) dX9_sell_33 ⟨Nat.le_of_ble_eq_true rfl, Nat.le_of_ble_eq_true rfl⟩) hS (fun q _ h => hF q h) hF (fun r_18 u t H1 locs ht hvm hw hB hz1 hk1 hS => ?_)
        subst hw
        obtain ⟨hB, hI_19⟩ := hB
        obtain ⟨hP, hD⟩ := pw_back hF ht hB
        clear hB hk1 hz1 hF
        generalize H1 = H at hP hS ⊢
        have hI9 : IR ((s_X9_refuse σ (-1 : Int32)).2) := hI_19
        subst hR
        rw [hQ]
        exact W.iret (v := ((s_X9_refuse σ (-1 : Int32)).1)) hx hb hr (fun t ht hW => ⟨⟨((s_X9_refuse σ (-1 : Int32)).1), (), rfl, rfl, ⟨by rw [ht]; exact hP, va_K.moved hW.alike hK, by rw [← hAe]; exact hD⟩, hI9⟩, hS.F ht⟩) hS.2.2 dX9_sell_36

def s_X9_move (σ : St) (a1 : Int32) (a2 : Int32) : Int32 × St := (if (s_X9_isIn a1 (σ 4 0)) = (0 : Int32) then (((s_X9_refuse σ (-1 : Int32)).1), (s_X9_refuse σ (-1 : Int32)).2) else (if (s_X9_isIn a2 (σ 3 0)) = (0 : Int32) then (((s_X9_refuse σ (-1 : Int32)).1), (s_X9_refuse σ (-1 : Int32)).2) else (if (σ 21 (a1.toNatClampNeg)) = a2 then (((s_X9_refuse σ (-1 : Int32)).1), (s_X9_refuse σ (-1 : Int32)).2) else ((1 : Int32), (put σ 21 (a1.toNatClampNeg) a2)))))
theorem fr_s_X9_move (σ : St) (a1 : Int32) (a2 : Int32) {f : Nat} (h0 : f ≠ 0) (h21 : f ≠ 21) : (s_X9_move σ a1 a2 ).2 f = σ f := by
  unfold s_X9_move
  all_goals ((try dsimp only) <;> ((repeat' split) <;> (try simp only [put_fr, ne_eq, not_false_eq_true, h0, h21, fr_s_X9_refuse])))
set_option maxHeartbeats 1000000 in
set_option maxRecDepth 100000 in
theorem k_X9_move (l : Launch) (D : va_G) (ca : Nat → ClassId) (h : Nat) (ad : Nat → Nat) (σ : St) (a1 : Int32) (a2 : Int32) (sz : Nat) (hI : IR σ)  (R : Int32 × St) (hR : s_X9_move σ a1 a2 = R) : Met l yX9_move wsX9_move ({ frames := 1, cells := 0, slots := 0, locals := 21 }) (va_Pc [.ref h, .int a1, .int a2] (pw_pre D ca (WM ca h ad σ) sz)) (va_Qi (fun (r : Int32) (_ : Unit) => r = R.1) (fun (_ : Unit) (t : State) => pw_post D ca (WM ca h ad σ) sz (WM ca h ad (R.2)) t ∧ IR R.2) (va_A (WM ca h ad σ) sz)) 0 0 (va_A (WM ca h ad σ) sz) := by
  refine Met.ofW (cc := cX9_move) (maxL := 3) (ret := (some .int)) (by decide) rfl ?_
  intro p e s m args below meth c s₁ B hml hv
  obtain ⟨rfl, hsz, hP, hK, hD0⟩ := hv
  have hx := B.exec
  have hb := B.bytes
  have hr := B.returns
  have hts := atoms_spec (ws := wsX9_move) B.pre
  have hown : s.vm.findClass RX9 = some m.cls := findClass_of_methodNamed B.named
  have hlocks := B.notSynchronized
  have hu9 : ∀ w ∈ u_ws RX9 TX9 51, w ∈ wsX9_move := fun w h => List.mem_cons_of_mem _ (uw9 w h)
  subst hsz
  have hD := hD0.self (sz := s.heap.size)
  obtain ⟨A, hAe⟩ : ∃ A, A = va_A (WM ca h ad σ) s.heap.size := ⟨_, rfl⟩
  rw [← hAe] at hD ⊢
  have hA : ∀ q : Nat, s.heap.size ≤ q → A q := fun q h => by rw [hAe]; exact Or.inr h
  have hS : va_S A s.heap s.heap [] := va_S.rf
  have hl := lv_entry ([.ref h, .int a1, .int a2]) (n := 3) (Nat.le_of_ble_eq_true rfl)
  rw [lg_entry_eq]
  generalize (lg_sl ([.ref h, .int a1, .int a2]) ++ List.replicate (3 - (lg_sl ([.ref h, .int a1, .int a2])).length) Slot.unset).toArray = ls at hl ⊢
  have hl : lv_has ls 3 [(0, .ref h), (1, .int a1), (2, .int a2)] := hl
  obtain ⟨H, hH⟩ : ∃ H, H = s.heap := ⟨_, rfl⟩
  have hP : va_P D vwCl (WM ca h ad σ) H := by rw [hH]; exact hP
  have hS : va_S A s.heap H [] := by rw [hH]; exact hS
  obtain ⟨QQ, hQ⟩ : ∃ Q9, Q9 = MQ below (va_Qi (fun (r : Int32) (_ : Unit) => r = R.1) (fun (_ : Unit) (t : State) => pw_post D ca (WM ca h ad σ) s.heap.size (WM ca h ad (R.2)) t ∧ IR R.2) A) ([.ref h, .int a1, .int a2] : List Value).toArray s 0 0 A := ⟨_, rfl⟩
  rw [← hQ]
  show W _ _ _ _ _ _ _ _ _ _ s.heap _ _ _ _ _
  rw [← hH]
  have hR : (if (s_X9_isIn a1 (σ 4 0)) = (0 : Int32) then (((s_X9_refuse σ (-1 : Int32)).1), (s_X9_refuse σ (-1 : Int32)).2) else (if (s_X9_isIn a2 (σ 3 0)) = (0 : Int32) then (((s_X9_refuse σ (-1 : Int32)).1), (s_X9_refuse σ (-1 : Int32)).2) else (if (σ 21 (a1.toNatClampNeg)) = a2 then (((s_X9_refuse σ (-1 : Int32)).1), (s_X9_refuse σ (-1 : Int32)).2) else ((1 : Int32), (put σ 21 (a1.toNatClampNeg) a2))))) = R := hR
  refine lv_iload_n hx hb dX9_move_0 rfl (lv_at hl 1 rfl) ?_
  refine lv_aload_n hx hb dX9_move_1 rfl (lv_at hl 0 rfl) ?_
  refine va_get (D := D) (ci := 9) (v := .int (σ 4 0)) (C := RX9) (T := TX9) (N := 51) hx hb hts hu9 hown hK hP 0 wm_0 rfl 4 (by decide) (hts (.fieldLink RX9 138 "GrazeBookModel" "houses" "I") (List.mem_cons_of_mem _ mw_787)) (fun _ h9 => h9) rfl dX9_move_2 ?_
  have hF := pw_free (pn_D (A := A)) hS hA
  refine va_calli (va_runS (As := [.int a1, .int (σ 4 0)]) (rest := []) ⟨hx, hb, hml, hown, hts⟩ (k_X9_isIn l D ca a1 (σ 4 0) H.size _ rfl) (va_cwS 2 hts gX9_move_X9_isIn rfl rfl rfl (by decide +kernel) ⟨Nat.le_of_ble_eq_true rfl, Nat.le_of_ble_eq_true rfl⟩) ⟨pw_blind, pw_give pn_P hK (pn_D (A := A))⟩ rfl rfl hl.1 rfl (lv_room (Nat.le_of_ble_eq_true rfl)) dX9_move_5 ⟨Nat.le_of_ble_eq_true rfl, Nat.le_of_ble_eq_true rfl⟩) hS (fun q _ h => hF q h) hF (fun r_1 u t H1 locs ht hvm hw hB hz1 hk1 hS => ?_)
  subst hw
  have hP := pn_back hP hk1
  clear hB hk1 hz1 hF
  generalize H1 = H at hP hS ⊢
  refine lv_if_eq (tgt := 32) hx hb dX9_move_8 (by decide) (fun c_2 => ?_) (fun c_2 => ?_)
  · have hR := (if_pos c_2).symm.trans hR
    refine lv_aload_n hx hb dX9_move_32 rfl (lv_at hl 0 rfl) ?_
    refine lv_iconst (v := (-1 : Int32)) hx hb dX9_move_33 (by decide) ?_
    have hF := pw_free hD hS hA
    refine va_calli (va_runV (As := [.int (-1 : Int32)]) (rest := []) ⟨hx, hb, hml, hown, hts⟩ (k_X9_refuse l D ca h ad σ (-1 : Int32) H.size hI (by unfold vp_in; decide) _ rfl) (cwV 1 hts gX9_move_X9_refuse rfl rfl rfl (by decide +kernel) ⟨Nat.le_of_ble_eq_true rfl, Nat.le_of_ble_eq_true rfl⟩) ⟨pw_blind, va_recv hK hP (ci := 9) (q0 := 0) rfl wm_0, pw_give hP hK hD⟩ rfl rfl hl.1 rfl (lv_room (Nat.le_of_ble_eq_true rfl)) dX9_move_34 ⟨Nat.le_of_ble_eq_true rfl, Nat.le_of_ble_eq_true rfl⟩) hS (fun q _ h => hF q h) hF (fun r_3 u t H1 locs ht hvm hw hB hz1 hk1 hS => ?_)
    subst hw
    obtain ⟨hB, hI_4⟩ := hB
    obtain ⟨hP, hD⟩ := pw_back hF ht hB
    clear hB hk1 hz1 hF
    generalize H1 = H at hP hS ⊢
    have hI9 : IR ((s_X9_refuse σ (-1 : Int32)).2) := hI_4
    subst hR
    rw [hQ]
    exact W.iret (v := ((s_X9_refuse σ (-1 : Int32)).1)) hx hb hr (fun t ht hW => ⟨⟨((s_X9_refuse σ (-1 : Int32)).1), (), rfl, rfl, ⟨by rw [ht]; exact hP, va_K.moved hW.alike hK, by rw [← hAe]; exact hD⟩, hI9⟩, hS.F ht⟩) hS.2.2 dX9_move_37
  · have hR := (if_neg c_2).symm.trans hR
    refine lv_iload_n hx hb dX9_move_11 rfl (lv_at hl 2 rfl) ?_
    refine lv_aload_n hx hb dX9_move_12 rfl (lv_at hl 0 rfl) ?_
    refine va_get (D := D) (ci := 9) (v := .int (σ 3 0)) (C := RX9) (T := TX9) (N := 51) hx hb hts hu9 hown hK hP 0 wm_0 rfl 3 (by decide) (hts (.fieldLink RX9 131 "GrazeBookModel" "owners" "I") (List.mem_cons_of_mem _ mw_786)) (fun _ h9 => h9) rfl dX9_move_13 ?_
    have hF := pw_free (pn_D (A := A)) hS hA
    refine va_calli (va_runS (As := [.int a2, .int (σ 3 0)]) (rest := []) ⟨hx, hb, hml, hown, hts⟩ (k_X9_isIn l D ca a2 (σ 3 0) H.size _ rfl) (va_cwS 2 hts gX9_move_X9_isIn rfl rfl rfl (by decide +kernel) ⟨Nat.le_of_ble_eq_true rfl, Nat.le_of_ble_eq_true rfl⟩) ⟨pw_blind, pw_give pn_P hK (pn_D (A := A))⟩ rfl rfl hl.1 rfl (lv_room (Nat.le_of_ble_eq_true rfl)) dX9_move_16 ⟨Nat.le_of_ble_eq_true rfl, Nat.le_of_ble_eq_true rfl⟩) hS (fun q _ h => hF q h) hF (fun r_5 u t H1 locs ht hvm hw hB hz1 hk1 hS => ?_)
    subst hw
    have hP := pn_back hP hk1
    clear hB hk1 hz1 hF
    generalize H1 = H at hP hS ⊢
    refine lv_if_eq (tgt := 32) hx hb dX9_move_19 (by decide) (fun c_6 => ?_) (fun c_6 => ?_)
    · have hR := (if_pos c_6).symm.trans hR
      refine lv_aload_n hx hb dX9_move_32 rfl (lv_at hl 0 rfl) ?_
      refine lv_iconst (v := (-1 : Int32)) hx hb dX9_move_33 (by decide) ?_
      have hF := pw_free hD hS hA
      refine va_calli (va_runV (As := [.int (-1 : Int32)]) (rest := []) ⟨hx, hb, hml, hown, hts⟩ (k_X9_refuse l D ca h ad σ (-1 : Int32) H.size hI (by unfold vp_in; decide) _ rfl) (cwV 1 hts gX9_move_X9_refuse rfl rfl rfl (by decide +kernel) ⟨Nat.le_of_ble_eq_true rfl, Nat.le_of_ble_eq_true rfl⟩) ⟨pw_blind, va_recv hK hP (ci := 9) (q0 := 0) rfl wm_0, pw_give hP hK hD⟩ rfl rfl hl.1 rfl (lv_room (Nat.le_of_ble_eq_true rfl)) dX9_move_34 ⟨Nat.le_of_ble_eq_true rfl, Nat.le_of_ble_eq_true rfl⟩) hS (fun q _ h => hF q h) hF (fun r_7 u t H1 locs ht hvm hw hB hz1 hk1 hS => ?_)
      subst hw
      obtain ⟨hB, hI_8⟩ := hB
      obtain ⟨hP, hD⟩ := pw_back hF ht hB
      clear hB hk1 hz1 hF
      generalize H1 = H at hP hS ⊢
      have hI9 : IR ((s_X9_refuse σ (-1 : Int32)).2) := hI_8
      subst hR
      rw [hQ]
      exact W.iret (v := ((s_X9_refuse σ (-1 : Int32)).1)) hx hb hr (fun t ht hW => ⟨⟨((s_X9_refuse σ (-1 : Int32)).1), (), rfl, rfl, ⟨by rw [ht]; exact hP, va_K.moved hW.alike hK, by rw [← hAe]; exact hD⟩, hI9⟩, hS.F ht⟩) hS.2.2 dX9_move_37
    · have hR := (if_neg c_6).symm.trans hR
      refine lv_aload_n hx hb dX9_move_22 rfl (lv_at hl 0 rfl) ?_
      refine va_get (D := D) (ci := 9) (v := .ref (ad 21)) (C := RX9) (T := TX9) (N := 51) hx hb hts hu9 hown hK hP 0 wm_0 rfl 21 (by decide) (hts (.fieldLink RX9 38 "GrazeBookModel" "houseOf" "[I") (List.mem_cons_of_mem _ mw_804)) (fun _ h9 => h9) rfl dX9_move_23 ?_
      refine lv_iload_n hx hb dX9_move_26 rfl (lv_at hl 1 rfl) ?_
      refine va_iald_k (k := (a1.toNatClampNeg)) (v := (σ 21 (a1.toNatClampNeg))) hx hb hK hP 10 0 wm_a21 rfl rfl rfl (ix_isIn c_2 (ir_4 hI)) dX9_move_27 ?_
      refine lv_iload_n hx hb dX9_move_28 rfl (lv_at hl 2 rfl) ?_
      refine lv_icmp_ne (tgt := 38) hx hb dX9_move_29 (by decide) (fun c_9 => ?_) (fun c_9 => ?_)
      · have hR := (if_neg c_9).symm.trans hR
        refine lv_aload_n hx hb dX9_move_38 rfl (lv_at hl 0 rfl) ?_
        refine va_get (D := D) (ci := 9) (v := .ref (ad 21)) (C := RX9) (T := TX9) (N := 51) hx hb hts hu9 hown hK hP 0 wm_0 rfl 21 (by decide) (hts (.fieldLink RX9 38 "GrazeBookModel" "houseOf" "[I") (List.mem_cons_of_mem _ mw_804)) (fun _ h9 => h9) rfl dX9_move_39 ?_
        refine lv_iload_n hx hb dX9_move_42 rfl (lv_at hl 1 rfl) ?_
        refine lv_iload_n hx hb dX9_move_43 rfl (lv_at hl 2 rfl) ?_
        refine va_iast_k (k := (a1.toNatClampNeg)) hx hb hK hP hD hS 10 0 wm_a21 rfl rfl (ix_isIn c_2 (ir_4 hI)) dX9_move_44 (fun H locs hP hD hS => ?_)
        rw [wm_s21] at hP hD
        refine lv_iconst (v := (1 : Int32)) hx hb dX9_move_45 (by decide) ?_
        have hI9 : IR (put σ 21 (a1.toNatClampNeg) a2) := hI
        subst hR
        rw [hQ]
        exact W.iret (v := (1 : Int32)) hx hb hr (fun t ht hW => ⟨⟨(1 : Int32), (), rfl, rfl, ⟨by rw [ht]; exact hP, va_K.moved hW.alike hK, by rw [← hAe]; exact hD⟩, hI9⟩, hS.F ht⟩) hS.2.2 dX9_move_46
      · have hR := (if_pos c_9).symm.trans hR
        refine lv_aload_n hx hb dX9_move_32 rfl (lv_at hl 0 rfl) ?_
        refine lv_iconst (v := (-1 : Int32)) hx hb dX9_move_33 (by decide) ?_
        have hF := pw_free hD hS hA
        refine va_calli (va_runV (As := [.int (-1 : Int32)]) (rest := []) ⟨hx, hb, hml, hown, hts⟩ (k_X9_refuse l D ca h ad σ (-1 : Int32) H.size hI (by unfold vp_in; decide) _ rfl) (cwV 1 hts gX9_move_X9_refuse rfl rfl rfl (by decide +kernel) ⟨Nat.le_of_ble_eq_true rfl, Nat.le_of_ble_eq_true rfl⟩) ⟨pw_blind, va_recv hK hP (ci := 9) (q0 := 0) rfl wm_0, pw_give hP hK hD⟩ rfl rfl hl.1 rfl (lv_room (Nat.le_of_ble_eq_true rfl)) dX9_move_34 ⟨Nat.le_of_ble_eq_true rfl, Nat.le_of_ble_eq_true rfl⟩) hS (fun q _ h => hF q h) hF (fun r_10 u t H1 locs ht hvm hw hB hz1 hk1 hS => ?_)
        subst hw
        obtain ⟨hB, hI_11⟩ := hB
        obtain ⟨hP, hD⟩ := pw_back hF ht hB
        clear hB hk1 hz1 hF
        generalize H1 = H at hP hS ⊢
        have hI9 : IR ((s_X9_refuse σ (-1 : Int32)).2) := hI_11
        subst hR
        rw [hQ]
        exact W.iret (v := ((s_X9_refuse σ (-1 : Int32)).1)) hx hb hr (fun t ht hW => ⟨⟨((s_X9_refuse σ (-1 : Int32)).1), (), rfl, rfl, ⟨by rw [ht]; exact hP, va_K.moved hW.alike hK, by rw [← hAe]; exact hD⟩, hI9⟩, hS.F ht⟩) hS.2.2 dX9_move_37

def s_X9_herd (σ : St) (a1 : Int32) (a2 : Int32) (a3 : Int32) : Int32 × St := (if (s_X9_isIn a1 (σ 3 0)) = (0 : Int32) then (((s_X9_refuse σ (-1 : Int32)).1), (s_X9_refuse σ (-1 : Int32)).2) else (if (s_X9_isIn a2 (3 : Int32)) = (0 : Int32) then (((s_X9_refuse σ (-2 : Int32)).1), (s_X9_refuse σ (-2 : Int32)).2) else (if (1 : Int32) ≤ a3 then (if (100 : Int32) < a3 then (((s_X9_refuse σ (-6 : Int32)).1), (s_X9_refuse σ (-6 : Int32)).2) else (if (σ 6 0) = (20 : Int32) then (((s_X9_refuse σ (-6 : Int32)).1), (s_X9_refuse σ (-6 : Int32)).2) else ((((σ 6 0) + (1 : Int32)) - (1 : Int32)), (put (put (put (put (put σ 35 ((σ 6 0).toNatClampNeg) a1) 36 ((σ 6 0).toNatClampNeg) a2) 37 ((σ 6 0).toNatClampNeg) a3) 38 ((σ 6 0).toNatClampNeg) (-1 : Int32)) 6 0 ((σ 6 0) + (1 : Int32)))))) else (((s_X9_refuse σ (-4 : Int32)).1), (s_X9_refuse σ (-4 : Int32)).2))))
theorem fr_s_X9_herd (σ : St) (a1 : Int32) (a2 : Int32) (a3 : Int32) {f : Nat} (h0 : f ≠ 0) (h6 : f ≠ 6) (h35 : f ≠ 35) (h36 : f ≠ 36) (h37 : f ≠ 37) (h38 : f ≠ 38) : (s_X9_herd σ a1 a2 a3 ).2 f = σ f := by
  unfold s_X9_herd
  all_goals ((try dsimp only) <;> ((repeat' split) <;> (try simp only [put_fr, ne_eq, not_false_eq_true, h0, h6, h35, h36, h37, h38, fr_s_X9_refuse])))
set_option maxHeartbeats 1000000 in
set_option maxRecDepth 100000 in
theorem k_X9_herd (l : Launch) (D : va_G) (ca : Nat → ClassId) (h : Nat) (ad : Nat → Nat) (σ : St) (a1 : Int32) (a2 : Int32) (a3 : Int32) (sz : Nat) (hI : IR σ)  (R : Int32 × St) (hR : s_X9_herd σ a1 a2 a3 = R) : Met l yX9_herd wsX9_herd ({ frames := 1, cells := 0, slots := 0, locals := 21 }) (va_Pc [.ref h, .int a1, .int a2, .int a3] (pw_pre D ca (WM ca h ad σ) sz)) (va_Qi (fun (r : Int32) (_ : Unit) => r = R.1) (fun (_ : Unit) (t : State) => pw_post D ca (WM ca h ad σ) sz (WM ca h ad (R.2)) t ∧ IR R.2) (va_A (WM ca h ad σ) sz)) 0 0 (va_A (WM ca h ad σ) sz) := by
  refine Met.ofW (cc := cX9_herd) (maxL := 4) (ret := (some .int)) (by decide) rfl ?_
  intro p e s m args below meth c s₁ B hml hv
  obtain ⟨rfl, hsz, hP, hK, hD0⟩ := hv
  have hx := B.exec
  have hb := B.bytes
  have hr := B.returns
  have hts := atoms_spec (ws := wsX9_herd) B.pre
  have hown : s.vm.findClass RX9 = some m.cls := findClass_of_methodNamed B.named
  have hlocks := B.notSynchronized
  have hu9 : ∀ w ∈ u_ws RX9 TX9 51, w ∈ wsX9_herd := fun w h => List.mem_cons_of_mem _ (uw9 w h)
  subst hsz
  have hD := hD0.self (sz := s.heap.size)
  obtain ⟨A, hAe⟩ : ∃ A, A = va_A (WM ca h ad σ) s.heap.size := ⟨_, rfl⟩
  rw [← hAe] at hD ⊢
  have hA : ∀ q : Nat, s.heap.size ≤ q → A q := fun q h => by rw [hAe]; exact Or.inr h
  have hS : va_S A s.heap s.heap [] := va_S.rf
  have hl := lv_entry ([.ref h, .int a1, .int a2, .int a3]) (n := 4) (Nat.le_of_ble_eq_true rfl)
  rw [lg_entry_eq]
  generalize (lg_sl ([.ref h, .int a1, .int a2, .int a3]) ++ List.replicate (4 - (lg_sl ([.ref h, .int a1, .int a2, .int a3])).length) Slot.unset).toArray = ls at hl ⊢
  have hl : lv_has ls 4 [(0, .ref h), (1, .int a1), (2, .int a2), (3, .int a3)] := hl
  obtain ⟨H, hH⟩ : ∃ H, H = s.heap := ⟨_, rfl⟩
  have hP : va_P D vwCl (WM ca h ad σ) H := by rw [hH]; exact hP
  have hS : va_S A s.heap H [] := by rw [hH]; exact hS
  obtain ⟨QQ, hQ⟩ : ∃ Q9, Q9 = MQ below (va_Qi (fun (r : Int32) (_ : Unit) => r = R.1) (fun (_ : Unit) (t : State) => pw_post D ca (WM ca h ad σ) s.heap.size (WM ca h ad (R.2)) t ∧ IR R.2) A) ([.ref h, .int a1, .int a2, .int a3] : List Value).toArray s 0 0 A := ⟨_, rfl⟩
  rw [← hQ]
  show W _ _ _ _ _ _ _ _ _ _ s.heap _ _ _ _ _
  rw [← hH]
  have hR : (if (s_X9_isIn a1 (σ 3 0)) = (0 : Int32) then (((s_X9_refuse σ (-1 : Int32)).1), (s_X9_refuse σ (-1 : Int32)).2) else (if (s_X9_isIn a2 (3 : Int32)) = (0 : Int32) then (((s_X9_refuse σ (-2 : Int32)).1), (s_X9_refuse σ (-2 : Int32)).2) else (if (1 : Int32) ≤ a3 then (if (100 : Int32) < a3 then (((s_X9_refuse σ (-6 : Int32)).1), (s_X9_refuse σ (-6 : Int32)).2) else (if (σ 6 0) = (20 : Int32) then (((s_X9_refuse σ (-6 : Int32)).1), (s_X9_refuse σ (-6 : Int32)).2) else ((((σ 6 0) + (1 : Int32)) - (1 : Int32)), (put (put (put (put (put σ 35 ((σ 6 0).toNatClampNeg) a1) 36 ((σ 6 0).toNatClampNeg) a2) 37 ((σ 6 0).toNatClampNeg) a3) 38 ((σ 6 0).toNatClampNeg) (-1 : Int32)) 6 0 ((σ 6 0) + (1 : Int32)))))) else (((s_X9_refuse σ (-4 : Int32)).1), (s_X9_refuse σ (-4 : Int32)).2)))) = R := hR
  refine lv_iload_n hx hb dX9_herd_0 rfl (lv_at hl 1 rfl) ?_
  refine lv_aload_n hx hb dX9_herd_1 rfl (lv_at hl 0 rfl) ?_
  refine va_get (D := D) (ci := 9) (v := .int (σ 3 0)) (C := RX9) (T := TX9) (N := 51) hx hb hts hu9 hown hK hP 0 wm_0 rfl 3 (by decide) (hts (.fieldLink RX9 131 "GrazeBookModel" "owners" "I") (List.mem_cons_of_mem _ mw_786)) (fun _ h9 => h9) rfl dX9_herd_2 ?_
  have hF := pw_free (pn_D (A := A)) hS hA
  refine va_calli (va_runS (As := [.int a1, .int (σ 3 0)]) (rest := []) ⟨hx, hb, hml, hown, hts⟩ (k_X9_isIn l D ca a1 (σ 3 0) H.size _ rfl) (va_cwS 2 hts gX9_herd_X9_isIn rfl rfl rfl (by decide +kernel) ⟨Nat.le_of_ble_eq_true rfl, Nat.le_of_ble_eq_true rfl⟩) ⟨pw_blind, pw_give pn_P hK (pn_D (A := A))⟩ rfl rfl hl.1 rfl (lv_room (Nat.le_of_ble_eq_true rfl)) dX9_herd_5 ⟨Nat.le_of_ble_eq_true rfl, Nat.le_of_ble_eq_true rfl⟩) hS (fun q _ h => hF q h) hF (fun r_1 u t H1 locs ht hvm hw hB hz1 hk1 hS => ?_)
  subst hw
  have hP := pn_back hP hk1
  clear hB hk1 hz1 hF
  generalize H1 = H at hP hS ⊢
  refine lv_if_ne (tgt := 17) hx hb dX9_herd_8 (by decide) (fun c_2 => ?_) (fun c_2 => ?_)
  · have hR := (if_neg c_2).symm.trans hR
    refine lv_iload_n hx hb dX9_herd_17 rfl (lv_at hl 2 rfl) ?_
    refine lv_iconst (v := (3 : Int32)) hx hb dX9_herd_18 (by decide) ?_
    have hF := pw_free (pn_D (A := A)) hS hA
    refine va_calli (va_runS (As := [.int a2, .int (3 : Int32)]) (rest := []) ⟨hx, hb, hml, hown, hts⟩ (k_X9_isIn l D ca a2 (3 : Int32) H.size _ rfl) (va_cwS 2 hts gX9_herd_X9_isIn rfl rfl rfl (by decide +kernel) ⟨Nat.le_of_ble_eq_true rfl, Nat.le_of_ble_eq_true rfl⟩) ⟨pw_blind, pw_give pn_P hK (pn_D (A := A))⟩ rfl rfl hl.1 rfl (lv_room (Nat.le_of_ble_eq_true rfl)) dX9_herd_19 ⟨Nat.le_of_ble_eq_true rfl, Nat.le_of_ble_eq_true rfl⟩) hS (fun q _ h => hF q h) hF (fun r_3 u t H1 locs ht hvm hw hB hz1 hk1 hS => ?_)
    subst hw
    have hP := pn_back hP hk1
    clear hB hk1 hz1 hF
    generalize H1 = H at hP hS ⊢
    refine lv_if_ne (tgt := 32) hx hb dX9_herd_22 (by decide) (fun c_4 => ?_) (fun c_4 => ?_)
    · have hR := (if_neg c_4).symm.trans hR
      refine lv_iload_n hx hb dX9_herd_32 rfl (lv_at hl 3 rfl) ?_
      refine lv_iconst (v := (1 : Int32)) hx hb dX9_herd_33 (by decide) ?_
      refine lv_icmp_ge (tgt := 44) hx hb dX9_herd_34 (by decide) (fun c_5 => ?_) (fun c_5 => ?_)
      · have hR := (if_pos c_5).symm.trans hR
        refine lv_iload_n hx hb dX9_herd_44 rfl (lv_at hl 3 rfl) ?_
        refine lv_bipush (v := (100 : Int32)) hx hb dX9_herd_45 (by decide) ?_
        refine lv_icmp_gt (tgt := 59) hx hb dX9_herd_47 (by decide) (fun c_6 => ?_) (fun c_6 => ?_)
        · have hR := (if_pos c_6).symm.trans hR
          refine lv_aload_n hx hb dX9_herd_59 rfl (lv_at hl 0 rfl) ?_
          refine lv_bipush (v := (-6 : Int32)) hx hb dX9_herd_60 (by decide) ?_
          have hF := pw_free hD hS hA
          refine va_calli (va_runV (As := [.int (-6 : Int32)]) (rest := []) ⟨hx, hb, hml, hown, hts⟩ (k_X9_refuse l D ca h ad σ (-6 : Int32) H.size hI (by unfold vp_in; decide) _ rfl) (cwV 1 hts gX9_herd_X9_refuse rfl rfl rfl (by decide +kernel) ⟨Nat.le_of_ble_eq_true rfl, Nat.le_of_ble_eq_true rfl⟩) ⟨pw_blind, va_recv hK hP (ci := 9) (q0 := 0) rfl wm_0, pw_give hP hK hD⟩ rfl rfl hl.1 rfl (lv_room (Nat.le_of_ble_eq_true rfl)) dX9_herd_62 ⟨Nat.le_of_ble_eq_true rfl, Nat.le_of_ble_eq_true rfl⟩) hS (fun q _ h => hF q h) hF (fun r_7 u t H1 locs ht hvm hw hB hz1 hk1 hS => ?_)
          subst hw
          obtain ⟨hB, hI_8⟩ := hB
          obtain ⟨hP, hD⟩ := pw_back hF ht hB
          clear hB hk1 hz1 hF
          generalize H1 = H at hP hS ⊢
          have hI9 : IR ((s_X9_refuse σ (-6 : Int32)).2) := hI_8
          subst hR
          rw [hQ]
          exact W.iret (v := ((s_X9_refuse σ (-6 : Int32)).1)) hx hb hr (fun t ht hW => ⟨⟨((s_X9_refuse σ (-6 : Int32)).1), (), rfl, rfl, ⟨by rw [ht]; exact hP, va_K.moved hW.alike hK, by rw [← hAe]; exact hD⟩, hI9⟩, hS.F ht⟩) hS.2.2 dX9_herd_65
        · have hR := (if_neg c_6).symm.trans hR
          refine lv_aload_n hx hb dX9_herd_50 rfl (lv_at hl 0 rfl) ?_
          refine va_get (D := D) (ci := 9) (v := .int (σ 6 0)) (C := RX9) (T := TX9) (N := 51) hx hb hts hu9 hown hK hP 0 wm_0 rfl 6 (by decide) (hts (.fieldLink RX9 164 "GrazeBookModel" "herds" "I") (List.mem_cons_of_mem _ mw_789)) (fun _ h9 => h9) rfl dX9_herd_51 ?_
          refine lv_bipush (v := (20 : Int32)) hx hb dX9_herd_54 (by decide) ?_
          refine lv_icmp_ne (tgt := 66) hx hb dX9_herd_56 (by decide) (fun c_9 => ?_) (fun c_9 => ?_)
          · have hR := (if_neg c_9).symm.trans hR
            refine lv_aload_n hx hb dX9_herd_66 rfl (lv_at hl 0 rfl) ?_
            refine va_get (D := D) (ci := 9) (v := .ref (ad 35)) (C := RX9) (T := TX9) (N := 51) hx hb hts hu9 hown hK hP 0 wm_0 rfl 35 (by decide) (hts (.fieldLink RX9 80 "GrazeBookModel" "hOwner" "[I") (List.mem_cons_of_mem _ mw_818)) (fun _ h9 => h9) rfl dX9_herd_67 ?_
            refine lv_aload_n hx hb dX9_herd_70 rfl (lv_at hl 0 rfl) ?_
            refine va_get (D := D) (ci := 9) (v := .int (σ 6 0)) (C := RX9) (T := TX9) (N := 51) hx hb hts hu9 hown hK hP 0 wm_0 rfl 6 (by decide) (hts (.fieldLink RX9 164 "GrazeBookModel" "herds" "I") (List.mem_cons_of_mem _ mw_789)) (fun _ h9 => h9) rfl dX9_herd_71 ?_
            refine lv_iload_n hx hb dX9_herd_74 rfl (lv_at hl 1 rfl) ?_
            refine va_iast_k (k := ((σ 6 0).toNatClampNeg)) hx hb hK hP hD hS 24 0 wm_a35 rfl rfl (ix_cnt (ir_6 hI) c_9 (by decide)) dX9_herd_75 (fun H locs hP hD hS => ?_)
            rw [wm_s35] at hP hD
            refine lv_aload_n hx hb dX9_herd_76 rfl (lv_at hl 0 rfl) ?_
            refine va_get (D := D) (ci := 9) (v := .ref (ad 36)) (C := RX9) (T := TX9) (N := 51) hx hb hts hu9 hown hK hP 0 wm_0 rfl 36 (by decide) (hts (.fieldLink RX9 83 "GrazeBookModel" "hSort" "[I") (List.mem_cons_of_mem _ mw_819)) (fun _ h9 => h9) rfl dX9_herd_77 ?_
            refine lv_aload_n hx hb dX9_herd_80 rfl (lv_at hl 0 rfl) ?_
            refine va_get (D := D) (ci := 9) (v := .int (σ 6 0)) (C := RX9) (T := TX9) (N := 51) hx hb hts hu9 hown hK hP 0 wm_0 rfl 6 (by decide) (hts (.fieldLink RX9 164 "GrazeBookModel" "herds" "I") (List.mem_cons_of_mem _ mw_789)) (fun _ h9 => h9) rfl dX9_herd_81 ?_
            refine lv_iload_n hx hb dX9_herd_84 rfl (lv_at hl 2 rfl) ?_
            refine va_iast_k (k := ((σ 6 0).toNatClampNeg)) hx hb hK hP hD hS 25 0 wm_a36 rfl rfl (ix_cnt (ir_6 hI) c_9 (by decide)) dX9_herd_85 (fun H locs hP hD hS => ?_)
            rw [wm_s36] at hP hD
            refine lv_aload_n hx hb dX9_herd_86 rfl (lv_at hl 0 rfl) ?_
            refine va_get (D := D) (ci := 9) (v := .ref (ad 37)) (C := RX9) (T := TX9) (N := 51) hx hb hts hu9 hown hK hP 0 wm_0 rfl 37 (by decide) (hts (.fieldLink RX9 86 "GrazeBookModel" "hMany" "[I") (List.mem_cons_of_mem _ mw_820)) (fun _ h9 => h9) rfl dX9_herd_87 ?_
            refine lv_aload_n hx hb dX9_herd_90 rfl (lv_at hl 0 rfl) ?_
            refine va_get (D := D) (ci := 9) (v := .int (σ 6 0)) (C := RX9) (T := TX9) (N := 51) hx hb hts hu9 hown hK hP 0 wm_0 rfl 6 (by decide) (hts (.fieldLink RX9 164 "GrazeBookModel" "herds" "I") (List.mem_cons_of_mem _ mw_789)) (fun _ h9 => h9) rfl dX9_herd_91 ?_
            refine lv_iload_n hx hb dX9_herd_94 rfl (lv_at hl 3 rfl) ?_
            refine va_iast_k (k := ((σ 6 0).toNatClampNeg)) hx hb hK hP hD hS 26 0 wm_a37 rfl rfl (ix_cnt (ir_6 hI) c_9 (by decide)) dX9_herd_95 (fun H locs hP hD hS => ?_)
            rw [wm_s37] at hP hD
            refine lv_aload_n hx hb dX9_herd_96 rfl (lv_at hl 0 rfl) ?_
            refine va_get (D := D) (ci := 9) (v := .ref (ad 38)) (C := RX9) (T := TX9) (N := 51) hx hb hts hu9 hown hK hP 0 wm_0 rfl 38 (by decide) (hts (.fieldLink RX9 89 "GrazeBookModel" "hPiece" "[I") (List.mem_cons_of_mem _ mw_821)) (fun _ h9 => h9) rfl dX9_herd_97 ?_
            refine lv_aload_n hx hb dX9_herd_100 rfl (lv_at hl 0 rfl) ?_
            refine va_get (D := D) (ci := 9) (v := .int (σ 6 0)) (C := RX9) (T := TX9) (N := 51) hx hb hts hu9 hown hK hP 0 wm_0 rfl 6 (by decide) (hts (.fieldLink RX9 164 "GrazeBookModel" "herds" "I") (List.mem_cons_of_mem _ mw_789)) (fun _ h9 => h9) rfl dX9_herd_101 ?_
            refine lv_iconst (v := (-1 : Int32)) hx hb dX9_herd_104 (by decide) ?_
            refine va_iast_k (k := ((σ 6 0).toNatClampNeg)) hx hb hK hP hD hS 27 0 wm_a38 rfl rfl (ix_cnt (ir_6 hI) c_9 (by decide)) dX9_herd_105 (fun H locs hP hD hS => ?_)
            rw [wm_s38] at hP hD
            refine lv_aload_n hx hb dX9_herd_106 rfl (lv_at hl 0 rfl) ?_
            refine lv_dup hx hb dX9_herd_107 rfl ?_
            refine va_get (D := D) (ci := 9) (v := .int (σ 6 0)) (C := RX9) (T := TX9) (N := 51) hx hb hts hu9 hown hK hP 0 wm_0 rfl 6 (by decide) (hts (.fieldLink RX9 164 "GrazeBookModel" "herds" "I") (List.mem_cons_of_mem _ mw_789)) (fun _ h9 => h9) rfl dX9_herd_108 ?_
            refine lv_iconst (v := (1 : Int32)) hx hb dX9_herd_111 (by decide) ?_
            refine lv_iadd hx hb dX9_herd_112 ?_
            refine va_put (D := D) (ci := 9) (v := .int ((σ 6 0) + (1 : Int32))) (ty := .int) (C := RX9) (T := TX9) (N := 51) hx hb hts hu9 tyX9 tyX9_ok nmX9 hown hK hP hD hS 0 wm_0 rfl 6 (by decide) (hts (.fieldLink RX9 164 "GrazeBookModel" "herds" "I") (List.mem_cons_of_mem _ mw_789)) (fun _ h9 => h9) rfl (by decide +kernel) rfl rfl (Nat.le_of_ble_eq_true rfl) dX9_herd_113 (fun H locs hP hD hS => ?_)
            rw [wm_p6] at hP hD
            refine lv_aload_n hx hb dX9_herd_116 rfl (lv_at hl 0 rfl) ?_
            refine va_get (D := D) (ci := 9) (v := .int ((σ 6 0) + (1 : Int32))) (C := RX9) (T := TX9) (N := 51) hx hb hts hu9 hown hK hP 0 wm_0 rfl 6 (by decide) (hts (.fieldLink RX9 164 "GrazeBookModel" "herds" "I") (List.mem_cons_of_mem _ mw_789)) (fun _ h9 => h9) rfl dX9_herd_117 ?_
            refine lv_iconst (v := (1 : Int32)) hx hb dX9_herd_120 (by decide) ?_
            refine lv_isub hx hb dX9_herd_121 ?_
            have hI9 : IR (put (put (put (put (put σ 35 ((σ 6 0).toNatClampNeg) a1) 36 ((σ 6 0).toNatClampNeg) a2) 37 ((σ 6 0).toNatClampNeg) a3) 38 ((σ 6 0).toNatClampNeg) (-1 : Int32)) 6 0 ((σ 6 0) + (1 : Int32))) := (ir_put6 (σ := (put (put (put (put σ 35 ((σ 6 0).toNatClampNeg) a1) 36 ((σ 6 0).toNatClampNeg) a2) 37 ((σ 6 0).toNatClampNeg) a3) 38 ((σ 6 0).toNatClampNeg) (-1 : Int32))) (ir_put37 (σ := (put (put σ 35 ((σ 6 0).toNatClampNeg) a1) 36 ((σ 6 0).toNatClampNeg) a2)) (ir_put36 (σ := (put σ 35 ((σ 6 0).toNatClampNeg) a1)) (ir_put35 (σ := σ) hI (vp_10 (ix_isIn c_2 (ir_3 hI)))) (vp_in_iff.mp (ix_isIn c_4 (show 0 ≤ (3 : Int32).toInt ∧ (3 : Int32).toInt ≤ ((3 : Nat) : Int) by decide)))) (mn_ok c_5 (not_lt0 c_6))) (inc_ok (ir_6 hI) c_9 (by decide) (by decide)))
            subst hR
            rw [hQ]
            exact W.iret (v := (((σ 6 0) + (1 : Int32)) - (1 : Int32))) hx hb hr (fun t ht hW => ⟨⟨(((σ 6 0) + (1 : Int32)) - (1 : Int32)), (), rfl, rfl, ⟨by rw [ht]; exact hP, va_K.moved hW.alike hK, by rw [← hAe]; exact hD⟩, hI9⟩, hS.F ht⟩) hS.2.2 dX9_herd_122
          · have hR := (if_pos c_9).symm.trans hR
            refine lv_aload_n hx hb dX9_herd_59 rfl (lv_at hl 0 rfl) ?_
            refine lv_bipush (v := (-6 : Int32)) hx hb dX9_herd_60 (by decide) ?_
            have hF := pw_free hD hS hA
            refine va_calli (va_runV (As := [.int (-6 : Int32)]) (rest := []) ⟨hx, hb, hml, hown, hts⟩ (k_X9_refuse l D ca h ad σ (-6 : Int32) H.size hI (by unfold vp_in; decide) _ rfl) (cwV 1 hts gX9_herd_X9_refuse rfl rfl rfl (by decide +kernel) ⟨Nat.le_of_ble_eq_true rfl, Nat.le_of_ble_eq_true rfl⟩) ⟨pw_blind, va_recv hK hP (ci := 9) (q0 := 0) rfl wm_0, pw_give hP hK hD⟩ rfl rfl hl.1 rfl (lv_room (Nat.le_of_ble_eq_true rfl)) dX9_herd_62 ⟨Nat.le_of_ble_eq_true rfl, Nat.le_of_ble_eq_true rfl⟩) hS (fun q _ h => hF q h) hF (fun r_10 u t H1 locs ht hvm hw hB hz1 hk1 hS => ?_)
            subst hw
            obtain ⟨hB, hI_11⟩ := hB
            obtain ⟨hP, hD⟩ := pw_back hF ht hB
            clear hB hk1 hz1 hF
            generalize H1 = H at hP hS ⊢
            have hI9 : IR ((s_X9_refuse σ (-6 : Int32)).2) := hI_11
            subst hR
            rw [hQ]
            exact W.iret (v := ((s_X9_refuse σ (-6 : Int32)).1)) hx hb hr (fun t ht hW => ⟨⟨((s_X9_refuse σ (-6 : Int32)).1), (), rfl, rfl, ⟨by rw [ht]; exact hP, va_K.moved hW.alike hK, by rw [← hAe]; exact hD⟩, hI9⟩, hS.F ht⟩) hS.2.2 dX9_herd_65
      · have hR := (if_neg c_5).symm.trans hR
        refine lv_aload_n hx hb dX9_herd_37 rfl (lv_at hl 0 rfl) ?_
        refine lv_bipush (v := (-4 : Int32)) hx hb dX9_herd_38 (by decide) ?_
        have hF := pw_free hD hS hA
        refine va_calli (va_runV (As := [.int (-4 : Int32)]) (rest := []) ⟨hx, hb, hml, hown, hts⟩ (k_X9_refuse l D ca h ad σ (-4 : Int32) H.size hI (by unfold vp_in; decide) _ rfl) (cwV 1 hts gX9_herd_X9_refuse rfl rfl rfl (by decide +kernel) ⟨Nat.le_of_ble_eq_true rfl, Nat.le_of_ble_eq_true rfl⟩) ⟨pw_blind, va_recv hK hP (ci := 9) (q0 := 0) rfl wm_0, pw_give hP hK hD⟩ rfl rfl hl.1 rfl (lv_room (Nat.le_of_ble_eq_true rfl)) dX9_herd_40 ⟨Nat.le_of_ble_eq_true rfl, Nat.le_of_ble_eq_true rfl⟩) hS (fun q _ h => hF q h) hF (fun r_12 u t H1 locs ht hvm hw hB hz1 hk1 hS => ?_)
        subst hw
        obtain ⟨hB, hI_13⟩ := hB
        obtain ⟨hP, hD⟩ := pw_back hF ht hB
        clear hB hk1 hz1 hF
        generalize H1 = H at hP hS ⊢
        have hI9 : IR ((s_X9_refuse σ (-4 : Int32)).2) := hI_13
        subst hR
        rw [hQ]
        exact W.iret (v := ((s_X9_refuse σ (-4 : Int32)).1)) hx hb hr (fun t ht hW => ⟨⟨((s_X9_refuse σ (-4 : Int32)).1), (), rfl, rfl, ⟨by rw [ht]; exact hP, va_K.moved hW.alike hK, by rw [← hAe]; exact hD⟩, hI9⟩, hS.F ht⟩) hS.2.2 dX9_herd_43
    · have hR := (if_pos c_4).symm.trans hR
      refine lv_aload_n hx hb dX9_herd_25 rfl (lv_at hl 0 rfl) ?_
      refine lv_bipush (v := (-2 : Int32)) hx hb dX9_herd_26 (by decide) ?_
      have hF := pw_free hD hS hA
      refine va_calli (va_runV (As := [.int (-2 : Int32)]) (rest := []) ⟨hx, hb, hml, hown, hts⟩ (k_X9_refuse l D ca h ad σ (-2 : Int32) H.size hI (by unfold vp_in; decide) _ rfl) (cwV 1 hts gX9_herd_X9_refuse rfl rfl rfl (by decide +kernel) ⟨Nat.le_of_ble_eq_true rfl, Nat.le_of_ble_eq_true rfl⟩) ⟨pw_blind, va_recv hK hP (ci := 9) (q0 := 0) rfl wm_0, pw_give hP hK hD⟩ rfl rfl hl.1 rfl (lv_room (Nat.le_of_ble_eq_true rfl)) dX9_herd_28 ⟨Nat.le_of_ble_eq_true rfl, Nat.le_of_ble_eq_true rfl⟩) hS (fun q _ h => hF q h) hF (fun r_14 u t H1 locs ht hvm hw hB hz1 hk1 hS => ?_)
      subst hw
      obtain ⟨hB, hI_15⟩ := hB
      obtain ⟨hP, hD⟩ := pw_back hF ht hB
      clear hB hk1 hz1 hF
      generalize H1 = H at hP hS ⊢
      have hI9 : IR ((s_X9_refuse σ (-2 : Int32)).2) := hI_15
      subst hR
      rw [hQ]
      exact W.iret (v := ((s_X9_refuse σ (-2 : Int32)).1)) hx hb hr (fun t ht hW => ⟨⟨((s_X9_refuse σ (-2 : Int32)).1), (), rfl, rfl, ⟨by rw [ht]; exact hP, va_K.moved hW.alike hK, by rw [← hAe]; exact hD⟩, hI9⟩, hS.F ht⟩) hS.2.2 dX9_herd_31
  · have hR := (if_pos c_2).symm.trans hR
    refine lv_aload_n hx hb dX9_herd_11 rfl (lv_at hl 0 rfl) ?_
    refine lv_iconst (v := (-1 : Int32)) hx hb dX9_herd_12 (by decide) ?_
    have hF := pw_free hD hS hA
    refine va_calli (va_runV (As := [.int (-1 : Int32)]) (rest := []) ⟨hx, hb, hml, hown, hts⟩ (k_X9_refuse l D ca h ad σ (-1 : Int32) H.size hI (by unfold vp_in; decide) _ rfl) (cwV 1 hts gX9_herd_X9_refuse rfl rfl rfl (by decide +kernel) ⟨Nat.le_of_ble_eq_true rfl, Nat.le_of_ble_eq_true rfl⟩) ⟨pw_blind, va_recv hK hP (ci := 9) (q0 := 0) rfl wm_0, pw_give hP hK hD⟩ rfl rfl hl.1 rfl (lv_room (Nat.le_of_ble_eq_true rfl)) dX9_herd_13 ⟨Nat.le_of_ble_eq_true rfl, Nat.le_of_ble_eq_true rfl⟩) hS (fun q _ h => hF q h) hF (fun r_16 u t H1 locs ht hvm hw hB hz1 hk1 hS => ?_)
    subst hw
    obtain ⟨hB, hI_17⟩ := hB
    obtain ⟨hP, hD⟩ := pw_back hF ht hB
    clear hB hk1 hz1 hF
    generalize H1 = H at hP hS ⊢
    have hI9 : IR ((s_X9_refuse σ (-1 : Int32)).2) := hI_17
    subst hR
    rw [hQ]
    exact W.iret (v := ((s_X9_refuse σ (-1 : Int32)).1)) hx hb hr (fun t ht hW => ⟨⟨((s_X9_refuse σ (-1 : Int32)).1), (), rfl, rfl, ⟨by rw [ht]; exact hP, va_K.moved hW.alike hK, by rw [← hAe]; exact hD⟩, hI9⟩, hS.F ht⟩) hS.2.2 dX9_herd_16

