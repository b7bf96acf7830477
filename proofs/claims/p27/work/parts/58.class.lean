def s_X8_piece (σ : St) (a1 : Int32) (a2 : Int32) (a3 : Int32) (a4 : Int32) : Int32 × St := (if a1 < (0 : Int32) then (((s_X8_refuse σ (-4 : Int32)).1), ((s_X8_refuse σ (-4 : Int32)).2)) else (if a3 < (0 : Int32) then (((s_X8_refuse σ (-4 : Int32)).1), ((s_X8_refuse σ (-4 : Int32)).2)) else (if (1 : Int32) ≤ a2 then (if (100000 : Int32) < a2 then (((s_X8_refuse σ (-6 : Int32)).1), ((s_X8_refuse σ (-6 : Int32)).2)) else (if a2 < a1 then (((s_X8_refuse σ (-6 : Int32)).1), ((s_X8_refuse σ (-6 : Int32)).2)) else (if (10000 : Int32) < a3 then (((s_X8_refuse σ (-6 : Int32)).1), ((s_X8_refuse σ (-6 : Int32)).2)) else (if (σ 811 0) < (6 : Int32) then ((((σ 811 0) + (1 : Int32)) - (1 : Int32)), (put (put (put (put (put (put (put σ 400 ((σ 811 0).toNatClampNeg) a2) 401 ((σ 811 0).toNatClampNeg) a3) 402 ((σ 811 0).toNatClampNeg) a4) 403 ((σ 811 0).toNatClampNeg) a1) 404 ((σ 811 0).toNatClampNeg) (-1 : Int32)) 405 ((σ 811 0).toNatClampNeg) (0 : Int32)) 811 0 ((σ 811 0) + (1 : Int32)))) else (((s_X8_refuse σ (-6 : Int32)).1), ((s_X8_refuse σ (-6 : Int32)).2)))))) else (((s_X8_refuse σ (-4 : Int32)).1), ((s_X8_refuse σ (-4 : Int32)).2)))))
theorem fr_s_X8_piece (σ : St) (a1 : Int32) (a2 : Int32) (a3 : Int32) (a4 : Int32) {f : Nat} (h400 : f ≠ 400) (h401 : f ≠ 401) (h402 : f ≠ 402) (h403 : f ≠ 403) (h404 : f ≠ 404) (h405 : f ≠ 405) (h810 : f ≠ 810) (h811 : f ≠ 811) : (s_X8_piece σ a1 a2 a3 a4 ).2 f = σ f := by
  unfold s_X8_piece
  all_goals ((try dsimp only) <;> ((repeat' split) <;> (try simp only [put_fr, ne_eq, not_false_eq_true, h400, h401, h402, h403, h404, h405, h810, h811, fr_s_X8_refuse])))
set_option maxHeartbeats 1000000 in
set_option maxRecDepth 100000 in
theorem k_X8_piece (l : Launch) (D : va_G) (ca : Nat → ClassId) (h : Nat) (ad : Nat → Nat) (pa : Nat → Nat → Nat) (tb : Nat) (σ : St) (a1 : Int32) (a2 : Int32) (a3 : Int32) (a4 : Int32) (sz : Nat) (hI : IX σ) (hn4 : narrow .boolean (.int a4) = .int a4) (hf4 : fits .boolean (.int a4) = true) (R1 : Int32) (R2 : St) (hR : s_X8_piece σ a1 a2 a3 a4 = (R1, R2)) : Met l yX8_piece wsX8_piece ({ frames := 2, cells := 1, slots := 6, locals := 36 }) (va_Pc [.ref h, .int a1, .int a2, .int a3, .int a4] (cw_pre D ca (WC ca h ad pa σ) sz tb)) (va_Qi (fun (r : Int32) (_ : Unit) => r = R1) (fun (_ : Unit) (t : State) => ∃ pa9 : Nat → Nat → Nat, pw_post D ca (WC ca h ad pa σ) sz (WC ca h ad pa9 R2) t ∧ IX R2) (va_A (WC ca h ad pa σ) sz)) 1 6 (va_A (WC ca h ad pa σ) sz) := by
  refine Met.ofW (cc := cX8_piece) (maxL := 5) (ret := (some .int)) (by decide) rfl ?_
  intro p e s m args below meth c s₁ B hml hv
  obtain ⟨rfl, ⟨hsz, hP, hK, hD0⟩, hZ⟩ := hv
  have hx := B.exec
  have hb := B.bytes
  have hr := B.returns
  have hts := atoms_spec (ws := wsX8_piece) B.pre
  have hown : s.vm.findClass RX8 = some m.cls := findClass_of_methodNamed B.named
  have hlocks := B.notSynchronized
  have hu4 : ∀ w ∈ u_ws RX4 TX4 6, w ∈ wsX8_piece := fun w h => List.mem_cons_of_mem _ (uw4 w h)
  have hu8 : ∀ w ∈ u_ws RX8 TX8 19, w ∈ wsX8_piece := fun w h => List.mem_cons_of_mem _ (uw8 w h)
  subst hsz
  have hD := hD0.self (sz := s.heap.size)
  obtain ⟨A, hAe⟩ : ∃ A, A = va_A (WC ca h ad pa σ) s.heap.size := ⟨_, rfl⟩
  rw [← hAe] at hD hZ ⊢
  have hA : ∀ q : Nat, s.heap.size ≤ q → A q := fun q h => by rw [hAe]; exact Or.inr h
  have hS : va_S A s.heap s.heap [] := va_S.rf
  have hl := lv_entry ([.ref h, .int a1, .int a2, .int a3, .int a4]) (n := 5) (Nat.le_of_ble_eq_true rfl)
  rw [lg_entry_eq]
  generalize (lg_sl ([.ref h, .int a1, .int a2, .int a3, .int a4]) ++ List.replicate (5 - (lg_sl ([.ref h, .int a1, .int a2, .int a3, .int a4])).length) Slot.unset).toArray = ls at hl ⊢
  have hl : lv_has ls 5 [(0, .ref h), (1, .int a1), (2, .int a2), (3, .int a3), (4, .int a4)] := hl
  obtain ⟨H, hH⟩ : ∃ H, H = s.heap := ⟨_, rfl⟩
  have hP : va_P D vwCl (WC ca h ad pa σ) H := by rw [hH]; exact hP
  have hS : va_S A s.heap H [] := by rw [hH]; exact hS
  obtain ⟨QQ, hQ⟩ : ∃ Q9, Q9 = MQ below (va_Qi (fun (r : Int32) (_ : Unit) => r = R1) (fun (_ : Unit) (t : State) => ∃ pa9 : Nat → Nat → Nat, pw_post D ca (WC ca h ad pa σ) s.heap.size (WC ca h ad pa9 R2) t ∧ IX R2) A) ([.ref h, .int a1, .int a2, .int a3, .int a4] : List Value).toArray s 1 6 A := ⟨_, rfl⟩
  rw [← hQ]
  show W _ _ _ _ _ _ _ _ _ _ s.heap _ _ _ _ _
  rw [← hH]
  have hR : (if a1 < (0 : Int32) then (((s_X8_refuse σ (-4 : Int32)).1), ((s_X8_refuse σ (-4 : Int32)).2)) else (if a3 < (0 : Int32) then (((s_X8_refuse σ (-4 : Int32)).1), ((s_X8_refuse σ (-4 : Int32)).2)) else (if (1 : Int32) ≤ a2 then (if (100000 : Int32) < a2 then (((s_X8_refuse σ (-6 : Int32)).1), ((s_X8_refuse σ (-6 : Int32)).2)) else (if a2 < a1 then (((s_X8_refuse σ (-6 : Int32)).1), ((s_X8_refuse σ (-6 : Int32)).2)) else (if (10000 : Int32) < a3 then (((s_X8_refuse σ (-6 : Int32)).1), ((s_X8_refuse σ (-6 : Int32)).2)) else (if (σ 811 0) < (6 : Int32) then ((((σ 811 0) + (1 : Int32)) - (1 : Int32)), (put (put (put (put (put (put (put σ 400 ((σ 811 0).toNatClampNeg) a2) 401 ((σ 811 0).toNatClampNeg) a3) 402 ((σ 811 0).toNatClampNeg) a4) 403 ((σ 811 0).toNatClampNeg) a1) 404 ((σ 811 0).toNatClampNeg) (-1 : Int32)) 405 ((σ 811 0).toNatClampNeg) (0 : Int32)) 811 0 ((σ 811 0) + (1 : Int32)))) else (((s_X8_refuse σ (-6 : Int32)).1), ((s_X8_refuse σ (-6 : Int32)).2)))))) else (((s_X8_refuse σ (-4 : Int32)).1), ((s_X8_refuse σ (-4 : Int32)).2))))) = (R1, R2) := hR
  refine lv_iload_n hx hb dX8_piece_0 rfl (lv_at hl 1 rfl) ?_
  refine lv_if_lt (tgt := 13) hx hb dX8_piece_1 (by decide) (fun c_1 => ?_) (fun c_1 => ?_)
  · have hR := (if_pos c_1).symm.trans hR
    refine lv_aload_n hx hb dX8_piece_13 rfl (lv_at hl 0 rfl) ?_
    refine lv_bipush (v := (-4 : Int32)) hx hb dX8_piece_14 (by decide) ?_
    have hF := pw_free hD hS hA
    refine va_calli (va_runV (As := [.int (-4 : Int32)]) (rest := []) ⟨hx, hb, hml, hown, hts⟩ (k_X8_refuse l D ca h ad pa tb σ (-4 : Int32) H.size hI _ _ (Prod.eta _).symm) (cwV 1 hts gX8_piece_X8_refuse rfl rfl rfl (by decide +kernel) ⟨Nat.le_of_ble_eq_true rfl, Nat.le_of_ble_eq_true rfl⟩) ⟨cw_blind, va_recv hK hP (ci := 8) (q0 := 0) rfl wc_0, cw_give hP hK hD hZ hS hF⟩ rfl rfl hl.1 rfl (lv_room (Nat.le_of_ble_eq_true rfl)) dX8_piece_16 ⟨Nat.le_of_ble_eq_true rfl, Nat.le_of_ble_eq_true rfl⟩) hS (fun q _ h => hF q h) hF (fun r_2 u t H1 locs ht hvm hw hB hz1 hk1 hS => ?_)
    rw [hw]
    obtain ⟨hB, hI_3⟩ := hB
    obtain ⟨hP, hD⟩ := pw_back hF ht hB
    clear hB hk1 hz1 hF
    generalize H1 = H at hP hS ⊢
    obtain ⟨τc_4, hτc_4⟩ : ∃ t9, (s_X8_refuse σ (-4 : Int32)).2 = t9 := ⟨_, rfl⟩
    rw [hτc_4] at hP hD hI_3
    (try rw [hτc_4] at hR)
    obtain ⟨vc_5, hvc_5⟩ : ∃ t9, (s_X8_refuse σ (-4 : Int32)).1 = t9 := ⟨_, rfl⟩
    rw [hvc_5]
    (try rw [hvc_5] at hR)
    have hI9 : IX τc_4 := hI_3
    obtain ⟨rfl, rfl⟩ := Prod.mk.inj (show (vc_5, τc_4) = (R1, R2) from hR)
    rw [hQ]
    refine W.widen (k := 1) (n := 6) (Nat.le_of_ble_eq_true rfl) (Nat.le_of_ble_eq_true rfl) ?_
    exact W.iret (v := vc_5) hx hb hr (fun t ht hW => ⟨⟨vc_5, (), rfl, rfl, pa, ⟨by rw [ht]; exact hP, va_K.moved hW.alike hK, by rw [← hAe]; exact hD⟩, hI9⟩, hS.F ht⟩) hS.2.2 dX8_piece_19
  · have hR := (if_neg c_1).symm.trans hR
    refine lv_iload_n hx hb dX8_piece_4 rfl (lv_at hl 3 rfl) ?_
    refine lv_if_lt (tgt := 13) hx hb dX8_piece_5 (by decide) (fun c_6 => ?_) (fun c_6 => ?_)
    · have hR := (if_pos c_6).symm.trans hR
      refine lv_aload_n hx hb dX8_piece_13 rfl (lv_at hl 0 rfl) ?_
      refine lv_bipush (v := (-4 : Int32)) hx hb dX8_piece_14 (by decide) ?_
      have hF := pw_free hD hS hA
      refine va_calli (va_runV (As := [.int (-4 : Int32)]) (rest := []) ⟨hx, hb, hml, hown, hts⟩ (k_X8_refuse l D ca h ad pa tb σ (-4 : Int32) H.size hI _ _ (Prod.eta _).symm) (cwV 1 hts gX8_piece_X8_refuse rfl rfl rfl (by decide +kernel) ⟨Nat.le_of_ble_eq_true rfl, Nat.le_of_ble_eq_true rfl⟩) ⟨cw_blind, va_recv hK hP (ci := 8) (q0 := 0) rfl wc_0, cw_give hP hK hD hZ hS hF⟩ rfl rfl hl.1 rfl (lv_room (Nat.le_of_ble_eq_true rfl)) dX8_piece_16 ⟨Nat.le_of_ble_eq_true rfl, Nat.le_of_ble_eq_true rfl⟩) hS (fun q _ h => hF q h) hF (fun r_7 u t H1 locs ht hvm hw hB hz1 hk1 hS => ?_)
      rw [hw]
      obtain ⟨hB, hI_8⟩ := hB
      obtain ⟨hP, hD⟩ := pw_back hF ht hB
      clear hB hk1 hz1 hF
      generalize H1 = H at hP hS ⊢
      obtain ⟨τc_9, hτc_9⟩ : ∃ t9, (s_X8_refuse σ (-4 : Int32)).2 = t9 := ⟨_, rfl⟩
      rw [hτc_9] at hP hD hI_8
      (try rw [hτc_9] at hR)
      obtain ⟨vc_10, hvc_10⟩ : ∃ t9, (s_X8_refuse σ (-4 : Int32)).1 = t9 := ⟨_, rfl⟩
      rw [hvc_10]
      (try rw [hvc_10] at hR)
      have hI9 : IX τc_9 := hI_8
      obtain ⟨rfl, rfl⟩ := Prod.mk.inj (show (vc_10, τc_9) = (R1, R2) from hR)
      rw [hQ]
      refine W.widen (k := 1) (n := 6) (Nat.le_of_ble_eq_true rfl) (Nat.le_of_ble_eq_true rfl) ?_
      exact W.iret (v := vc_10) hx hb hr (fun t ht hW => ⟨⟨vc_10, (), rfl, rfl, pa, ⟨by rw [ht]; exact hP, va_K.moved hW.alike hK, by rw [← hAe]; exact hD⟩, hI9⟩, hS.F ht⟩) hS.2.2 dX8_piece_19
    · have hR := (if_neg c_6).symm.trans hR
      refine lv_iload_n hx hb dX8_piece_8 rfl (lv_at hl 2 rfl) ?_
      refine lv_iconst (v := (1 : Int32)) hx hb dX8_piece_9 (by decide) ?_
      refine lv_icmp_ge (tgt := 20) hx hb dX8_piece_10 (by decide) (fun c_11 => ?_) (fun c_11 => ?_)
      · have hR := (if_pos c_11).symm.trans hR
        refine lv_iload_n hx hb dX8_piece_20 rfl (lv_at hl 2 rfl) ?_
        refine lv_ldc (v := (100000 : Int32)) hx hb hown (hts (.constant RX8 104 (100000)) (List.mem_cons_of_mem _ mw_276)) dX8_piece_21 ?_
        refine lv_icmp_gt (tgt := 47) hx hb dX8_piece_23 (by decide) (fun c_12 => ?_) (fun c_12 => ?_)
        · have hR := (if_pos c_12).symm.trans hR
          refine lv_aload_n hx hb dX8_piece_47 rfl (lv_at hl 0 rfl) ?_
          refine lv_bipush (v := (-6 : Int32)) hx hb dX8_piece_48 (by decide) ?_
          have hF := pw_free hD hS hA
          refine va_calli (va_runV (As := [.int (-6 : Int32)]) (rest := []) ⟨hx, hb, hml, hown, hts⟩ (k_X8_refuse l D ca h ad pa tb σ (-6 : Int32) H.size hI _ _ (Prod.eta _).symm) (cwV 1 hts gX8_piece_X8_refuse rfl rfl rfl (by decide +kernel) ⟨Nat.le_of_ble_eq_true rfl, Nat.le_of_ble_eq_true rfl⟩) ⟨cw_blind, va_recv hK hP (ci := 8) (q0 := 0) rfl wc_0, cw_give hP hK hD hZ hS hF⟩ rfl rfl hl.1 rfl (lv_room (Nat.le_of_ble_eq_true rfl)) dX8_piece_50 ⟨Nat.le_of_ble_eq_true rfl, Nat.le_of_ble_eq_true rfl⟩) hS (fun q _ h => hF q h) hF (fun r_13 u t H1 locs ht hvm hw hB hz1 hk1 hS => ?_)
          rw [hw]
          obtain ⟨hB, hI_14⟩ := hB
          obtain ⟨hP, hD⟩ := pw_back hF ht hB
          clear hB hk1 hz1 hF
          generalize H1 = H at hP hS ⊢
          obtain ⟨τc_15, hτc_15⟩ : ∃ t9, (s_X8_refuse σ (-6 : Int32)).2 = t9 := ⟨_, rfl⟩
          rw [hτc_15] at hP hD hI_14
          (try rw [hτc_15] at hR)
          obtain ⟨vc_16, hvc_16⟩ : ∃ t9, (s_X8_refuse σ (-6 : Int32)).1 = t9 := ⟨_, rfl⟩
          rw [hvc_16]
          (try rw [hvc_16] at hR)
          have hI9 : IX τc_15 := hI_14
          obtain ⟨rfl, rfl⟩ := Prod.mk.inj (show (vc_16, τc_15) = (R1, R2) from hR)
          rw [hQ]
          refine W.widen (k := 1) (n := 6) (Nat.le_of_ble_eq_true rfl) (Nat.le_of_ble_eq_true rfl) ?_
          exact W.iret (v := vc_16) hx hb hr (fun t ht hW => ⟨⟨vc_16, (), rfl, rfl, pa, ⟨by rw [ht]; exact hP, va_K.moved hW.alike hK, by rw [← hAe]; exact hD⟩, hI9⟩, hS.F ht⟩) hS.2.2 dX8_piece_53
        · have hR := (if_neg c_12).symm.trans hR
          refine lv_iload_n hx hb dX8_piece_26 rfl (lv_at hl 1 rfl) ?_
          refine lv_iload_n hx hb dX8_piece_27 rfl (lv_at hl 2 rfl) ?_
          refine lv_icmp_gt (tgt := 47) hx hb dX8_piece_28 (by decide) (fun c_17 => ?_) (fun c_17 => ?_)
          · have hR := (if_pos c_17).symm.trans hR
            refine lv_aload_n hx hb dX8_piece_47 rfl (lv_at hl 0 rfl) ?_
            refine lv_bipush (v := (-6 : Int32)) hx hb dX8_piece_48 (by decide) ?_
            have hF := pw_free hD hS hA
            refine va_calli (va_runV (As := [.int (-6 : Int32)]) (rest := []) ⟨hx, hb, hml, hown, hts⟩ (k_X8_refuse l D ca h ad pa tb σ (-6 : Int32) H.size hI _ _ (Prod.eta _).symm) (cwV 1 hts gX8_piece_X8_refuse rfl rfl rfl (by decide +kernel) ⟨Nat.le_of_ble_eq_true rfl, Nat.le_of_ble_eq_true rfl⟩) ⟨cw_blind, va_recv hK hP (ci := 8) (q0 := 0) rfl wc_0, cw_give hP hK hD hZ hS hF⟩ rfl rfl hl.1 rfl (lv_room (Nat.le_of_ble_eq_true rfl)) dX8_piece_50 ⟨Nat.le_of_ble_eq_true rfl, Nat.le_of_ble_eq_true rfl⟩) hS (fun q _ h => hF q h) hF (fun r_18 u t H1 locs ht hvm hw hB hz1 hk1 hS => ?_)
            rw [hw]
            obtain ⟨hB, hI_19⟩ := hB
            obtain ⟨hP, hD⟩ := pw_back hF ht hB
            clear hB hk1 hz1 hF
            generalize H1 = H at hP hS ⊢
            obtain ⟨τc_20, hτc_20⟩ : ∃ t9, (s_X8_refuse σ (-6 : Int32)).2 = t9 := ⟨_, rfl⟩
            rw [hτc_20] at hP hD hI_19
            (try rw [hτc_20] at hR)
            obtain ⟨vc_21, hvc_21⟩ : ∃ t9, (s_X8_refuse σ (-6 : Int32)).1 = t9 := ⟨_, rfl⟩
            rw [hvc_21]
            (try rw [hvc_21] at hR)
            have hI9 : IX τc_20 := hI_19
            obtain ⟨rfl, rfl⟩ := Prod.mk.inj (show (vc_21, τc_20) = (R1, R2) from hR)
            rw [hQ]
            refine W.widen (k := 1) (n := 6) (Nat.le_of_ble_eq_true rfl) (Nat.le_of_ble_eq_true rfl) ?_
            exact W.iret (v := vc_21) hx hb hr (fun t ht hW => ⟨⟨vc_21, (), rfl, rfl, pa, ⟨by rw [ht]; exact hP, va_K.moved hW.alike hK, by rw [← hAe]; exact hD⟩, hI9⟩, hS.F ht⟩) hS.2.2 dX8_piece_53
          · have hR := (if_neg c_17).symm.trans hR
            refine lv_iload_n hx hb dX8_piece_31 rfl (lv_at hl 3 rfl) ?_
            refine lv_sipush (v := (10000 : Int32)) hx hb dX8_piece_32 (by decide) ?_
            refine lv_icmp_gt (tgt := 47) hx hb dX8_piece_35 (by decide) (fun c_22 => ?_) (fun c_22 => ?_)
            · have hR := (if_pos c_22).symm.trans hR
              refine lv_aload_n hx hb dX8_piece_47 rfl (lv_at hl 0 rfl) ?_
              refine lv_bipush (v := (-6 : Int32)) hx hb dX8_piece_48 (by decide) ?_
              have hF := pw_free hD hS hA
              refine va_calli (va_runV (As := [.int (-6 : Int32)]) (rest := []) ⟨hx, hb, hml, hown, hts⟩ (k_X8_refuse l D ca h ad pa tb σ (-6 : Int32) H.size hI _ _ (Prod.eta _).symm) (cwV 1 hts gX8_piece_X8_refuse rfl rfl rfl (by decide +kernel) ⟨Nat.le_of_ble_eq_true rfl, Nat.le_of_ble_eq_true rfl⟩) ⟨cw_blind, va_recv hK hP (ci := 8) (q0 := 0) rfl wc_0, cw_give hP hK hD hZ hS hF⟩ rfl rfl hl.1 rfl (lv_room (Nat.le_of_ble_eq_true rfl)) dX8_piece_50 ⟨Nat.le_of_ble_eq_true rfl, Nat.le_of_ble_eq_true rfl⟩) hS (fun q _ h => hF q h) hF (fun r_23 u t H1 locs ht hvm hw hB hz1 hk1 hS => ?_)
              rw [hw]
              obtain ⟨hB, hI_24⟩ := hB
              obtain ⟨hP, hD⟩ := pw_back hF ht hB
              clear hB hk1 hz1 hF
              generalize H1 = H at hP hS ⊢
              obtain ⟨τc_25, hτc_25⟩ : ∃ t9, (s_X8_refuse σ (-6 : Int32)).2 = t9 := ⟨_, rfl⟩
              rw [hτc_25] at hP hD hI_24
              (try rw [hτc_25] at hR)
              obtain ⟨vc_26, hvc_26⟩ : ∃ t9, (s_X8_refuse σ (-6 : Int32)).1 = t9 := ⟨_, rfl⟩
              rw [hvc_26]
              (try rw [hvc_26] at hR)
              have hI9 : IX τc_25 := hI_24
              obtain ⟨rfl, rfl⟩ := Prod.mk.inj (show (vc_26, τc_25) = (R1, R2) from hR)
              rw [hQ]
              refine W.widen (k := 1) (n := 6) (Nat.le_of_ble_eq_true rfl) (Nat.le_of_ble_eq_true rfl) ?_
              exact W.iret (v := vc_26) hx hb hr (fun t ht hW => ⟨⟨vc_26, (), rfl, rfl, pa, ⟨by rw [ht]; exact hP, va_K.moved hW.alike hK, by rw [← hAe]; exact hD⟩, hI9⟩, hS.F ht⟩) hS.2.2 dX8_piece_53
            · have hR := (if_neg c_22).symm.trans hR
              refine lv_aload_n hx hb dX8_piece_38 rfl (lv_at hl 0 rfl) ?_
              refine va_get (D := D) (ci := 8) (v := .int (σ 811 0)) (C := RX8) (T := TX8) (N := 19) hx hb hts hu8 hown hK hP 0 wc_0 rfl 11 (by decide) (hts (.fieldLink RX8 75 "GrazeBook" "pieceCount" "I") (List.mem_cons_of_mem _ mw_221)) (fun _ h9 => h9) rfl dX8_piece_39 ?_
              refine lv_bipush (v := (6 : Int32)) hx hb dX8_piece_42 (by decide) ?_
              refine lv_icmp_lt (tgt := 54) hx hb dX8_piece_44 (by decide) (fun c_27 => ?_) (fun c_27 => ?_)
              · have hR := (if_pos c_27).symm.trans hR
                refine lv_aload_n hx hb dX8_piece_54 rfl (lv_at hl 0 rfl) ?_
                refine va_get (D := D) (ci := 8) (v := .ref (ad 800)) (C := RX8) (T := TX8) (N := 19) hx hb hts hu8 hown hK hP 0 wc_0 rfl 0 (by decide) (hts (.fieldLink RX8 11 "GrazeBook" "pieces" "[LGrazeBook$Ground;") (List.mem_cons_of_mem _ mw_210)) (fun _ h9 => h9) rfl dX8_piece_55 ?_
                refine lv_aload_n hx hb dX8_piece_58 rfl (lv_at hl 0 rfl) ?_
                refine va_get (D := D) (ci := 8) (v := .int (σ 811 0)) (C := RX8) (T := TX8) (N := 19) hx hb hts hu8 hown hK hP 0 wc_0 rfl 11 (by decide) (hts (.fieldLink RX8 75 "GrazeBook" "pieceCount" "I") (List.mem_cons_of_mem _ mw_221)) (fun _ h9 => h9) rfl dX8_piece_59 ?_
                refine va_new (ci := 4) (fs := [.int (0 : Int32), .int (0 : Int32), .int (0 : Int32), .int (0 : Int32), .int (0 : Int32), .int (0 : Int32)]) (C := RX4) (T := TX4) (N := 6) hx hb hts hu4 tyX4 tyX4_ok hown (hts (.classLink RX8 9 RX4) (List.mem_cons_of_mem _ mw_78)) (hts (.instantiable RX4 6) (List.mem_cons_of_mem _ mw_277)) (hts (.initialized RX4) (List.mem_cons_of_mem _ mw_65)) hK hP hD hS hA rfl (fun j hj => by rcases (show j = 0 ∨ j = 1 ∨ j = 2 ∨ j = 3 ∨ j = 4 ∨ j = 5 by omega) with rfl | rfl | rfl | rfl | rfl | rfl <;> rfl) (Nat.le_of_ble_eq_true rfl) (Nat.le_of_ble_eq_true rfl) dX8_piece_62 (fun q_28 H hP hD hS => ?_)
                refine W.widen (k := 1) (n := 6) (Nat.le_refl _) (Nat.le_refl _) ?_
                refine lv_dup hx hb dX8_piece_65 rfl ?_
                refine lv_iload_n hx hb dX8_piece_66 rfl (lv_at hl 1 rfl) ?_
                refine lv_iload_n hx hb dX8_piece_67 rfl (lv_at hl 2 rfl) ?_
                refine lv_iload_n hx hb dX8_piece_68 rfl (lv_at hl 3 rfl) ?_
                refine lv_iload hx hb dX8_piece_69 (lv_at hl 4 rfl) ?_
                have hF := nw_F hD hS hA
                refine va_callv (va_runI (As := [.int a1, .int a2, .int a3, .int a4]) (rest := [.ref q_28, .int (σ 811 0), .ref (ad 800)]) ⟨hx, hb, hml, hown, hts⟩ (k_X4_init l D ca q_28 a1 a2 a3 a4 H.size hn4 hf4) (cwI 4 hts gX8_piece_X4_init rfl rfl rfl (hts (.initialized RX4) (List.mem_cons_of_mem _ mw_65)) (hts (.methodLink RX8 105 yX4_init) (List.mem_cons_of_mem _ mw_278)) (hts (.instanceMethod yX4_init) (List.mem_cons_of_mem _ mw_279)) rfl (by decide +kernel) ⟨Nat.le_of_ble_eq_true rfl, Nat.le_of_ble_eq_true rfl⟩) ⟨pw_blind, pw_give (nw_P hP) hK (nw_D hD)⟩ rfl rfl hl.1 rfl (lv_room (Nat.le_of_ble_eq_true rfl)) dX8_piece_71 ⟨Nat.le_of_ble_eq_true rfl, Nat.le_of_ble_eq_true rfl⟩) hS (fun q _ h => hF q h) hF (fun u t H1 locs ht hvm hw hB hz1 hk1 hS => ?_)
                obtain ⟨hP, hD⟩ := nw_back hP hD hk1 ht hB
                clear hB hk1 hz1 hF
                generalize H1 = H at hP hS ⊢
                refine va_astq (r := (RX4, TX4, 6)) hx hb hK hP hD hS 6 2 (WC ca h ad pa σ).length 4 rfl rfl last_at rfl (ix_ltn (ix_811 hI) c_27 (by decide)) dX8_piece_74 (fun H locs hP hD hS => ?_)
                refine lv_aload_n hx hb dX8_piece_75 rfl (lv_at hl 0 rfl) ?_
                refine lv_dup hx hb dX8_piece_76 rfl ?_
                refine va_get (D := D) (ci := 8) (v := .int (σ 811 0)) (C := RX8) (T := TX8) (N := 19) hx hb hts hu8 hown hK hP 0 rfl rfl 11 (by decide) (hts (.fieldLink RX8 75 "GrazeBook" "pieceCount" "I") (List.mem_cons_of_mem _ mw_221)) (fun _ h9 => h9) rfl dX8_piece_77 ?_
                refine lv_iconst (v := (1 : Int32)) hx hb dX8_piece_80 (by decide) ?_
                refine lv_iadd hx hb dX8_piece_81 ?_
                refine va_put (D := D) (ci := 8) (v := .int ((σ 811 0) + (1 : Int32))) (ty := .int) (C := RX8) (T := TX8) (N := 19) hx hb hts hu8 tyX8 tyX8_ok nmX8 hown hK hP hD hS 0 rfl rfl 11 (by decide) (hts (.fieldLink RX8 75 "GrazeBook" "pieceCount" "I") (List.mem_cons_of_mem _ mw_221)) (fun _ h9 => h9) rfl (by decide +kernel) rfl rfl (Nat.le_of_ble_eq_true rfl) dX8_piece_82 (fun H locs hP hD hS => ?_)
                refine lv_aload_n hx hb dX8_piece_85 rfl (lv_at hl 0 rfl) ?_
                refine va_get (D := D) (ci := 8) (v := .int ((σ 811 0) + (1 : Int32))) (C := RX8) (T := TX8) (N := 19) hx hb hts hu8 hown hK hP 0 rfl rfl 11 (by decide) (hts (.fieldLink RX8 75 "GrazeBook" "pieceCount" "I") (List.mem_cons_of_mem _ mw_221)) (fun _ h9 => h9) rfl dX8_piece_86 ?_
                refine lv_iconst (v := (1 : Int32)) hx hb dX8_piece_89 (by decide) ?_
                refine lv_isub hx hb dX8_piece_90 ?_
                obtain ⟨hP, hD⟩ := wc_addG (ix_ltn (ix_811 hI) c_27 (by decide)) hP hD
                have hIa := ix_addG (x0 := a2) (x1 := a3) (x2 := a4) (x3 := a1) (x4 := (-1 : Int32)) (x5 := (0 : Int32)) hI (ix_ltn (ix_811 hI) c_27 (by decide)) 
                have hI9 : IX (put (put (put (put (put (put (put σ 400 ((σ 811 0).toNatClampNeg) a2) 401 ((σ 811 0).toNatClampNeg) a3) 402 ((σ 811 0).toNatClampNeg) a4) 403 ((σ 811 0).toNatClampNeg) a1) 404 ((σ 811 0).toNatClampNeg) (-1 : Int32)) 405 ((σ 811 0).toNatClampNeg) (0 : Int32)) 811 0 ((σ 811 0) + (1 : Int32))) := hIa
                obtain ⟨rfl, rfl⟩ := Prod.mk.inj (show ((((σ 811 0) + (1 : Int32)) - (1 : Int32)), (put (put (put (put (put (put (put σ 400 ((σ 811 0).toNatClampNeg) a2) 401 ((σ 811 0).toNatClampNeg) a3) 402 ((σ 811 0).toNatClampNeg) a4) 403 ((σ 811 0).toNatClampNeg) a1) 404 ((σ 811 0).toNatClampNeg) (-1 : Int32)) 405 ((σ 811 0).toNatClampNeg) (0 : Int32)) 811 0 ((σ 811 0) + (1 : Int32)))) = (R1, R2) from hR)
                rw [hQ]
                exact W.iret (v := (((σ 811 0) + (1 : Int32)) - (1 : Int32))) hx hb hr (fun t ht hW => ⟨⟨(((σ 811 0) + (1 : Int32)) - (1 : Int32)), (), rfl, rfl, (pup pa 0 (σ 811 0).toNatClampNeg q_28), ⟨by rw [ht]; exact hP, va_K.moved hW.alike hK, by rw [← hAe]; exact hD⟩, hI9⟩, hS.F ht⟩) hS.2.2 dX8_piece_91
              · have hR := (if_neg c_27).symm.trans hR
                refine lv_aload_n hx hb dX8_piece_47 rfl (lv_at hl 0 rfl) ?_
                refine lv_bipush (v := (-6 : Int32)) hx hb dX8_piece_48 (by decide) ?_
                have hF := pw_free hD hS hA
                refine va_calli (va_runV (As := [.int (-6 : Int32)]) (rest := []) ⟨hx, hb, hml, hown, hts⟩ (k_X8_refuse l D ca h ad pa tb σ (-6 : Int32) H.size hI _ _ (Prod.eta _).symm) (cwV 1 hts gX8_piece_X8_refuse rfl rfl rfl (by decide +kernel) ⟨Nat.le_of_ble_eq_true rfl, Nat.le_of_ble_eq_true rfl⟩) ⟨cw_blind, va_recv hK hP (ci := 8) (q0 := 0) rfl wc_0, cw_give hP hK hD hZ hS hF⟩ rfl rfl hl.1 rfl (lv_room (Nat.le_of_ble_eq_true rfl)) dX8_piece_50 ⟨Nat.le_of_ble_eq_true rfl, Nat.le_of_ble_eq_true rfl⟩) hS (fun q _ h => hF q h) hF (fun r_29 u t H1 locs ht hvm hw hB hz1 hk1 hS => ?_)
                rw [hw]
                obtain ⟨hB, hI_30⟩ := hB
                obtain ⟨hP, hD⟩ := pw_back hF ht hB
                clear hB hk1 hz1 hF
                generalize H1 = H at hP hS ⊢
                obtain ⟨τc_31, hτc_31⟩ : ∃ t9, (s_X8_refuse σ (-6 : Int32)).2 = t9 := ⟨_, rfl⟩
                rw [hτc_31] at hP hD hI_30
                (try rw [hτc_31] at hR)
                obtain ⟨vc_32, hvc_32⟩ : ∃ t9, (s_X8_refuse σ (-6 : Int32)).1 = t9 := ⟨_, rfl⟩
                rw [hvc_32]
                (try rw [hvc_32] at hR)
                have hI9 : IX τc_31 := hI_30
                obtain ⟨rfl, rfl⟩ := Prod.mk.inj (show (vc_32, τc_31) = (R1, R2) from hR)
                rw [hQ]
                refine W.widen (k := 1) (n := 6) (Nat.le_of_ble_eq_true rfl) (Nat.le_of_ble_eq_true rfl) ?_
                exact W.iret (v := vc_32) hx hb hr (fun t ht hW => ⟨⟨vc_32, (), rfl, rfl, pa, ⟨by rw [ht]; exact hP, va_K.moved hW.alike hK, by rw [← hAe]; exact hD⟩, hI9⟩, hS.F ht⟩) hS.2.2 dX8_piece_53
      · have hR := (if_neg c_11).symm.trans hR
        refine lv_aload_n hx hb dX8_piece_13 rfl (lv_at hl 0 rfl) ?_
        refine lv_bipush (v := (-4 : Int32)) hx hb dX8_piece_14 (by decide) ?_
        have hF := pw_free hD hS hA
        refine va_calli (va_runV (As := [.int (-4 : Int32)]) (rest := []) ⟨hx, hb, hml, hown, hts⟩ (k_X8_refuse l D ca h ad pa tb σ (-4 : Int32) H.size hI _ _ (Prod.eta _).symm) (cwV 1 hts gX8_piece_X8_refuse rfl rfl rfl (by decide +kernel) ⟨Nat.le_of_ble_eq_true rfl, Nat.le_of_ble_eq_true rfl⟩) ⟨cw_blind, va_recv hK hP (ci := 8) (q0 := 0) rfl wc_0, cw_give hP hK hD hZ hS hF⟩ rfl rfl hl.1 rfl (lv_room (Nat.le_of_ble_eq_true rfl)) dX8_piece_16 ⟨Nat.le_of_ble_eq_true rfl, Nat.le_of_ble_eq_true rfl⟩) hS (fun q _ h => hF q h) hF (fun r_33 u t H1 locs ht hvm hw hB hz1 hk1 hS => ?_)
        rw [hw]
        obtain ⟨hB, hI_34⟩ := hB
        obtain ⟨hP, hD⟩ := pw_back hF ht hB
        clear hB hk1 hz1 hF
        generalize H1 = H at hP hS ⊢
        obtain ⟨τc_35, hτc_35⟩ : ∃ t9, (s_X8_refuse σ (-4 : Int32)).2 = t9 := ⟨_, rfl⟩
        rw [hτc_35] at hP hD hI_34
        (try rw [hτc_35] at hR)
        obtain ⟨vc_36, hvc_36⟩ : ∃ t9, (s_X8_refuse σ (-4 : Int32)).1 = t9 := ⟨_, rfl⟩
        rw [hvc_36]
        (try rw [hvc_36] at hR)
        have hI9 : IX τc_35 := hI_34
        obtain ⟨rfl, rfl⟩ := Prod.mk.inj (show (vc_36, τc_35) = (R1, R2) from hR)
        rw [hQ]
        refine W.widen (k := 1) (n := 6) (Nat.le_of_ble_eq_true rfl) (Nat.le_of_ble_eq_true rfl) ?_
        exact W.iret (v := vc_36) hx hb hr (fun t ht hW => ⟨⟨vc_36, (), rfl, rfl, pa, ⟨by rw [ht]; exact hP, va_K.moved hW.alike hK, by rw [← hAe]; exact hD⟩, hI9⟩, hS.F ht⟩) hS.2.2 dX8_piece_19

def s_X8_owner (σ : St) (a1 : Int32) : Int32 × St := (if (0 : Int32) ≤ a1 then (if (100000 : Int32) < a1 then (((s_X8_refuse σ (-6 : Int32)).1), ((s_X8_refuse σ (-6 : Int32)).2)) else (if (σ 812 0) < (10 : Int32) then ((((σ 812 0) + (1 : Int32)) - (1 : Int32)), (put (put (put σ 500 ((σ 812 0).toNatClampNeg) a1) 501 ((σ 812 0).toNatClampNeg) (0 : Int32)) 812 0 ((σ 812 0) + (1 : Int32)))) else (((s_X8_refuse σ (-6 : Int32)).1), ((s_X8_refuse σ (-6 : Int32)).2)))) else (((s_X8_refuse σ (-4 : Int32)).1), ((s_X8_refuse σ (-4 : Int32)).2)))
theorem fr_s_X8_owner (σ : St) (a1 : Int32) {f : Nat} (h500 : f ≠ 500) (h501 : f ≠ 501) (h810 : f ≠ 810) (h812 : f ≠ 812) : (s_X8_owner σ a1 ).2 f = σ f := by
  unfold s_X8_owner
  all_goals ((try dsimp only) <;> ((repeat' split) <;> (try simp only [put_fr, ne_eq, not_false_eq_true, h500, h501, h810, h812, fr_s_X8_refuse])))
set_option maxHeartbeats 1000000 in
set_option maxRecDepth 100000 in
theorem k_X8_owner (l : Launch) (D : va_G) (ca : Nat → ClassId) (h : Nat) (ad : Nat → Nat) (pa : Nat → Nat → Nat) (tb : Nat) (σ : St) (a1 : Int32) (sz : Nat) (hI : IX σ)  (R1 : Int32) (R2 : St) (hR : s_X8_owner σ a1 = (R1, R2)) : Met l yX8_owner wsX8_owner ({ frames := 2, cells := 1, slots := 2, locals := 33 }) (va_Pc [.ref h, .int a1] (cw_pre D ca (WC ca h ad pa σ) sz tb)) (va_Qi (fun (r : Int32) (_ : Unit) => r = R1) (fun (_ : Unit) (t : State) => ∃ pa9 : Nat → Nat → Nat, pw_post D ca (WC ca h ad pa σ) sz (WC ca h ad pa9 R2) t ∧ IX R2) (va_A (WC ca h ad pa σ) sz)) 1 2 (va_A (WC ca h ad pa σ) sz) := by
  refine Met.ofW (cc := cX8_owner) (maxL := 2) (ret := (some .int)) (by decide) rfl ?_
  intro p e s m args below meth c s₁ B hml hv
  obtain ⟨rfl, ⟨hsz, hP, hK, hD0⟩, hZ⟩ := hv
  have hx := B.exec
  have hb := B.bytes
  have hr := B.returns
  have hts := atoms_spec (ws := wsX8_owner) B.pre
  have hown : s.vm.findClass RX8 = some m.cls := findClass_of_methodNamed B.named
  have hlocks := B.notSynchronized
  have hu5 : ∀ w ∈ u_ws RX5 TX5 2, w ∈ wsX8_owner := fun w h => List.mem_cons_of_mem _ (uw5 w h)
  have hu8 : ∀ w ∈ u_ws RX8 TX8 19, w ∈ wsX8_owner := fun w h => List.mem_cons_of_mem _ (uw8 w h)
  subst hsz
  have hD := hD0.self (sz := s.heap.size)
  obtain ⟨A, hAe⟩ : ∃ A, A = va_A (WC ca h ad pa σ) s.heap.size := ⟨_, rfl⟩
  rw [← hAe] at hD hZ ⊢
  have hA : ∀ q : Nat, s.heap.size ≤ q → A q := fun q h => by rw [hAe]; exact Or.inr h
  have hS : va_S A s.heap s.heap [] := va_S.rf
  have hl := lv_entry ([.ref h, .int a1]) (n := 2) (Nat.le_of_ble_eq_true rfl)
  rw [lg_entry_eq]
  generalize (lg_sl ([.ref h, .int a1]) ++ List.replicate (2 - (lg_sl ([.ref h, .int a1])).length) Slot.unset).toArray = ls at hl ⊢
  have hl : lv_has ls 2 [(0, .ref h), (1, .int a1)] := hl
  obtain ⟨H, hH⟩ : ∃ H, H = s.heap := ⟨_, rfl⟩
  have hP : va_P D vwCl (WC ca h ad pa σ) H := by rw [hH]; exact hP
  have hS : va_S A s.heap H [] := by rw [hH]; exact hS
  obtain ⟨QQ, hQ⟩ : ∃ Q9, Q9 = MQ below (va_Qi (fun (r : Int32) (_ : Unit) => r = R1) (fun (_ : Unit) (t : State) => ∃ pa9 : Nat → Nat → Nat, pw_post D ca (WC ca h ad pa σ) s.heap.size (WC ca h ad pa9 R2) t ∧ IX R2) A) ([.ref h, .int a1] : List Value).toArray s 1 2 A := ⟨_, rfl⟩
  rw [← hQ]
  show W _ _ _ _ _ _ _ _ _ _ s.heap _ _ _ _ _
  rw [← hH]
  have hR : (if (0 : Int32) ≤ a1 then (if (100000 : Int32) < a1 then (((s_X8_refuse σ (-6 : Int32)).1), ((s_X8_refuse σ (-6 : Int32)).2)) else (if (σ 812 0) < (10 : Int32) then ((((σ 812 0) + (1 : Int32)) - (1 : Int32)), (put (put (put σ 500 ((σ 812 0).toNatClampNeg) a1) 501 ((σ 812 0).toNatClampNeg) (0 : Int32)) 812 0 ((σ 812 0) + (1 : Int32)))) else (((s_X8_refuse σ (-6 : Int32)).1), ((s_X8_refuse σ (-6 : Int32)).2)))) else (((s_X8_refuse σ (-4 : Int32)).1), ((s_X8_refuse σ (-4 : Int32)).2))) = (R1, R2) := hR
  refine lv_iload_n hx hb dX8_owner_0 rfl (lv_at hl 1 rfl) ?_
  refine lv_if_ge (tgt := 11) hx hb dX8_owner_1 (by decide) (fun c_1 => ?_) (fun c_1 => ?_)
  · have hR := (if_pos c_1).symm.trans hR
    refine lv_iload_n hx hb dX8_owner_11 rfl (lv_at hl 1 rfl) ?_
    refine lv_ldc (v := (100000 : Int32)) hx hb hown (hts (.constant RX8 104 (100000)) (List.mem_cons_of_mem _ mw_276)) dX8_owner_12 ?_
    refine lv_icmp_gt (tgt := 26) hx hb dX8_owner_14 (by decide) (fun c_2 => ?_) (fun c_2 => ?_)
    · have hR := (if_pos c_2).symm.trans hR
      refine lv_aload_n hx hb dX8_owner_26 rfl (lv_at hl 0 rfl) ?_
      refine lv_bipush (v := (-6 : Int32)) hx hb dX8_owner_27 (by decide) ?_
      have hF := pw_free hD hS hA
      refine va_calli (va_runV (As := [.int (-6 : Int32)]) (rest := []) ⟨hx, hb, hml, hown, hts⟩ (k_X8_refuse l D ca h ad pa tb σ (-6 : Int32) H.size hI _ _ (Prod.eta _).symm) (cwV 1 hts gX8_owner_X8_refuse rfl rfl rfl (by decide +kernel) ⟨Nat.le_of_ble_eq_true rfl, Nat.le_of_ble_eq_true rfl⟩) ⟨cw_blind, va_recv hK hP (ci := 8) (q0 := 0) rfl wc_0, cw_give hP hK hD hZ hS hF⟩ rfl rfl hl.1 rfl (lv_room (Nat.le_of_ble_eq_true rfl)) dX8_owner_29 ⟨Nat.le_of_ble_eq_true rfl, Nat.le_of_ble_eq_true rfl⟩) hS (fun q _ h => hF q h) hF (fun r_3 u t H1 locs ht hvm hw hB hz1 hk1 hS => ?_)
      rw [hw]
      obtain ⟨hB, hI_4⟩ := hB
      obtain ⟨hP, hD⟩ := pw_back hF ht hB
      clear hB hk1 hz1 hF
      generalize H1 = H at hP hS ⊢
      obtain ⟨τc_5, hτc_5⟩ : ∃ t9, (s_X8_refuse σ (-6 : Int32)).2 = t9 := ⟨_, rfl⟩
      rw [hτc_5] at hP hD hI_4
      (try rw [hτc_5] at hR)
      obtain ⟨vc_6, hvc_6⟩ : ∃ t9, (s_X8_refuse σ (-6 : Int32)).1 = t9 := ⟨_, rfl⟩
      rw [hvc_6]
      (try rw [hvc_6] at hR)
      have hI9 : IX τc_5 := hI_4
      obtain ⟨rfl, rfl⟩ := Prod.mk.inj (show (vc_6, τc_5) = (R1, R2) from hR)
      rw [hQ]
      refine W.widen (k := 1) (n := 2) (Nat.le_of_ble_eq_true rfl) (Nat.le_of_ble_eq_true rfl) ?_
      exact W.iret (v := vc_6) hx hb hr (fun t ht hW => ⟨⟨vc_6, (), rfl, rfl, pa, ⟨by rw [ht]; exact hP, va_K.moved hW.alike hK, by rw [← hAe]; exact hD⟩, hI9⟩, hS.F ht⟩) hS.2.2 dX8_owner_32
    · have hR := (if_neg c_2).symm.trans hR
      refine lv_aload_n hx hb dX8_owner_17 rfl (lv_at hl 0 rfl) ?_
      refine va_get (D := D) (ci := 8) (v := .int (σ 812 0)) (C := RX8) (T := TX8) (N := 19) hx hb hts hu8 hown hK hP 0 wc_0 rfl 12 (by decide) (hts (.fieldLink RX8 79 "GrazeBook" "ownerCount" "I") (List.mem_cons_of_mem _ mw_222)) (fun _ h9 => h9) rfl dX8_owner_18 ?_
      refine lv_bipush (v := (10 : Int32)) hx hb dX8_owner_21 (by decide) ?_
      refine lv_icmp_lt (tgt := 33) hx hb dX8_owner_23 (by decide) (fun c_7 => ?_) (fun c_7 => ?_)
      · have hR := (if_pos c_7).symm.trans hR
        refine lv_aload_n hx hb dX8_owner_33 rfl (lv_at hl 0 rfl) ?_
        refine va_get (D := D) (ci := 8) (v := .ref (ad 801)) (C := RX8) (T := TX8) (N := 19) hx hb hts hu8 hown hK hP 0 wc_0 rfl 1 (by decide) (hts (.fieldLink RX8 17 "GrazeBook" "owners" "[LGrazeBook$Purse;") (List.mem_cons_of_mem _ mw_211)) (fun _ h9 => h9) rfl dX8_owner_34 ?_
        refine lv_aload_n hx hb dX8_owner_37 rfl (lv_at hl 0 rfl) ?_
        refine va_get (D := D) (ci := 8) (v := .int (σ 812 0)) (C := RX8) (T := TX8) (N := 19) hx hb hts hu8 hown hK hP 0 wc_0 rfl 12 (by decide) (hts (.fieldLink RX8 79 "GrazeBook" "ownerCount" "I") (List.mem_cons_of_mem _ mw_222)) (fun _ h9 => h9) rfl dX8_owner_38 ?_
        refine va_new (ci := 5) (fs := [.int (0 : Int32), .int (0 : Int32)]) (C := RX5) (T := TX5) (N := 2) hx hb hts hu5 tyX5 tyX5_ok hown (hts (.classLink RX8 15 RX5) (List.mem_cons_of_mem _ mw_80)) (hts (.instantiable RX5 2) (List.mem_cons_of_mem _ mw_82)) (hts (.initialized RX5) (List.mem_cons_of_mem _ mw_59)) hK hP hD hS hA rfl (fun j hj => by rcases (show j = 0 ∨ j = 1 by omega) with rfl | rfl <;> rfl) (Nat.le_of_ble_eq_true rfl) (Nat.le_of_ble_eq_true rfl) dX8_owner_41 (fun q_8 H hP hD hS => ?_)
        refine W.widen (k := 1) (n := 2) (Nat.le_refl _) (Nat.le_refl _) ?_
        refine lv_dup hx hb dX8_owner_44 rfl ?_
        refine lv_iload_n hx hb dX8_owner_45 rfl (lv_at hl 1 rfl) ?_
        have hF := nw_F hD hS hA
        refine va_callv (va_runI (As := [.int a1]) (rest := [.ref q_8, .int (σ 812 0), .ref (ad 801)]) ⟨hx, hb, hml, hown, hts⟩ (k_X5_init l D ca q_8 a1 H.size ) (cwI 1 hts gX8_owner_X5_init rfl rfl rfl (hts (.initialized RX5) (List.mem_cons_of_mem _ mw_59)) (hts (.methodLink RX8 21 yX5_init) (List.mem_cons_of_mem _ mw_83)) (hts (.instanceMethod yX5_init) (List.mem_cons_of_mem _ mw_84)) rfl (by decide +kernel) ⟨Nat.le_of_ble_eq_true rfl, Nat.le_of_ble_eq_true rfl⟩) ⟨pw_blind, pw_give (nw_P hP) hK (nw_D hD)⟩ rfl rfl hl.1 rfl (lv_room (Nat.le_of_ble_eq_true rfl)) dX8_owner_46 ⟨Nat.le_of_ble_eq_true rfl, Nat.le_of_ble_eq_true rfl⟩) hS (fun q _ h => hF q h) hF (fun u t H1 locs ht hvm hw hB hz1 hk1 hS => ?_)
        obtain ⟨hP, hD⟩ := nw_back hP hD hk1 ht hB
        clear hB hk1 hz1 hF
        generalize H1 = H at hP hS ⊢
        refine va_astq (r := (RX5, TX5, 2)) hx hb hK hP hD hS 7 3 (WC ca h ad pa σ).length 5 rfl rfl last_at rfl (ix_ltn (ix_812 hI) c_7 (by decide)) dX8_owner_49 (fun H locs hP hD hS => ?_)
        refine lv_aload_n hx hb dX8_owner_50 rfl (lv_at hl 0 rfl) ?_
        refine lv_dup hx hb dX8_owner_51 rfl ?_
        refine va_get (D := D) (ci := 8) (v := .int (σ 812 0)) (C := RX8) (T := TX8) (N := 19) hx hb hts hu8 hown hK hP 0 rfl rfl 12 (by decide) (hts (.fieldLink RX8 79 "GrazeBook" "ownerCount" "I") (List.mem_cons_of_mem _ mw_222)) (fun _ h9 => h9) rfl dX8_owner_52 ?_
        refine lv_iconst (v := (1 : Int32)) hx hb dX8_owner_55 (by decide) ?_
        refine lv_iadd hx hb dX8_owner_56 ?_
        refine va_put (D := D) (ci := 8) (v := .int ((σ 812 0) + (1 : Int32))) (ty := .int) (C := RX8) (T := TX8) (N := 19) hx hb hts hu8 tyX8 tyX8_ok nmX8 hown hK hP hD hS 0 rfl rfl 12 (by decide) (hts (.fieldLink RX8 79 "GrazeBook" "ownerCount" "I") (List.mem_cons_of_mem _ mw_222)) (fun _ h9 => h9) rfl (by decide +kernel) rfl rfl (Nat.le_of_ble_eq_true rfl) dX8_owner_57 (fun H locs hP hD hS => ?_)
        refine lv_aload_n hx hb dX8_owner_60 rfl (lv_at hl 0 rfl) ?_
        refine va_get (D := D) (ci := 8) (v := .int ((σ 812 0) + (1 : Int32))) (C := RX8) (T := TX8) (N := 19) hx hb hts hu8 hown hK hP 0 rfl rfl 12 (by decide) (hts (.fieldLink RX8 79 "GrazeBook" "ownerCount" "I") (List.mem_cons_of_mem _ mw_222)) (fun _ h9 => h9) rfl dX8_owner_61 ?_
        refine lv_iconst (v := (1 : Int32)) hx hb dX8_owner_64 (by decide) ?_
        refine lv_isub hx hb dX8_owner_65 ?_
        obtain ⟨hP, hD⟩ := wc_addU (ix_ltn (ix_812 hI) c_7 (by decide)) hP hD
        have hIa := ix_addU (x0 := a1) (x1 := (0 : Int32)) hI (ix_ltn (ix_812 hI) c_7 (by decide)) 
        have hI9 : IX (put (put (put σ 500 ((σ 812 0).toNatClampNeg) a1) 501 ((σ 812 0).toNatClampNeg) (0 : Int32)) 812 0 ((σ 812 0) + (1 : Int32))) := hIa
        obtain ⟨rfl, rfl⟩ := Prod.mk.inj (show ((((σ 812 0) + (1 : Int32)) - (1 : Int32)), (put (put (put σ 500 ((σ 812 0).toNatClampNeg) a1) 501 ((σ 812 0).toNatClampNeg) (0 : Int32)) 812 0 ((σ 812 0) + (1 : Int32)))) = (R1, R2) from hR)
        rw [hQ]
        exact W.iret (v := (((σ 812 0) + (1 : Int32)) - (1 : Int32))) hx hb hr (fun t ht hW => ⟨⟨(((σ 812 0) + (1 : Int32)) - (1 : Int32)), (), rfl, rfl, (pup pa 1 (σ 812 0).toNatClampNeg q_8), ⟨by rw [ht]; exact hP, va_K.moved hW.alike hK, by rw [← hAe]; exact hD⟩, hI9⟩, hS.F ht⟩) hS.2.2 dX8_owner_66
      · have hR := (if_neg c_7).symm.trans hR
        refine lv_aload_n hx hb dX8_owner_26 rfl (lv_at hl 0 rfl) ?_
        refine lv_bipush (v := (-6 : Int32)) hx hb dX8_owner_27 (by decide) ?_
        have hF := pw_free hD hS hA
        refine va_calli (va_runV (As := [.int (-6 : Int32)]) (rest := []) ⟨hx, hb, hml, hown, hts⟩ (k_X8_refuse l D ca h ad pa tb σ (-6 : Int32) H.size hI _ _ (Prod.eta _).symm) (cwV 1 hts gX8_owner_X8_refuse rfl rfl rfl (by decide +kernel) ⟨Nat.le_of_ble_eq_true rfl, Nat.le_of_ble_eq_true rfl⟩) ⟨cw_blind, va_recv hK hP (ci := 8) (q0 := 0) rfl wc_0, cw_give hP hK hD hZ hS hF⟩ rfl rfl hl.1 rfl (lv_room (Nat.le_of_ble_eq_true rfl)) dX8_owner_29 ⟨Nat.le_of_ble_eq_true rfl, Nat.le_of_ble_eq_true rfl⟩) hS (fun q _ h => hF q h) hF (fun r_9 u t H1 locs ht hvm hw hB hz1 hk1 hS => ?_)
        rw [hw]
        obtain ⟨hB, hI_10⟩ := hB
        obtain ⟨hP, hD⟩ := pw_back hF ht hB
        clear hB hk1 hz1 hF
        generalize H1 = H at hP hS ⊢
        obtain ⟨τc_11, hτc_11⟩ : ∃ t9, (s_X8_refuse σ (-6 : Int32)).2 = t9 := ⟨_, rfl⟩
        rw [hτc_11] at hP hD hI_10
        (try rw [hτc_11] at hR)
        obtain ⟨vc_12, hvc_12⟩ : ∃ t9, (s_X8_refuse σ (-6 : Int32)).1 = t9 := ⟨_, rfl⟩
        rw [hvc_12]
        (try rw [hvc_12] at hR)
        have hI9 : IX τc_11 := hI_10
        obtain ⟨rfl, rfl⟩ := Prod.mk.inj (show (vc_12, τc_11) = (R1, R2) from hR)
        rw [hQ]
        refine W.widen (k := 1) (n := 2) (Nat.le_of_ble_eq_true rfl) (Nat.le_of_ble_eq_true rfl) ?_
        exact W.iret (v := vc_12) hx hb hr (fun t ht hW => ⟨⟨vc_12, (), rfl, rfl, pa, ⟨by rw [ht]; exact hP, va_K.moved hW.alike hK, by rw [← hAe]; exact hD⟩, hI9⟩, hS.F ht⟩) hS.2.2 dX8_owner_32
  · have hR := (if_neg c_1).symm.trans hR
    refine lv_aload_n hx hb dX8_owner_4 rfl (lv_at hl 0 rfl) ?_
    refine lv_bipush (v := (-4 : Int32)) hx hb dX8_owner_5 (by decide) ?_
    have hF := pw_free hD hS hA
    refine va_calli (va_runV (As := [.int (-4 : Int32)]) (rest := []) ⟨hx, hb, hml, hown, hts⟩ (k_X8_refuse l D ca h ad pa tb σ (-4 : Int32) H.size hI _ _ (Prod.eta _).symm) (cwV 1 hts gX8_owner_X8_refuse rfl rfl rfl (by decide +kernel) ⟨Nat.le_of_ble_eq_true rfl, Nat.le_of_ble_eq_true rfl⟩) ⟨cw_blind, va_recv hK hP (ci := 8) (q0 := 0) rfl wc_0, cw_give hP hK hD hZ hS hF⟩ rfl rfl hl.1 rfl (lv_room (Nat.le_of_ble_eq_true rfl)) dX8_owner_7 ⟨Nat.le_of_ble_eq_true rfl, Nat.le_of_ble_eq_true rfl⟩) hS (fun q _ h => hF q h) hF (fun r_13 u t H1 locs ht hvm hw hB hz1 hk1 hS => ?_)
    rw [hw]
    obtain ⟨hB, hI_14⟩ := hB
    obtain ⟨hP, hD⟩ := pw_back hF ht hB
    clear hB hk1 hz1 hF
    generalize H1 = H at hP hS ⊢
    obtain ⟨τc_15, hτc_15⟩ : ∃ t9, (s_X8_refuse σ (-4 : Int32)).2 = t9 := ⟨_, rfl⟩
    rw [hτc_15] at hP hD hI_14
    (try rw [hτc_15] at hR)
    obtain ⟨vc_16, hvc_16⟩ : ∃ t9, (s_X8_refuse σ (-4 : Int32)).1 = t9 := ⟨_, rfl⟩
    rw [hvc_16]
    (try rw [hvc_16] at hR)
    have hI9 : IX τc_15 := hI_14
    obtain ⟨rfl, rfl⟩ := Prod.mk.inj (show (vc_16, τc_15) = (R1, R2) from hR)
    rw [hQ]
    refine W.widen (k := 1) (n := 2) (Nat.le_of_ble_eq_true rfl) (Nat.le_of_ble_eq_true rfl) ?_
    exact W.iret (v := vc_16) hx hb hr (fun t ht hW => ⟨⟨vc_16, (), rfl, rfl, pa, ⟨by rw [ht]; exact hP, va_K.moved hW.alike hK, by rw [← hAe]; exact hD⟩, hI9⟩, hS.F ht⟩) hS.2.2 dX8_owner_10

def s_X8_herd (σ : St) (a1 : Int32) (a2 : Int32) (a3 : Int32) : Int32 × St := (if (s_X8_isOwner σ a1) = (0 : Int32) then (((s_X8_refuse σ (-1 : Int32)).1), ((s_X8_refuse σ (-1 : Int32)).2)) else (if a2 < (0 : Int32) then (((s_X8_refuse σ (-2 : Int32)).1), ((s_X8_refuse σ (-2 : Int32)).2)) else (if a2 < (3 : Int32) then (if (1 : Int32) ≤ a3 then (if (100 : Int32) < a3 then (((s_X8_refuse σ (-6 : Int32)).1), ((s_X8_refuse σ (-6 : Int32)).2)) else (if (σ 815 0) < (20 : Int32) then ((((σ 815 0) + (1 : Int32)) - (1 : Int32)), (put (put (put (put (put (put (put (put (put σ 200 ((σ 815 0).toNatClampNeg) a1) 201 ((σ 815 0).toNatClampNeg) a2) 202 ((σ 815 0).toNatClampNeg) a3) 203 ((σ 815 0).toNatClampNeg) (-1 : Int32)) 204 ((σ 815 0).toNatClampNeg) (0 : Int32)) 205 ((σ 815 0).toNatClampNeg) (0 : Int32)) 206 ((σ 815 0).toNatClampNeg) (0 : Int32)) 207 ((σ 815 0).toNatClampNeg) (0 : Int32)) 815 0 ((σ 815 0) + (1 : Int32)))) else (((s_X8_refuse σ (-6 : Int32)).1), ((s_X8_refuse σ (-6 : Int32)).2)))) else (((s_X8_refuse σ (-4 : Int32)).1), ((s_X8_refuse σ (-4 : Int32)).2))) else (((s_X8_refuse σ (-2 : Int32)).1), ((s_X8_refuse σ (-2 : Int32)).2)))))
theorem fr_s_X8_herd (σ : St) (a1 : Int32) (a2 : Int32) (a3 : Int32) {f : Nat} (h200 : f ≠ 200) (h201 : f ≠ 201) (h202 : f ≠ 202) (h203 : f ≠ 203) (h204 : f ≠ 204) (h205 : f ≠ 205) (h206 : f ≠ 206) (h207 : f ≠ 207) (h810 : f ≠ 810) (h815 : f ≠ 815) : (s_X8_herd σ a1 a2 a3 ).2 f = σ f := by
  unfold s_X8_herd
  all_goals ((try dsimp only) <;> ((repeat' split) <;> (try simp only [put_fr, ne_eq, not_false_eq_true, h200, h201, h202, h203, h204, h205, h206, h207, h810, h815, fr_s_X8_refuse])))
set_option maxHeartbeats 1000000 in
set_option maxRecDepth 100000 in
theorem k_X8_herd (l : Launch) (D : va_G) (ca : Nat → ClassId) (h : Nat) (ad : Nat → Nat) (pa : Nat → Nat → Nat) (tb : Nat) (σ : St) (a1 : Int32) (a2 : Int32) (a3 : Int32) (sz : Nat) (hI : IX σ)  (R1 : Int32) (R2 : St) (hR : s_X8_herd σ a1 a2 a3 = (R1, R2)) : Met l yX8_herd wsX8_herd ({ frames := 2, cells := 1, slots := 8, locals := 35 }) (va_Pc [.ref h, .int a1, .int a2, .int a3] (cw_pre D ca (WC ca h ad pa σ) sz tb)) (va_Qi (fun (r : Int32) (_ : Unit) => r = R1) (fun (_ : Unit) (t : State) => ∃ pa9 : Nat → Nat → Nat, pw_post D ca (WC ca h ad pa σ) sz (WC ca h ad pa9 R2) t ∧ IX R2) (va_A (WC ca h ad pa σ) sz)) 1 8 (va_A (WC ca h ad pa σ) sz) := by
  refine Met.ofW (cc := cX8_herd) (maxL := 4) (ret := (some .int)) (by decide) rfl ?_
  intro p e s m args below meth c s₁ B hml hv
  obtain ⟨rfl, ⟨hsz, hP, hK, hD0⟩, hZ⟩ := hv
  have hx := B.exec
  have hb := B.bytes
  have hr := B.returns
  have hts := atoms_spec (ws := wsX8_herd) B.pre
  have hown : s.vm.findClass RX8 = some m.cls := findClass_of_methodNamed B.named
  have hlocks := B.notSynchronized
  have hu2 : ∀ w ∈ u_ws RX2 TX2 8, w ∈ wsX8_herd := fun w h => List.mem_cons_of_mem _ (uw2 w h)
  have hu8 : ∀ w ∈ u_ws RX8 TX8 19, w ∈ wsX8_herd := fun w h => List.mem_cons_of_mem _ (uw8 w h)
  subst hsz
  have hD := hD0.self (sz := s.heap.size)
  obtain ⟨A, hAe⟩ : ∃ A, A = va_A (WC ca h ad pa σ) s.heap.size := ⟨_, rfl⟩
  rw [← hAe] at hD hZ ⊢
  have hA : ∀ q : Nat, s.heap.size ≤ q → A q := fun q h => by rw [hAe]; exact Or.inr h
  have hS : va_S A s.heap s.heap [] := va_S.rf
  have hl := lv_entry ([.ref h, .int a1, .int a2, .int a3]) (n := 4) (Nat.le_of_ble_eq_true rfl)
  rw [lg_entry_eq]
  generalize (lg_sl ([.ref h, .int a1, .int a2, .int a3]) ++ List.replicate (4 - (lg_sl ([.ref h, .int a1, .int a2, .int a3])).length) Slot.unset).toArray = ls at hl ⊢
  have hl : lv_has ls 4 [(0, .ref h), (1, .int a1), (2, .int a2), (3, .int a3)] := hl
  obtain ⟨H, hH⟩ : ∃ H, H = s.heap := ⟨_, rfl⟩
  have hP : va_P D vwCl (WC ca h ad pa σ) H := by rw [hH]; exact hP
  have hS : va_S A s.heap H [] := by rw [hH]; exact hS
  obtain ⟨QQ, hQ⟩ : ∃ Q9, Q9 = MQ below (va_Qi (fun (r : Int32) (_ : Unit) => r = R1) (fun (_ : Unit) (t : State) => ∃ pa9 : Nat → Nat → Nat, pw_post D ca (WC ca h ad pa σ) s.heap.size (WC ca h ad pa9 R2) t ∧ IX R2) A) ([.ref h, .int a1, .int a2, .int a3] : List Value).toArray s 1 8 A := ⟨_, rfl⟩
  rw [← hQ]
  show W _ _ _ _ _ _ _ _ _ _ s.heap _ _ _ _ _
  rw [← hH]
  have hR : (if (s_X8_isOwner σ a1) = (0 : Int32) then (((s_X8_refuse σ (-1 : Int32)).1), ((s_X8_refuse σ (-1 : Int32)).2)) else (if a2 < (0 : Int32) then (((s_X8_refuse σ (-2 : Int32)).1), ((s_X8_refuse σ (-2 : Int32)).2)) else (if a2 < (3 : Int32) then (if (1 : Int32) ≤ a3 then (if (100 : Int32) < a3 then (((s_X8_refuse σ (-6 : Int32)).1), ((s_X8_refuse σ (-6 : Int32)).2)) else (if (σ 815 0) < (20 : Int32) then ((((σ 815 0) + (1 : Int32)) - (1 : Int32)), (put (put (put (put (put (put (put (put (put σ 200 ((σ 815 0).toNatClampNeg) a1) 201 ((σ 815 0).toNatClampNeg) a2) 202 ((σ 815 0).toNatClampNeg) a3) 203 ((σ 815 0).toNatClampNeg) (-1 : Int32)) 204 ((σ 815 0).toNatClampNeg) (0 : Int32)) 205 ((σ 815 0).toNatClampNeg) (0 : Int32)) 206 ((σ 815 0).toNatClampNeg) (0 : Int32)) 207 ((σ 815 0).toNatClampNeg) (0 : Int32)) 815 0 ((σ 815 0) + (1 : Int32)))) else (((s_X8_refuse σ (-6 : Int32)).1), ((s_X8_refuse σ (-6 : Int32)).2)))) else (((s_X8_refuse σ (-4 : Int32)).1), ((s_X8_refuse σ (-4 : Int32)).2))) else (((s_X8_refuse σ (-2 : Int32)).1), ((s_X8_refuse σ (-2 : Int32)).2))))) = (R1, R2) := hR
  refine lv_aload_n hx hb dX8_herd_0 rfl (lv_at hl 0 rfl) ?_
  refine lv_iload_n hx hb dX8_herd_1 rfl (lv_at hl 1 rfl) ?_
  have hF := pw_free hD hS hA
  refine va_calli (va_runV (As := [.int a1]) (rest := []) ⟨hx, hb, hml, hown, hts⟩ (k_X8_isOwner l D ca h ad pa tb σ a1 H.size hI _ rfl) (cwV 1 hts gX8_herd_X8_isOwner rfl rfl rfl (by decide +kernel) ⟨Nat.le_of_ble_eq_true rfl, Nat.le_of_ble_eq_true rfl⟩) ⟨cw_blind, va_recv hK hP (ci := 8) (q0 := 0) rfl wc_0, cw_give hP hK hD hZ hS hF⟩ rfl rfl hl.1 rfl (lv_room (Nat.le_of_ble_eq_true rfl)) dX8_herd_2 ⟨Nat.le_of_ble_eq_true rfl, Nat.le_of_ble_eq_true rfl⟩) hS (fun q _ h => hF q h) hF (fun r_1 u t H1 locs ht hvm hw hB hz1 hk1 hS => ?_)
  rw [hw]
  obtain ⟨hP, hD⟩ := pw_back hF ht hB
  clear hB hk1 hz1 hF
  generalize H1 = H at hP hS ⊢
  refine lv_if_ne (tgt := 14) hx hb dX8_herd_5 (by decide) (fun c_2 => ?_) (fun c_2 => ?_)
  · have hR := (if_neg c_2).symm.trans hR
    refine lv_iload_n hx hb dX8_herd_14 rfl (lv_at hl 2 rfl) ?_
    refine lv_if_lt (tgt := 23) hx hb dX8_herd_15 (by decide) (fun c_3 => ?_) (fun c_3 => ?_)
    · have hR := (if_pos c_3).symm.trans hR
      refine lv_aload_n hx hb dX8_herd_23 rfl (lv_at hl 0 rfl) ?_
      refine lv_bipush (v := (-2 : Int32)) hx hb dX8_herd_24 (by decide) ?_
      have hF := pw_free hD hS hA
      refine va_calli (va_runV (As := [.int (-2 : Int32)]) (rest := []) ⟨hx, hb, hml, hown, hts⟩ (k_X8_refuse l D ca h ad pa tb σ (-2 : Int32) H.size hI _ _ (Prod.eta _).symm) (cwV 1 hts gX8_herd_X8_refuse rfl rfl rfl (by decide +kernel) ⟨Nat.le_of_ble_eq_true rfl, Nat.le_of_ble_eq_true rfl⟩) ⟨cw_blind, va_recv hK hP (ci := 8) (q0 := 0) rfl wc_0, cw_give hP hK hD hZ hS hF⟩ rfl rfl hl.1 rfl (lv_room (Nat.le_of_ble_eq_true rfl)) dX8_herd_26 ⟨Nat.le_of_ble_eq_true rfl, Nat.le_of_ble_eq_true rfl⟩) hS (fun q _ h => hF q h) hF (fun r_4 u t H1 locs ht hvm hw hB hz1 hk1 hS => ?_)
      rw [hw]
      obtain ⟨hB, hI_5⟩ := hB
      obtain ⟨hP, hD⟩ := pw_back hF ht hB
      clear hB hk1 hz1 hF
      generalize H1 = H at hP hS ⊢
      obtain ⟨τc_6, hτc_6⟩ : ∃ t9, (s_X8_refuse σ (-2 : Int32)).2 = t9 := ⟨_, rfl⟩
      rw [hτc_6] at hP hD hI_5
      (try rw [hτc_6] at hR)
      obtain ⟨vc_7, hvc_7⟩ : ∃ t9, (s_X8_refuse σ (-2 : Int32)).1 = t9 := ⟨_, rfl⟩
      rw [hvc_7]
      (try rw [hvc_7] at hR)
      have hI9 : IX τc_6 := hI_5
      obtain ⟨rfl, rfl⟩ := Prod.mk.inj (show (vc_7, τc_6) = (R1, R2) from hR)
      rw [hQ]
      refine W.widen (k := 1) (n := 8) (Nat.le_of_ble_eq_true rfl) (Nat.le_of_ble_eq_true rfl) ?_
      exact W.iret (v := vc_7) hx hb hr (fun t ht hW => ⟨⟨vc_7, (), rfl, rfl, pa, ⟨by rw [ht]; exact hP, va_K.moved hW.alike hK, by rw [← hAe]; exact hD⟩, hI9⟩, hS.F ht⟩) hS.2.2 dX8_herd_29
    · have hR := (if_neg c_3).symm.trans hR
      refine lv_iload_n hx hb dX8_herd_18 rfl (lv_at hl 2 rfl) ?_
      refine lv_iconst (v := (3 : Int32)) hx hb dX8_herd_19 (by decide) ?_
      refine lv_icmp_lt (tgt := 30) hx hb dX8_herd_20 (by decide) (fun c_8 => ?_) (fun c_8 => ?_)
      · have hR := (if_pos c_8).symm.trans hR
        refine lv_iload_n hx hb dX8_herd_30 rfl (lv_at hl 3 rfl) ?_
        refine lv_iconst (v := (1 : Int32)) hx hb dX8_herd_31 (by decide) ?_
        refine lv_icmp_ge (tgt := 42) hx hb dX8_herd_32 (by decide) (fun c_9 => ?_) (fun c_9 => ?_)
        · have hR := (if_pos c_9).symm.trans hR
          refine lv_iload_n hx hb dX8_herd_42 rfl (lv_at hl 3 rfl) ?_
          refine lv_bipush (v := (100 : Int32)) hx hb dX8_herd_43 (by decide) ?_
          refine lv_icmp_gt (tgt := 57) hx hb dX8_herd_45 (by decide) (fun c_10 => ?_) (fun c_10 => ?_)
          · have hR := (if_pos c_10).symm.trans hR
            refine lv_aload_n hx hb dX8_herd_57 rfl (lv_at hl 0 rfl) ?_
            refine lv_bipush (v := (-6 : Int32)) hx hb dX8_herd_58 (by decide) ?_
            have hF := pw_free hD hS hA
            refine va_calli (va_runV (As := [.int (-6 : Int32)]) (rest := []) ⟨hx, hb, hml, hown, hts⟩ (k_X8_refuse l D ca h ad pa tb σ (-6 : Int32) H.size hI _ _ (Prod.eta _).symm) (cwV 1 hts gX8_herd_X8_refuse rfl rfl rfl (by decide +kernel) ⟨Nat.le_of_ble_eq_true rfl, Nat.le_of_ble_eq_true rfl⟩) ⟨cw_blind, va_recv hK hP (ci := 8) (q0 := 0) rfl wc_0, cw_give hP hK hD hZ hS hF⟩ rfl rfl hl.1 rfl (lv_room (Nat.le_of_ble_eq_true rfl)) dX8_herd_60 ⟨Nat.le_of_ble_eq_true rfl, Nat.le_of_ble_eq_true rfl⟩) hS (fun q _ h => hF q h) hF (fun r_11 u t H1 locs ht hvm hw hB hz1 hk1 hS => ?_)
            rw [hw]
            obtain ⟨hB, hI_12⟩ := hB
            obtain ⟨hP, hD⟩ := pw_back hF ht hB
            clear hB hk1 hz1 hF
            generalize H1 = H at hP hS ⊢
            obtain ⟨τc_13, hτc_13⟩ : ∃ t9, (s_X8_refuse σ (-6 : Int32)).2 = t9 := ⟨_, rfl⟩
            rw [hτc_13] at hP hD hI_12
            (try rw [hτc_13] at hR)
            obtain ⟨vc_14, hvc_14⟩ : ∃ t9, (s_X8_refuse σ (-6 : Int32)).1 = t9 := ⟨_, rfl⟩
            rw [hvc_14]
            (try rw [hvc_14] at hR)
            have hI9 : IX τc_13 := hI_12
            obtain ⟨rfl, rfl⟩ := Prod.mk.inj (show (vc_14, τc_13) = (R1, R2) from hR)
            rw [hQ]
            refine W.widen (k := 1) (n := 8) (Nat.le_of_ble_eq_true rfl) (Nat.le_of_ble_eq_true rfl) ?_
            exact W.iret (v := vc_14) hx hb hr (fun t ht hW => ⟨⟨vc_14, (), rfl, rfl, pa, ⟨by rw [ht]; exact hP, va_K.moved hW.alike hK, by rw [← hAe]; exact hD⟩, hI9⟩, hS.F ht⟩) hS.2.2 dX8_herd_63
          · have hR := (if_neg c_10).symm.trans hR
            refine lv_aload_n hx hb dX8_herd_48 rfl (lv_at hl 0 rfl) ?_
            refine va_get (D := D) (ci := 8) (v := .int (σ 815 0)) (C := RX8) (T := TX8) (N := 19) hx hb hts hu8 hown hK hP 0 wc_0 rfl 15 (by decide) (hts (.fieldLink RX8 88 "GrazeBook" "herdCount" "I") (List.mem_cons_of_mem _ mw_225)) (fun _ h9 => h9) rfl dX8_herd_49 ?_
            refine lv_bipush (v := (20 : Int32)) hx hb dX8_herd_52 (by decide) ?_
            refine lv_icmp_lt (tgt := 64) hx hb dX8_herd_54 (by decide) (fun c_15 => ?_) (fun c_15 => ?_)
            · have hR := (if_pos c_15).symm.trans hR
              refine lv_aload_n hx hb dX8_herd_64 rfl (lv_at hl 0 rfl) ?_
              refine va_get (D := D) (ci := 8) (v := .ref (ad 805)) (C := RX8) (T := TX8) (N := 19) hx hb hts hu8 hown hK hP 0 wc_0 rfl 5 (by decide) (hts (.fieldLink RX8 40 "GrazeBook" "herds" "[LGrazeBook$Drove;") (List.mem_cons_of_mem _ mw_215)) (fun _ h9 => h9) rfl dX8_herd_65 ?_
              refine lv_aload_n hx hb dX8_herd_68 rfl (lv_at hl 0 rfl) ?_
              refine va_get (D := D) (ci := 8) (v := .int (σ 815 0)) (C := RX8) (T := TX8) (N := 19) hx hb hts hu8 hown hK hP 0 wc_0 rfl 15 (by decide) (hts (.fieldLink RX8 88 "GrazeBook" "herdCount" "I") (List.mem_cons_of_mem _ mw_225)) (fun _ h9 => h9) rfl dX8_herd_69 ?_
              refine va_new (ci := 2) (fs := [.int (0 : Int32), .int (0 : Int32), .int (0 : Int32), .int (0 : Int32), .int (0 : Int32), .int (0 : Int32), .int (0 : Int32), .int (0 : Int32)]) (C := RX2) (T := TX2) (N := 8) hx hb hts hu2 tyX2 tyX2_ok hown (hts (.classLink RX8 38 RX2) (List.mem_cons_of_mem _ mw_98)) (hts (.instantiable RX2 8) (List.mem_cons_of_mem _ mw_435)) (hts (.initialized RX2) (List.mem_cons_of_mem _ mw_67)) hK hP hD hS hA rfl (fun j hj => by rcases (show j = 0 ∨ j = 1 ∨ j = 2 ∨ j = 3 ∨ j = 4 ∨ j = 5 ∨ j = 6 ∨ j = 7 by omega) with rfl | rfl | rfl | rfl | rfl | rfl | rfl | rfl <;> rfl) (Nat.le_of_ble_eq_true rfl) (Nat.le_of_ble_eq_true rfl) dX8_herd_72 (fun q_16 H hP hD hS => ?_)
              refine W.widen (k := 1) (n := 8) (Nat.le_refl _) (Nat.le_refl _) ?_
              refine lv_dup hx hb dX8_herd_75 rfl ?_
              refine lv_iload_n hx hb dX8_herd_76 rfl (lv_at hl 1 rfl) ?_
              refine lv_iload_n hx hb dX8_herd_77 rfl (lv_at hl 2 rfl) ?_
              refine lv_iload_n hx hb dX8_herd_78 rfl (lv_at hl 3 rfl) ?_
              have hF := nw_F hD hS hA
              refine va_callv (va_runI (As := [.int a1, .int a2, .int a3]) (rest := [.ref q_16, .int (σ 815 0), .ref (ad 805)]) ⟨hx, hb, hml, hown, hts⟩ (k_X2_init l D ca q_16 a1 a2 a3 H.size ) (cwI 3 hts gX8_herd_X2_init rfl rfl rfl (hts (.initialized RX2) (List.mem_cons_of_mem _ mw_67)) (hts (.methodLink RX8 155 yX2_init) (List.mem_cons_of_mem _ mw_436)) (hts (.instanceMethod yX2_init) (List.mem_cons_of_mem _ mw_437)) rfl (by decide +kernel) ⟨Nat.le_of_ble_eq_true rfl, Nat.le_of_ble_eq_true rfl⟩) ⟨pw_blind, pw_give (nw_P hP) hK (nw_D hD)⟩ rfl rfl hl.1 rfl (lv_room (Nat.le_of_ble_eq_true rfl)) dX8_herd_79 ⟨Nat.le_of_ble_eq_true rfl, Nat.le_of_ble_eq_true rfl⟩) hS (fun q _ h => hF q h) hF (fun u t H1 locs ht hvm hw hB hz1 hk1 hS => ?_)
              obtain ⟨hP, hD⟩ := nw_back hP hD hk1 ht hB
              clear hB hk1 hz1 hF
              generalize H1 = H at hP hS ⊢
              refine va_astq (r := (RX2, TX2, 8)) hx hb hK hP hD hS 9 5 (WC ca h ad pa σ).length 2 rfl rfl last_at rfl (ix_ltn (ix_815 hI) c_15 (by decide)) dX8_herd_82 (fun H locs hP hD hS => ?_)
              refine lv_aload_n hx hb dX8_herd_83 rfl (lv_at hl 0 rfl) ?_
              refine lv_dup hx hb dX8_herd_84 rfl ?_
              refine va_get (D := D) (ci := 8) (v := .int (σ 815 0)) (C := RX8) (T := TX8) (N := 19) hx hb hts hu8 hown hK hP 0 rfl rfl 15 (by decide) (hts (.fieldLink RX8 88 "GrazeBook" "herdCount" "I") (List.mem_cons_of_mem _ mw_225)) (fun _ h9 => h9) rfl dX8_herd_85 ?_
              refine lv_iconst (v := (1 : Int32)) hx hb dX8_herd_88 (by decide) ?_
              refine lv_iadd hx hb dX8_herd_89 ?_
              refine va_put (D := D) (ci := 8) (v := .int ((σ 815 0) + (1 : Int32))) (ty := .int) (C := RX8) (T := TX8) (N := 19) hx hb hts hu8 tyX8 tyX8_ok nmX8 hown hK hP hD hS 0 rfl rfl 15 (by decide) (hts (.fieldLink RX8 88 "GrazeBook" "herdCount" "I") (List.mem_cons_of_mem _ mw_225)) (fun _ h9 => h9) rfl (by decide +kernel) rfl rfl (Nat.le_of_ble_eq_true rfl) dX8_herd_90 (fun H locs hP hD hS => ?_)
              refine lv_aload_n hx hb dX8_herd_93 rfl (lv_at hl 0 rfl) ?_
              refine va_get (D := D) (ci := 8) (v := .int ((σ 815 0) + (1 : Int32))) (C := RX8) (T := TX8) (N := 19) hx hb hts hu8 hown hK hP 0 rfl rfl 15 (by decide) (hts (.fieldLink RX8 88 "GrazeBook" "herdCount" "I") (List.mem_cons_of_mem _ mw_225)) (fun _ h9 => h9) rfl dX8_herd_94 ?_
              refine lv_iconst (v := (1 : Int32)) hx hb dX8_herd_97 (by decide) ?_
              refine lv_isub hx hb dX8_herd_98 ?_
              obtain ⟨hP, hD⟩ := wc_addD (ix_ltn (ix_815 hI) c_15 (by decide)) hP hD
              have hIa := ix_addD (x0 := a1) (x1 := a2) (x2 := a3) (x3 := (-1 : Int32)) (x4 := (0 : Int32)) (x5 := (0 : Int32)) (x6 := (0 : Int32)) (x7 := (0 : Int32)) hI (ix_ltn (ix_815 hI) c_15 (by decide)) (isb0_Owner c_2)
              have hI9 : IX (put (put (put (put (put (put (put (put (put σ 200 ((σ 815 0).toNatClampNeg) a1) 201 ((σ 815 0).toNatClampNeg) a2) 202 ((σ 815 0).toNatClampNeg) a3) 203 ((σ 815 0).toNatClampNeg) (-1 : Int32)) 204 ((σ 815 0).toNatClampNeg) (0 : Int32)) 205 ((σ 815 0).toNatClampNeg) (0 : Int32)) 206 ((σ 815 0).toNatClampNeg) (0 : Int32)) 207 ((σ 815 0).toNatClampNeg) (0 : Int32)) 815 0 ((σ 815 0) + (1 : Int32))) := hIa
              obtain ⟨rfl, rfl⟩ := Prod.mk.inj (show ((((σ 815 0) + (1 : Int32)) - (1 : Int32)), (put (put (put (put (put (put (put (put (put σ 200 ((σ 815 0).toNatClampNeg) a1) 201 ((σ 815 0).toNatClampNeg) a2) 202 ((σ 815 0).toNatClampNeg) a3) 203 ((σ 815 0).toNatClampNeg) (-1 : Int32)) 204 ((σ 815 0).toNatClampNeg) (0 : Int32)) 205 ((σ 815 0).toNatClampNeg) (0 : Int32)) 206 ((σ 815 0).toNatClampNeg) (0 : Int32)) 207 ((σ 815 0).toNatClampNeg) (0 : Int32)) 815 0 ((σ 815 0) + (1 : Int32)))) = (R1, R2) from hR)
              rw [hQ]
              exact W.iret (v := (((σ 815 0) + (1 : Int32)) - (1 : Int32))) hx hb hr (fun t ht hW => ⟨⟨(((σ 815 0) + (1 : Int32)) - (1 : Int32)), (), rfl, rfl, (pup pa 3 (σ 815 0).toNatClampNeg q_16), ⟨by rw [ht]; exact hP, va_K.moved hW.alike hK, by rw [← hAe]; exact hD⟩, hI9⟩, hS.F ht⟩) hS.2.2 dX8_herd_99
            · have hR := (if_neg c_15).symm.trans hR
              refine lv_aload_n hx hb dX8_herd_57 rfl (lv_at hl 0 rfl) ?_
              refine lv_bipush (v := (-6 : Int32)) hx hb dX8_herd_58 (by decide) ?_
              have hF := pw_free hD hS hA
              refine va_calli (va_runV (As := [.int (-6 : Int32)]) (rest := []) ⟨hx, hb, hml, hown, hts⟩ (k_X8_refuse l D ca h ad pa tb σ (-6 : Int32) H.size hI _ _ (Prod.eta _).symm) (cwV 1 hts gX8_herd_X8_refuse rfl rfl rfl (by decide +kernel) ⟨Nat.le_of_ble_eq_true rfl, Nat.le_of_ble_eq_true rfl⟩) ⟨cw_blind, va_recv hK hP (ci := 8) (q0 := 0) rfl wc_0, cw_give hP hK hD hZ hS hF⟩ rfl rfl hl.1 rfl (lv_room (Nat.le_of_ble_eq_true rfl)) dX8_herd_60 ⟨Nat.le_of_ble_eq_true rfl, Nat.le_of_ble_eq_true rfl⟩) hS (fun q _ h => hF q h) hF (fun r_17 u t H1 locs ht hvm hw hB hz1 hk1 hS => ?_)
              rw [hw]
              obtain ⟨hB, hI_18⟩ := hB
              obtain ⟨hP, hD⟩ := pw_back hF ht hB
              clear hB hk1 hz1 hF
              generalize H1 = H at hP hS ⊢
              obtain ⟨τc_19, hτc_19⟩ : ∃ t9, (s_X8_refuse σ (-6 : Int32)).2 = t9 := ⟨_, rfl⟩
              rw [hτc_19] at hP hD hI_18
              (try rw [hτc_19] at hR)
              obtain ⟨vc_20, hvc_20⟩ : ∃ t9, (s_X8_refuse σ (-6 : Int32)).1 = t9 := ⟨_, rfl⟩
              rw [hvc_20]
              (try rw [hvc_20] at hR)
              have hI9 : IX τc_19 := hI_18
              obtain ⟨rfl, rfl⟩ := Prod.mk.inj (show (vc_20, τc_19) = (R1, R2) from hR)
              rw [hQ]
              refine W.widen (k := 1) (n := 8) (Nat.le_of_ble_eq_true rfl) (Nat.le_of_ble_eq_true rfl) ?_
              exact W.iret (v := vc_20) hx hb hr (fun t ht hW => ⟨⟨vc_20, (), rfl, rfl, pa, ⟨by rw [ht]; exact hP, va_K.moved hW.alike hK, by rw [← hAe]; exact hD⟩, hI9⟩, hS.F ht⟩) hS.2.2 dX8_herd_63
        · have hR := (if_neg c_9).symm.trans hR
          refine lv_aload_n hx hb dX8_herd_35 rfl (lv_at hl 0 rfl) ?_
          refine lv_bipush (v := (-4 : Int32)) hx hb dX8_herd_36 (by decide) ?_
          have hF := pw_free hD hS hA
          refine va_calli (va_runV (As := [.int (-4 : Int32)]) (rest := []) ⟨hx, hb, hml, hown, hts⟩ (k_X8_refuse l D ca h ad pa tb σ (-4 : Int32) H.size hI _ _ (Prod.eta _).symm) (cwV 1 hts gX8_herd_X8_refuse rfl rfl rfl (by decide +kernel) ⟨Nat.le_of_ble_eq_true rfl, Nat.le_of_ble_eq_true rfl⟩) ⟨cw_blind, va_recv hK hP (ci := 8) (q0 := 0) rfl wc_0, cw_give hP hK hD hZ hS hF⟩ rfl rfl hl.1 rfl (lv_room (Nat.le_of_ble_eq_true rfl)) dX8_herd_38 ⟨Nat.le_of_ble_eq_true rfl, Nat.le_of_ble_eq_true rfl⟩) hS (fun q _ h => hF q h) hF (fun r_21 u t H1 locs ht hvm hw hB hz1 hk1 hS => ?_)
          rw [hw]
          obtain ⟨hB, hI_22⟩ := hB
          obtain ⟨hP, hD⟩ := pw_back hF ht hB
          clear hB hk1 hz1 hF
          generalize H1 = H at hP hS ⊢
          obtain ⟨τc_23, hτc_23⟩ : ∃ t9, (s_X8_refuse σ (-4 : Int32)).2 = t9 := ⟨_, rfl⟩
          rw [hτc_23] at hP hD hI_22
          (try rw [hτc_23] at hR)
          obtain ⟨vc_24, hvc_24⟩ : ∃ t9, (s_X8_refuse σ (-4 : Int32)).1 = t9 := ⟨_, rfl⟩
          rw [hvc_24]
          (try rw [hvc_24] at hR)
          have hI9 : IX τc_23 := hI_22
          obtain ⟨rfl, rfl⟩ := Prod.mk.inj (show (vc_24, τc_23) = (R1, R2) from hR)
          rw [hQ]
          refine W.widen (k := 1) (n := 8) (Nat.le_of_ble_eq_true rfl) (Nat.le_of_ble_eq_true rfl) ?_
          exact W.iret (v := vc_24) hx hb hr (fun t ht hW => ⟨⟨vc_24, (), rfl, rfl, pa, ⟨by rw [ht]; exact hP, va_K.moved hW.alike hK, by rw [← hAe]; exact hD⟩, hI9⟩, hS.F ht⟩) hS.2.2 dX8_herd_41
      · have hR := (if_neg c_8).symm.trans hR
        refine lv_aload_n hx hb dX8_herd_23 rfl (lv_at hl 0 rfl) ?_
        refine lv_bipush (v := (-2 : Int32)) hx hb dX8_herd_24 (by decide) ?_
        have hF := pw_free hD hS hA
        refine va_calli (va_runV (As := [.int (-2 : Int32)]) (rest := []) ⟨hx, hb, hml, hown, hts⟩ (k_X8_refuse l D ca h ad pa tb σ (-2 : Int32) H.size hI _ _ (Prod.eta _).symm) (cwV 1 hts gX8_herd_X8_refuse rfl rfl rfl (by decide +kernel) ⟨Nat.le_of_ble_eq_true rfl, Nat.le_of_ble_eq_true rfl⟩) ⟨cw_blind, va_recv hK hP (ci := 8) (q0 := 0) rfl wc_0, cw_give hP hK hD hZ hS hF⟩ rfl rfl hl.1 rfl (lv_room (Nat.le_of_ble_eq_true rfl)) dX8_herd_26 ⟨Nat.le_of_ble_eq_true rfl, Nat.le_of_ble_eq_true rfl⟩) hS (fun q _ h => hF q h) hF (fun r_25 u t H1 locs ht hvm hw hB hz1 hk1 hS => ?_)
        rw [hw]
        obtain ⟨hB, hI_26⟩ := hB
        obtain ⟨hP, hD⟩ := pw_back hF ht hB
        clear hB hk1 hz1 hF
        generalize H1 = H at hP hS ⊢
        obtain ⟨τc_27, hτc_27⟩ : ∃ t9, (s_X8_refuse σ (-2 : Int32)).2 = t9 := ⟨_, rfl⟩
        rw [hτc_27] at hP hD hI_26
        (try rw [hτc_27] at hR)
        obtain ⟨vc_28, hvc_28⟩ : ∃ t9, (s_X8_refuse σ (-2 : Int32)).1 = t9 := ⟨_, rfl⟩
        rw [hvc_28]
        (try rw [hvc_28] at hR)
        have hI9 : IX τc_27 := hI_26
        obtain ⟨rfl, rfl⟩ := Prod.mk.inj (show (vc_28, τc_27) = (R1, R2) from hR)
        rw [hQ]
        refine W.widen (k := 1) (n := 8) (Nat.le_of_ble_eq_true rfl) (Nat.le_of_ble_eq_true rfl) ?_
        exact W.iret (v := vc_28) hx hb hr (fun t ht hW => ⟨⟨vc_28, (), rfl, rfl, pa, ⟨by rw [ht]; exact hP, va_K.moved hW.alike hK, by rw [← hAe]; exact hD⟩, hI9⟩, hS.F ht⟩) hS.2.2 dX8_herd_29
  · have hR := (if_pos c_2).symm.trans hR
    refine lv_aload_n hx hb dX8_herd_8 rfl (lv_at hl 0 rfl) ?_
    refine lv_iconst (v := (-1 : Int32)) hx hb dX8_herd_9 (by decide) ?_
    have hF := pw_free hD hS hA
    refine va_calli (va_runV (As := [.int (-1 : Int32)]) (rest := []) ⟨hx, hb, hml, hown, hts⟩ (k_X8_refuse l D ca h ad pa tb σ (-1 : Int32) H.size hI _ _ (Prod.eta _).symm) (cwV 1 hts gX8_herd_X8_refuse rfl rfl rfl (by decide +kernel) ⟨Nat.le_of_ble_eq_true rfl, Nat.le_of_ble_eq_true rfl⟩) ⟨cw_blind, va_recv hK hP (ci := 8) (q0 := 0) rfl wc_0, cw_give hP hK hD hZ hS hF⟩ rfl rfl hl.1 rfl (lv_room (Nat.le_of_ble_eq_true rfl)) dX8_herd_10 ⟨Nat.le_of_ble_eq_true rfl, Nat.le_of_ble_eq_true rfl⟩) hS (fun q _ h => hF q h) hF (fun r_29 u t H1 locs ht hvm hw hB hz1 hk1 hS => ?_)
    rw [hw]
    obtain ⟨hB, hI_30⟩ := hB
    obtain ⟨hP, hD⟩ := pw_back hF ht hB
    clear hB hk1 hz1 hF
    generalize H1 = H at hP hS ⊢
    obtain ⟨τc_31, hτc_31⟩ : ∃ t9, (s_X8_refuse σ (-1 : Int32)).2 = t9 := ⟨_, rfl⟩
    rw [hτc_31] at hP hD hI_30
    (try rw [hτc_31] at hR)
    obtain ⟨vc_32, hvc_32⟩ : ∃ t9, (s_X8_refuse σ (-1 : Int32)).1 = t9 := ⟨_, rfl⟩
    rw [hvc_32]
    (try rw [hvc_32] at hR)
    have hI9 : IX τc_31 := hI_30
    obtain ⟨rfl, rfl⟩ := Prod.mk.inj (show (vc_32, τc_31) = (R1, R2) from hR)
    rw [hQ]
    refine W.widen (k := 1) (n := 8) (Nat.le_of_ble_eq_true rfl) (Nat.le_of_ble_eq_true rfl) ?_
    exact W.iret (v := vc_32) hx hb hr (fun t ht hW => ⟨⟨vc_32, (), rfl, rfl, pa, ⟨by rw [ht]; exact hP, va_K.moved hW.alike hK, by rw [← hAe]; exact hD⟩, hI9⟩, hS.F ht⟩) hS.2.2 dX8_herd_13

def s_X8_addRight (σ : St) (x0 : Int32) (x1 : Int32) (x2 : Int32) (x3 : Int32) (x4 : Int32) (x5 : Int32) (x6 : Int32) (x7 : Int32) (x8 : Int32) : Int32 × St := ((((σ 814 0) + (1 : Int32)) - (1 : Int32)), (put (put (put (put (put (put (put (put (put (put σ 0 ((σ 814 0).toNatClampNeg) x0) 1 ((σ 814 0).toNatClampNeg) x1) 2 ((σ 814 0).toNatClampNeg) x2) 3 ((σ 814 0).toNatClampNeg) x3) 4 ((σ 814 0).toNatClampNeg) x4) 5 ((σ 814 0).toNatClampNeg) x5) 6 ((σ 814 0).toNatClampNeg) x6) 7 ((σ 814 0).toNatClampNeg) x7) 8 ((σ 814 0).toNatClampNeg) x8) 814 0 ((σ 814 0) + (1 : Int32))))
theorem fr_s_X8_addRight (σ : St) (x0 : Int32) (x1 : Int32) (x2 : Int32) (x3 : Int32) (x4 : Int32) (x5 : Int32) (x6 : Int32) (x7 : Int32) (x8 : Int32) {f : Nat} (h0 : f ≠ 0) (h1 : f ≠ 1) (h2 : f ≠ 2) (h3 : f ≠ 3) (h4 : f ≠ 4) (h5 : f ≠ 5) (h6 : f ≠ 6) (h7 : f ≠ 7) (h8 : f ≠ 8) (h814 : f ≠ 814) : (s_X8_addRight σ x0 x1 x2 x3 x4 x5 x6 x7 x8 ).2 f = σ f := by
  unfold s_X8_addRight
  all_goals ((try dsimp only) <;> ((repeat' split) <;> (try simp only [put_fr, ne_eq, not_false_eq_true, h0, h1, h2, h3, h4, h5, h6, h7, h8, h814])))
set_option maxHeartbeats 1000000 in
set_option maxRecDepth 100000 in
theorem k_X8_addRight (l : Launch) (D : va_G) (ca : Nat → ClassId) (h : Nat) (ad : Nat → Nat) (pa : Nat → Nat → Nat) (tb : Nat) (σ : St) (q : Nat) (x0 : Int32) (x1 : Int32) (x2 : Int32) (x3 : Int32) (x4 : Int32) (x5 : Int32) (x6 : Int32) (x7 : Int32) (x8 : Int32) (sz : Nat) (hI : IX σ) (hn : vp_in (σ 814 0) 60) (R1 : Int32) (R2 : St) (hR : s_X8_addRight σ x0 x1 x2 x3 x4 x5 x6 x7 x8 = (R1, R2)) : Met l yX8_addRight wsX8_addRight ({ frames := 0, cells := 0, slots := 0, locals := 0 }) (va_Pc [.ref h, .ref q] (cw_pre D ca (WC ca h ad pa σ ++ ([(q, .inr (0, [.int x0, .int x1, .int x2, .int x3, .int x4, .int x5, .int x6, .int x7, .int x8]))] : va_W)) sz tb)) (va_Qi (fun (r : Int32) (_ : Unit) => r = R1) (fun (_ : Unit) (t : State) => ∃ pa9 : Nat → Nat → Nat, pw_post D ca (WC ca h ad pa σ ++ ([(q, .inr (0, [.int x0, .int x1, .int x2, .int x3, .int x4, .int x5, .int x6, .int x7, .int x8]))] : va_W)) sz (WC ca h ad pa9 R2) t ∧ IX R2) (va_A (WC ca h ad pa σ ++ ([(q, .inr (0, [.int x0, .int x1, .int x2, .int x3, .int x4, .int x5, .int x6, .int x7, .int x8]))] : va_W)) sz)) 0 0 (va_A (WC ca h ad pa σ ++ ([(q, .inr (0, [.int x0, .int x1, .int x2, .int x3, .int x4, .int x5, .int x6, .int x7, .int x8]))] : va_W)) sz) := by
  refine Met.ofW (cc := cX8_addRight) (maxL := 2) (ret := (some .int)) (by decide) rfl ?_
  intro p e s m args below meth c s₁ B hml hv
  obtain ⟨rfl, ⟨hsz, hP, hK, hD0⟩, hZ⟩ := hv
  have hx := B.exec
  have hb := B.bytes
  have hr := B.returns
  have hts := atoms_spec (ws := wsX8_addRight) B.pre
  have hown : s.vm.findClass RX8 = some m.cls := findClass_of_methodNamed B.named
  have hlocks := B.notSynchronized
  have hu8 : ∀ w ∈ u_ws RX8 TX8 19, w ∈ wsX8_addRight := fun w h => List.mem_cons_of_mem _ (uw8 w h)
  subst hsz
  have hD := hD0.self (sz := s.heap.size)
  obtain ⟨A, hAe⟩ : ∃ A, A = va_A (WC ca h ad pa σ ++ ([(q, .inr (0, [.int x0, .int x1, .int x2, .int x3, .int x4, .int x5, .int x6, .int x7, .int x8]))] : va_W)) s.heap.size := ⟨_, rfl⟩
  rw [← hAe] at hD hZ ⊢
  have hA : ∀ q : Nat, s.heap.size ≤ q → A q := fun q h => by rw [hAe]; exact Or.inr h
  have hS : va_S A s.heap s.heap [] := va_S.rf
  have hl := lv_entry ([.ref h, .ref q]) (n := 2) (Nat.le_of_ble_eq_true rfl)
  rw [lg_entry_eq]
  generalize (lg_sl ([.ref h, .ref q]) ++ List.replicate (2 - (lg_sl ([.ref h, .ref q])).length) Slot.unset).toArray = ls at hl ⊢
  have hl : lv_has ls 2 [(0, .ref h), (1, .ref q)] := hl
  obtain ⟨H, hH⟩ : ∃ H, H = s.heap := ⟨_, rfl⟩
  have hP : va_P D vwCl (WC ca h ad pa σ ++ ([(q, .inr (0, [.int x0, .int x1, .int x2, .int x3, .int x4, .int x5, .int x6, .int x7, .int x8]))] : va_W)) H := by rw [hH]; exact hP
  have hS : va_S A s.heap H [] := by rw [hH]; exact hS
  obtain ⟨QQ, hQ⟩ : ∃ Q9, Q9 = MQ below (va_Qi (fun (r : Int32) (_ : Unit) => r = R1) (fun (_ : Unit) (t : State) => ∃ pa9 : Nat → Nat → Nat, pw_post D ca (WC ca h ad pa σ ++ ([(q, .inr (0, [.int x0, .int x1, .int x2, .int x3, .int x4, .int x5, .int x6, .int x7, .int x8]))] : va_W)) s.heap.size (WC ca h ad pa9 R2) t ∧ IX R2) A) ([.ref h, .ref q] : List Value).toArray s 0 0 A := ⟨_, rfl⟩
  rw [← hQ]
  show W _ _ _ _ _ _ _ _ _ _ s.heap _ _ _ _ _
  rw [← hH]
  delta s_X8_addRight at hR
  refine lv_aload_n hx hb dX8_addRight_0 rfl (lv_at hl 0 rfl) ?_
  refine va_get (D := D) (ci := 8) (v := .ref (ad 804)) (C := RX8) (T := TX8) (N := 19) hx hb hts hu8 hown hK hP 0 rfl rfl 4 (by decide) (hts (.fieldLink RX8 34 "GrazeBook" "rights" "[LGrazeBook$Claim;") (List.mem_cons_of_mem _ mw_214)) (fun _ h9 => h9) rfl dX8_addRight_1 ?_
  refine lv_aload_n hx hb dX8_addRight_4 rfl (lv_at hl 0 rfl) ?_
  refine va_get (D := D) (ci := 8) (v := .int (σ 814 0)) (C := RX8) (T := TX8) (N := 19) hx hb hts hu8 hown hK hP 0 rfl rfl 14 (by decide) (hts (.fieldLink RX8 85 "GrazeBook" "rightCount" "I") (List.mem_cons_of_mem _ mw_224)) (fun _ h9 => h9) rfl dX8_addRight_5 ?_
  refine lv_aload_n hx hb dX8_addRight_8 rfl (lv_at hl 1 rfl) ?_
  refine va_astq (r := (RX0, TX0, 9)) hx hb hK hP hD hS 8 4 (WC ca h ad pa σ).length 0 rfl rfl last_at rfl hn dX8_addRight_9 (fun H locs hP hD hS => ?_)
  refine lv_aload_n hx hb dX8_addRight_10 rfl (lv_at hl 0 rfl) ?_
  refine lv_dup hx hb dX8_addRight_11 rfl ?_
  refine va_get (D := D) (ci := 8) (v := .int (σ 814 0)) (C := RX8) (T := TX8) (N := 19) hx hb hts hu8 hown hK hP 0 rfl rfl 14 (by decide) (hts (.fieldLink RX8 85 "GrazeBook" "rightCount" "I") (List.mem_cons_of_mem _ mw_224)) (fun _ h9 => h9) rfl dX8_addRight_12 ?_
  refine lv_iconst (v := (1 : Int32)) hx hb dX8_addRight_15 (by decide) ?_
  refine lv_iadd hx hb dX8_addRight_16 ?_
  refine va_put (D := D) (ci := 8) (v := .int ((σ 814 0) + (1 : Int32))) (ty := .int) (C := RX8) (T := TX8) (N := 19) hx hb hts hu8 tyX8 tyX8_ok nmX8 hown hK hP hD hS 0 rfl rfl 14 (by decide) (hts (.fieldLink RX8 85 "GrazeBook" "rightCount" "I") (List.mem_cons_of_mem _ mw_224)) (fun _ h9 => h9) rfl (by decide +kernel) rfl rfl (Nat.le_of_ble_eq_true rfl) dX8_addRight_17 (fun H locs hP hD hS => ?_)
  refine lv_aload_n hx hb dX8_addRight_20 rfl (lv_at hl 0 rfl) ?_
  refine va_get (D := D) (ci := 8) (v := .int ((σ 814 0) + (1 : Int32))) (C := RX8) (T := TX8) (N := 19) hx hb hts hu8 hown hK hP 0 rfl rfl 14 (by decide) (hts (.fieldLink RX8 85 "GrazeBook" "rightCount" "I") (List.mem_cons_of_mem _ mw_224)) (fun _ h9 => h9) rfl dX8_addRight_21 ?_
  refine lv_iconst (v := (1 : Int32)) hx hb dX8_addRight_24 (by decide) ?_
  refine lv_isub hx hb dX8_addRight_25 ?_
  obtain ⟨hP, hD⟩ := wc_addC hn hP hD
  have hIa := ix_addC (x0 := x0) (x1 := x1) (x2 := x2) (x3 := x3) (x4 := x4) (x5 := x5) (x6 := x6) (x7 := x7) (x8 := x8) hI hn 
  have hI9 : IX (put (put (put (put (put (put (put (put (put (put σ 0 ((σ 814 0).toNatClampNeg) x0) 1 ((σ 814 0).toNatClampNeg) x1) 2 ((σ 814 0).toNatClampNeg) x2) 3 ((σ 814 0).toNatClampNeg) x3) 4 ((σ 814 0).toNatClampNeg) x4) 5 ((σ 814 0).toNatClampNeg) x5) 6 ((σ 814 0).toNatClampNeg) x6) 7 ((σ 814 0).toNatClampNeg) x7) 8 ((σ 814 0).toNatClampNeg) x8) 814 0 ((σ 814 0) + (1 : Int32))) := hIa
  obtain ⟨rfl, rfl⟩ := Prod.mk.inj (show ((((σ 814 0) + (1 : Int32)) - (1 : Int32)), (put (put (put (put (put (put (put (put (put (put σ 0 ((σ 814 0).toNatClampNeg) x0) 1 ((σ 814 0).toNatClampNeg) x1) 2 ((σ 814 0).toNatClampNeg) x2) 3 ((σ 814 0).toNatClampNeg) x3) 4 ((σ 814 0).toNatClampNeg) x4) 5 ((σ 814 0).toNatClampNeg) x5) 6 ((σ 814 0).toNatClampNeg) x6) 7 ((σ 814 0).toNatClampNeg) x7) 8 ((σ 814 0).toNatClampNeg) x8) 814 0 ((σ 814 0) + (1 : Int32)))) = (R1, R2) from hR)
  rw [hQ]
  exact W.iret (v := (((σ 814 0) + (1 : Int32)) - (1 : Int32))) hx hb hr (fun t ht hW => ⟨⟨(((σ 814 0) + (1 : Int32)) - (1 : Int32)), (), rfl, rfl, (pup pa 2 (σ 814 0).toNatClampNeg q), ⟨by rw [ht]; exact hP, va_K.moved hW.alike hK, by rw [← hAe]; exact hD⟩, hI9⟩, hS.F ht⟩) hS.2.2 dX8_addRight_26

def s_X8_right (σ : St) (a1 : Int32) (a2 : Int32) (a3 : Int32) (a4 : Int32) (a5 : Int32) : Int32 × St := (if a1 < (0 : Int32) then (((s_X8_refuse σ (-2 : Int32)).1), ((s_X8_refuse σ (-2 : Int32)).2)) else (if a1 ≤ (3 : Int32) then (if a1 = (1 : Int32) then (if (s_X8_isHouse σ a2) = (0 : Int32) then (((s_X8_refuse σ (-1 : Int32)).1), ((s_X8_refuse σ (-1 : Int32)).2)) else (if a1 = (3 : Int32) then (if (s_X8_isPiece σ a5) = (0 : Int32) then (((s_X8_refuse σ (-1 : Int32)).1), ((s_X8_refuse σ (-1 : Int32)).2)) else (if a3 < (1 : Int32) then (((s_X8_refuse σ (-4 : Int32)).1), ((s_X8_refuse σ (-4 : Int32)).2)) else (if (σ 816 0) ≤ a4 then (if (10000 : Int32) < a3 then (((s_X8_refuse σ (-6 : Int32)).1), ((s_X8_refuse σ (-6 : Int32)).2)) else (if (720 : Int32) < a4 then (((s_X8_refuse σ (-6 : Int32)).1), ((s_X8_refuse σ (-6 : Int32)).2)) else (if (σ 814 0) < (60 : Int32) then (((s_X8_addRight σ a1 a3 (σ 816 0) a4 a5 (-9 : Int32) a2 (-9 : Int32) (0 : Int32)).1), ((s_X8_addRight σ a1 a3 (σ 816 0) a4 a5 (-9 : Int32) a2 (-9 : Int32) (0 : Int32)).2)) else (((s_X8_refuse σ (-6 : Int32)).1), ((s_X8_refuse σ (-6 : Int32)).2))))) else (((s_X8_refuse σ (-4 : Int32)).1), ((s_X8_refuse σ (-4 : Int32)).2))))) else (if a3 < (1 : Int32) then (((s_X8_refuse σ (-4 : Int32)).1), ((s_X8_refuse σ (-4 : Int32)).2)) else (if (σ 816 0) ≤ a4 then (if (10000 : Int32) < a3 then (((s_X8_refuse σ (-6 : Int32)).1), ((s_X8_refuse σ (-6 : Int32)).2)) else (if (720 : Int32) < a4 then (((s_X8_refuse σ (-6 : Int32)).1), ((s_X8_refuse σ (-6 : Int32)).2)) else (if (σ 814 0) < (60 : Int32) then (((s_X8_addRight σ a1 a3 (σ 816 0) a4 (-9 : Int32) (-9 : Int32) a2 (-9 : Int32) (0 : Int32)).1), ((s_X8_addRight σ a1 a3 (σ 816 0) a4 (-9 : Int32) (-9 : Int32) a2 (-9 : Int32) (0 : Int32)).2)) else (((s_X8_refuse σ (-6 : Int32)).1), ((s_X8_refuse σ (-6 : Int32)).2))))) else (((s_X8_refuse σ (-4 : Int32)).1), ((s_X8_refuse σ (-4 : Int32)).2)))))) else (if (s_X8_isOwner σ a2) = (0 : Int32) then (((s_X8_refuse σ (-1 : Int32)).1), ((s_X8_refuse σ (-1 : Int32)).2)) else (if a1 = (3 : Int32) then (if (s_X8_isPiece σ a5) = (0 : Int32) then (((s_X8_refuse σ (-1 : Int32)).1), ((s_X8_refuse σ (-1 : Int32)).2)) else (if a3 < (1 : Int32) then (((s_X8_refuse σ (-4 : Int32)).1), ((s_X8_refuse σ (-4 : Int32)).2)) else (if (σ 816 0) ≤ a4 then (if (10000 : Int32) < a3 then (((s_X8_refuse σ (-6 : Int32)).1), ((s_X8_refuse σ (-6 : Int32)).2)) else (if (720 : Int32) < a4 then (((s_X8_refuse σ (-6 : Int32)).1), ((s_X8_refuse σ (-6 : Int32)).2)) else (if (σ 814 0) < (60 : Int32) then (((s_X8_addRight σ a1 a3 (σ 816 0) a4 a5 (-9 : Int32) a2 (-9 : Int32) (0 : Int32)).1), ((s_X8_addRight σ a1 a3 (σ 816 0) a4 a5 (-9 : Int32) a2 (-9 : Int32) (0 : Int32)).2)) else (((s_X8_refuse σ (-6 : Int32)).1), ((s_X8_refuse σ (-6 : Int32)).2))))) else (((s_X8_refuse σ (-4 : Int32)).1), ((s_X8_refuse σ (-4 : Int32)).2))))) else (if a3 < (1 : Int32) then (((s_X8_refuse σ (-4 : Int32)).1), ((s_X8_refuse σ (-4 : Int32)).2)) else (if (σ 816 0) ≤ a4 then (if (10000 : Int32) < a3 then (((s_X8_refuse σ (-6 : Int32)).1), ((s_X8_refuse σ (-6 : Int32)).2)) else (if (720 : Int32) < a4 then (((s_X8_refuse σ (-6 : Int32)).1), ((s_X8_refuse σ (-6 : Int32)).2)) else (if (σ 814 0) < (60 : Int32) then (((s_X8_addRight σ a1 a3 (σ 816 0) a4 (-9 : Int32) (-9 : Int32) a2 (-9 : Int32) (0 : Int32)).1), ((s_X8_addRight σ a1 a3 (σ 816 0) a4 (-9 : Int32) (-9 : Int32) a2 (-9 : Int32) (0 : Int32)).2)) else (((s_X8_refuse σ (-6 : Int32)).1), ((s_X8_refuse σ (-6 : Int32)).2))))) else (((s_X8_refuse σ (-4 : Int32)).1), ((s_X8_refuse σ (-4 : Int32)).2))))))) else (((s_X8_refuse σ (-2 : Int32)).1), ((s_X8_refuse σ (-2 : Int32)).2))))
set_option maxHeartbeats 1000000 in
set_option maxRecDepth 100000 in
theorem k_X8_right (l : Launch) (D : va_G) (ca : Nat → ClassId) (h : Nat) (ad : Nat → Nat) (pa : Nat → Nat → Nat) (tb : Nat) (σ : St) (a1 : Int32) (a2 : Int32) (a3 : Int32) (a4 : Int32) (a5 : Int32) (sz : Nat) (hI : IX σ)  (R1 : Int32) (R2 : St) (hR : s_X8_right σ a1 a2 a3 a4 a5 = (R1, R2)) : Met l yX8_right wsX8_right ({ frames := 2, cells := 1, slots := 9, locals := 39 }) (va_Pc [.ref h, .int a1, .int a2, .int a3, .int a4, .int a5] (cw_pre D ca (WC ca h ad pa σ) sz tb)) (va_Qi (fun (r : Int32) (_ : Unit) => r = R1) (fun (_ : Unit) (t : State) => ∃ pa9 : Nat → Nat → Nat, pw_post D ca (WC ca h ad pa σ) sz (WC ca h ad pa9 R2) t ∧ IX R2) (va_A (WC ca h ad pa σ) sz)) 1 9 (va_A (WC ca h ad pa σ) sz) := by
  refine Met.ofW (cc := cX8_right) (maxL := 6) (ret := (some .int)) (by decide) rfl ?_
  intro p e s m args below meth c s₁ B hml hv
  obtain ⟨rfl, ⟨hsz, hP, hK, hD0⟩, hZ⟩ := hv
  have hx := B.exec
  have hb := B.bytes
  have hr := B.returns
  have hts := atoms_spec (ws := wsX8_right) B.pre
  have hown : s.vm.findClass RX8 = some m.cls := findClass_of_methodNamed B.named
  have hlocks := B.notSynchronized
  have hu0 : ∀ w ∈ u_ws RX0 TX0 9, w ∈ wsX8_right := fun w h => List.mem_cons_of_mem _ (uw0 w h)
  have hu8 : ∀ w ∈ u_ws RX8 TX8 19, w ∈ wsX8_right := fun w h => List.mem_cons_of_mem _ (uw8 w h)
  subst hsz
  have hD := hD0.self (sz := s.heap.size)
  obtain ⟨A, hAe⟩ : ∃ A, A = va_A (WC ca h ad pa σ) s.heap.size := ⟨_, rfl⟩
  rw [← hAe] at hD hZ ⊢
  have hA : ∀ q : Nat, s.heap.size ≤ q → A q := fun q h => by rw [hAe]; exact Or.inr h
  have hS : va_S A s.heap s.heap [] := va_S.rf
  have hl := lv_entry ([.ref h, .int a1, .int a2, .int a3, .int a4, .int a5]) (n := 6) (Nat.le_of_ble_eq_true rfl)
  rw [lg_entry_eq]
  generalize (lg_sl ([.ref h, .int a1, .int a2, .int a3, .int a4, .int a5]) ++ List.replicate (6 - (lg_sl ([.ref h, .int a1, .int a2, .int a3, .int a4, .int a5])).length) Slot.unset).toArray = ls at hl ⊢
  have hl : lv_has ls 6 [(0, .ref h), (1, .int a1), (2, .int a2), (3, .int a3), (4, .int a4), (5, .int a5)] := hl
  obtain ⟨H, hH⟩ : ∃ H, H = s.heap := ⟨_, rfl⟩
  have hP : va_P D vwCl (WC ca h ad pa σ) H := by rw [hH]; exact hP
  have hS : va_S A s.heap H [] := by rw [hH]; exact hS
  obtain ⟨QQ, hQ⟩ : ∃ Q9, Q9 = MQ below (va_Qi (fun (r : Int32) (_ : Unit) => r = R1) (fun (_ : Unit) (t : State) => ∃ pa9 : Nat → Nat → Nat, pw_post D ca (WC ca h ad pa σ) s.heap.size (WC ca h ad pa9 R2) t ∧ IX R2) A) ([.ref h, .int a1, .int a2, .int a3, .int a4, .int a5] : List Value).toArray s 1 9 A := ⟨_, rfl⟩
  rw [← hQ]
  show W _ _ _ _ _ _ _ _ _ _ s.heap _ _ _ _ _
  rw [← hH]
  have hR : (if a1 < (0 : Int32) then (((s_X8_refuse σ (-2 : Int32)).1), ((s_X8_refuse σ (-2 : Int32)).2)) else (if a1 ≤ (3 : Int32) then (if a1 = (1 : Int32) then (if (s_X8_isHouse σ a2) = (0 : Int32) then (((s_X8_refuse σ (-1 : Int32)).1), ((s_X8_refuse σ (-1 : Int32)).2)) else (if a1 = (3 : Int32) then (if (s_X8_isPiece σ a5) = (0 : Int32) then (((s_X8_refuse σ (-1 : Int32)).1), ((s_X8_refuse σ (-1 : Int32)).2)) else (if a3 < (1 : Int32) then (((s_X8_refuse σ (-4 : Int32)).1), ((s_X8_refuse σ (-4 : Int32)).2)) else (if (σ 816 0) ≤ a4 then (if (10000 : Int32) < a3 then (((s_X8_refuse σ (-6 : Int32)).1), ((s_X8_refuse σ (-6 : Int32)).2)) else (if (720 : Int32) < a4 then (((s_X8_refuse σ (-6 : Int32)).1), ((s_X8_refuse σ (-6 : Int32)).2)) else (if (σ 814 0) < (60 : Int32) then (((s_X8_addRight σ a1 a3 (σ 816 0) a4 a5 (-9 : Int32) a2 (-9 : Int32) (0 : Int32)).1), ((s_X8_addRight σ a1 a3 (σ 816 0) a4 a5 (-9 : Int32) a2 (-9 : Int32) (0 : Int32)).2)) else (((s_X8_refuse σ (-6 : Int32)).1), ((s_X8_refuse σ (-6 : Int32)).2))))) else (((s_X8_refuse σ (-4 : Int32)).1), ((s_X8_refuse σ (-4 : Int32)).2))))) else (if a3 < (1 : Int32) then (((s_X8_refuse σ (-4 : Int32)).1), ((s_X8_refuse σ (-4 : Int32)).2)) else (if (σ 816 0) ≤ a4 then (if (10000 : Int32) < a3 then (((s_X8_refuse σ (-6 : Int32)).1), ((s_X8_refuse σ (-6 : Int32)).2)) else (if (720 : Int32) < a4 then (((s_X8_refuse σ (-6 : Int32)).1), ((s_X8_refuse σ (-6 : Int32)).2)) else (if (σ 814 0) < (60 : Int32) then (((s_X8_addRight σ a1 a3 (σ 816 0) a4 (-9 : Int32) (-9 : Int32) a2 (-9 : Int32) (0 : Int32)).1), ((s_X8_addRight σ a1 a3 (σ 816 0) a4 (-9 : Int32) (-9 : Int32) a2 (-9 : Int32) (0 : Int32)).2)) else (((s_X8_refuse σ (-6 : Int32)).1), ((s_X8_refuse σ (-6 : Int32)).2))))) else (((s_X8_refuse σ (-4 : Int32)).1), ((s_X8_refuse σ (-4 : Int32)).2)))))) else (if (s_X8_isOwner σ a2) = (0 : Int32) then (((s_X8_refuse σ (-1 : Int32)).1), ((s_X8_refuse σ (-1 : Int32)).2)) else (if a1 = (3 : Int32) then (if (s_X8_isPiece σ a5) = (0 : Int32) then (((s_X8_refuse σ (-1 : Int32)).1), ((s_X8_refuse σ (-1 : Int32)).2)) else (if a3 < (1 : Int32) then (((s_X8_refuse σ (-4 : Int32)).1), ((s_X8_refuse σ (-4 : Int32)).2)) else (if (σ 816 0) ≤ a4 then (if (10000 : Int32) < a3 then (((s_X8_refuse σ (-6 : Int32)).1), ((s_X8_refuse σ (-6 : Int32)).2)) else (if (720 : Int32) < a4 then (((s_X8_refuse σ (-6 : Int32)).1), ((s_X8_refuse σ (-6 : Int32)).2)) else (if (σ 814 0) < (60 : Int32) then (((s_X8_addRight σ a1 a3 (σ 816 0) a4 a5 (-9 : Int32) a2 (-9 : Int32) (0 : Int32)).1), ((s_X8_addRight σ a1 a3 (σ 816 0) a4 a5 (-9 : Int32) a2 (-9 : Int32) (0 : Int32)).2)) else (((s_X8_refuse σ (-6 : Int32)).1), ((s_X8_refuse σ (-6 : Int32)).2))))) else (((s_X8_refuse σ (-4 : Int32)).1), ((s_X8_refuse σ (-4 : Int32)).2))))) else (if a3 < (1 : Int32) then (((s_X8_refuse σ (-4 : Int32)).1), ((s_X8_refuse σ (-4 : Int32)).2)) else (if (σ 816 0) ≤ a4 then (if (10000 : Int32) < a3 then (((s_X8_refuse σ (-6 : Int32)).1), ((s_X8_refuse σ (-6 : Int32)).2)) else (if (720 : Int32) < a4 then (((s_X8_refuse σ (-6 : Int32)).1), ((s_X8_refuse σ (-6 : Int32)).2)) else (if (σ 814 0) < (60 : Int32) then (((s_X8_addRight σ a1 a3 (σ 816 0) a4 (-9 : Int32) (-9 : Int32) a2 (-9 : Int32) (0 : Int32)).1), ((s_X8_addRight σ a1 a3 (σ 816 0) a4 (-9 : Int32) (-9 : Int32) a2 (-9 : Int32) (0 : Int32)).2)) else (((s_X8_refuse σ (-6 : Int32)).1), ((s_X8_refuse σ (-6 : Int32)).2))))) else (((s_X8_refuse σ (-4 : Int32)).1), ((s_X8_refuse σ (-4 : Int32)).2))))))) else (((s_X8_refuse σ (-2 : Int32)).1), ((s_X8_refuse σ (-2 : Int32)).2)))) = (R1, R2) := hR
  refine lv_iload_n hx hb dX8_right_0 rfl (lv_at hl 1 rfl) ?_
  refine lv_if_lt (tgt := 9) hx hb dX8_right_1 (by decide) (fun c_1 => ?_) (fun c_1 => ?_)
  · have hR := (if_pos c_1).symm.trans hR
    refine lv_aload_n hx hb dX8_right_9 rfl (lv_at hl 0 rfl) ?_
    refine lv_bipush (v := (-2 : Int32)) hx hb dX8_right_10 (by decide) ?_
    have hF := pw_free hD hS hA
    refine va_calli (va_runV (As := [.int (-2 : Int32)]) (rest := []) ⟨hx, hb, hml, hown, hts⟩ (k_X8_refuse l D ca h ad pa tb σ (-2 : Int32) H.size hI _ _ (Prod.eta _).symm) (cwV 1 hts gX8_right_X8_refuse rfl rfl rfl (by decide +kernel) ⟨Nat.le_of_ble_eq_true rfl, Nat.le_of_ble_eq_true rfl⟩) ⟨cw_blind, va_recv hK hP (ci := 8) (q0 := 0) rfl wc_0, cw_give hP hK hD hZ hS hF⟩ rfl rfl hl.1 rfl (lv_room (Nat.le_of_ble_eq_true rfl)) dX8_right_12 ⟨Nat.le_of_ble_eq_true rfl, Nat.le_of_ble_eq_true rfl⟩) hS (fun q _ h => hF q h) hF (fun r_2 u t H1 locs ht hvm hw hB hz1 hk1 hS => ?_)
    rw [hw]
    obtain ⟨hB, hI_3⟩ := hB
    obtain ⟨hP, hD⟩ := pw_back hF ht hB
    clear hB hk1 hz1 hF
    generalize H1 = H at hP hS ⊢
    obtain ⟨τc_4, hτc_4⟩ : ∃ t9, (s_X8_refuse σ (-2 : Int32)).2 = t9 := ⟨_, rfl⟩
    rw [hτc_4] at hP hD hI_3
    (try rw [hτc_4] at hR)
    obtain ⟨vc_5, hvc_5⟩ : ∃ t9, (s_X8_refuse σ (-2 : Int32)).1 = t9 := ⟨_, rfl⟩
    rw [hvc_5]
    (try rw [hvc_5] at hR)
    have hI9 : IX τc_4 := hI_3
    obtain ⟨rfl, rfl⟩ := Prod.mk.inj (show (vc_5, τc_4) = (R1, R2) from hR)
    rw [hQ]
    refine W.widen (k := 1) (n := 9) (Nat.le_of_ble_eq_true rfl) (Nat.le_of_ble_eq_true rfl) ?_
    exact W.iret (v := vc_5) hx hb hr (fun t ht hW => ⟨⟨vc_5, (), rfl, rfl, pa, ⟨by rw [ht]; exact hP, va_K.moved hW.alike hK, by rw [← hAe]; exact hD⟩, hI9⟩, hS.F ht⟩) hS.2.2 dX8_right_15
  · have hR := (if_neg c_1).symm.trans hR
    refine lv_iload_n hx hb dX8_right_4 rfl (lv_at hl 1 rfl) ?_
    refine lv_iconst (v := (3 : Int32)) hx hb dX8_right_5 (by decide) ?_
    refine lv_icmp_le (tgt := 16) hx hb dX8_right_6 (by decide) (fun c_6 => ?_) (fun c_6 => ?_)
    · have hR := (if_pos c_6).symm.trans hR
      refine lv_iload_n hx hb dX8_right_16 rfl (lv_at hl 1 rfl) ?_
      refine lv_iconst (v := (1 : Int32)) hx hb dX8_right_17 (by decide) ?_
      refine lv_icmp_ne (tgt := 32) hx hb dX8_right_18 (by decide) (fun c_7 => ?_) (fun c_7 => ?_)
      · have hR := (if_neg c_7).symm.trans hR
        refine lv_aload_n hx hb dX8_right_32 rfl (lv_at hl 0 rfl) ?_
        refine lv_iload_n hx hb dX8_right_33 rfl (lv_at hl 2 rfl) ?_
        have hF := pw_free hD hS hA
        refine va_calli (va_runV (As := [.int a2]) (rest := []) ⟨hx, hb, hml, hown, hts⟩ (k_X8_isOwner l D ca h ad pa tb σ a2 H.size hI _ rfl) (cwV 1 hts gX8_right_X8_isOwner rfl rfl rfl (by decide +kernel) ⟨Nat.le_of_ble_eq_true rfl, Nat.le_of_ble_eq_true rfl⟩) ⟨cw_blind, va_recv hK hP (ci := 8) (q0 := 0) rfl wc_0, cw_give hP hK hD hZ hS hF⟩ rfl rfl hl.1 rfl (lv_room (Nat.le_of_ble_eq_true rfl)) dX8_right_34 ⟨Nat.le_of_ble_eq_true rfl, Nat.le_of_ble_eq_true rfl⟩) hS (fun q _ h => hF q h) hF (fun r_8 u t H1 locs ht hvm hw hB hz1 hk1 hS => ?_)
        rw [hw]
        obtain ⟨hP, hD⟩ := pw_back hF ht hB
        clear hB hk1 hz1 hF
        generalize H1 = H at hP hS ⊢
        refine lv_if_ne (tgt := 46) hx hb dX8_right_37 (by decide) (fun c_9 => ?_) (fun c_9 => ?_)
        · have hR := (if_neg c_9).symm.trans hR
          refine lv_iload_n hx hb dX8_right_46 rfl (lv_at hl 1 rfl) ?_
          refine lv_iconst (v := (3 : Int32)) hx hb dX8_right_47 (by decide) ?_
          refine lv_icmp_ne (tgt := 66) hx hb dX8_right_48 (by decide) (fun c_10 => ?_) (fun c_10 => ?_)
          · have hR := (if_neg c_10).symm.trans hR
            refine lv_iload_n hx hb dX8_right_66 rfl (lv_at hl 3 rfl) ?_
            refine lv_iconst (v := (1 : Int32)) hx hb dX8_right_67 (by decide) ?_
            refine lv_icmp_lt (tgt := 80) hx hb dX8_right_68 (by decide) (fun c_11 => ?_) (fun c_11 => ?_)
            · have hR := (if_pos c_11).symm.trans hR
              refine lv_aload_n hx hb dX8_right_80 rfl (lv_at hl 0 rfl) ?_
              refine lv_bipush (v := (-4 : Int32)) hx hb dX8_right_81 (by decide) ?_
              have hF := pw_free hD hS hA
              refine va_calli (va_runV (As := [.int (-4 : Int32)]) (rest := []) ⟨hx, hb, hml, hown, hts⟩ (k_X8_refuse l D ca h ad pa tb σ (-4 : Int32) H.size hI _ _ (Prod.eta _).symm) (cwV 1 hts gX8_right_X8_refuse rfl rfl rfl (by decide +kernel) ⟨Nat.le_of_ble_eq_true rfl, Nat.le_of_ble_eq_true rfl⟩) ⟨cw_blind, va_recv hK hP (ci := 8) (q0 := 0) rfl wc_0, cw_give hP hK hD hZ hS hF⟩ rfl rfl hl.1 rfl (lv_room (Nat.le_of_ble_eq_true rfl)) dX8_right_83 ⟨Nat.le_of_ble_eq_true rfl, Nat.le_of_ble_eq_true rfl⟩) hS (fun q _ h => hF q h) hF (fun r_12 u t H1 locs ht hvm hw hB hz1 hk1 hS => ?_)
              rw [hw]
              obtain ⟨hB, hI_13⟩ := hB
              obtain ⟨hP, hD⟩ := pw_back hF ht hB
              clear hB hk1 hz1 hF
              generalize H1 = H at hP hS ⊢
              obtain ⟨τc_14, hτc_14⟩ : ∃ t9, (s_X8_refuse σ (-4 : Int32)).2 = t9 := ⟨_, rfl⟩
              rw [hτc_14] at hP hD hI_13
              (try rw [hτc_14] at hR)
              obtain ⟨vc_15, hvc_15⟩ : ∃ t9, (s_X8_refuse σ (-4 : Int32)).1 = t9 := ⟨_, rfl⟩
              rw [hvc_15]
              (try rw [hvc_15] at hR)
              have hI9 : IX τc_14 := hI_13
              obtain ⟨rfl, rfl⟩ := Prod.mk.inj (show (vc_15, τc_14) = (R1, R2) from hR)
              rw [hQ]
              refine W.widen (k := 1) (n := 9) (Nat.le_of_ble_eq_true rfl) (Nat.le_of_ble_eq_true rfl) ?_
              exact W.iret (v := vc_15) hx hb hr (fun t ht hW => ⟨⟨vc_15, (), rfl, rfl, pa, ⟨by rw [ht]; exact hP, va_K.moved hW.alike hK, by rw [← hAe]; exact hD⟩, hI9⟩, hS.F ht⟩) hS.2.2 dX8_right_86
            · have hR := (if_neg c_11).symm.trans hR
              refine lv_iload hx hb dX8_right_71 (lv_at hl 4 rfl) ?_
              refine lv_aload_n hx hb dX8_right_73 rfl (lv_at hl 0 rfl) ?_
              refine va_get (D := D) (ci := 8) (v := .int (σ 816 0)) (C := RX8) (T := TX8) (N := 19) hx hb hts hu8 hown hK hP 0 wc_0 rfl 16 (by decide) (hts (.fieldLink RX8 91 "GrazeBook" "day" "I") (List.mem_cons_of_mem _ mw_226)) (fun _ h9 => h9) rfl dX8_right_74 ?_
              refine lv_icmp_ge (tgt := 87) hx hb dX8_right_77 (by decide) (fun c_16 => ?_) (fun c_16 => ?_)
              · have hR := (if_pos c_16).symm.trans hR
                refine lv_iload_n hx hb dX8_right_87 rfl (lv_at hl 3 rfl) ?_
                refine lv_sipush (v := (10000 : Int32)) hx hb dX8_right_88 (by decide) ?_
                refine lv_icmp_gt (tgt := 111) hx hb dX8_right_91 (by decide) (fun c_17 => ?_) (fun c_17 => ?_)
                · have hR := (if_pos c_17).symm.trans hR
                  refine lv_aload_n hx hb dX8_right_111 rfl (lv_at hl 0 rfl) ?_
                  refine lv_bipush (v := (-6 : Int32)) hx hb dX8_right_112 (by decide) ?_
                  have hF := pw_free hD hS hA
                  refine va_calli (va_runV (As := [.int (-6 : Int32)]) (rest := []) ⟨hx, hb, hml, hown, hts⟩ (k_X8_refuse l D ca h ad pa tb σ (-6 : Int32) H.size hI _ _ (Prod.eta _).symm) (cwV 1 hts gX8_right_X8_refuse rfl rfl rfl (by decide +kernel) ⟨Nat.le_of_ble_eq_true rfl, Nat.le_of_ble_eq_true rfl⟩) ⟨cw_blind, va_recv hK hP (ci := 8) (q0 := 0) rfl wc_0, cw_give hP hK hD hZ hS hF⟩ rfl rfl hl.1 rfl (lv_room (Nat.le_of_ble_eq_true rfl)) dX8_right_114 ⟨Nat.le_of_ble_eq_true rfl, Nat.le_of_ble_eq_true rfl⟩) hS (fun q _ h => hF q h) hF (fun r_18 u t H1 locs ht hvm hw hB hz1 hk1 hS => ?_)
                  rw [hw]
                  obtain ⟨hB, hI_19⟩ := hB
                  obtain ⟨hP, hD⟩ := pw_back hF ht hB
                  clear hB hk1 hz1 hF
                  generalize H1 = H at hP hS ⊢
                  obtain ⟨τc_20, hτc_20⟩ : ∃ t9, (s_X8_refuse σ (-6 : Int32)).2 = t9 := ⟨_, rfl⟩
                  rw [hτc_20] at hP hD hI_19
                  (try rw [hτc_20] at hR)
                  obtain ⟨vc_21, hvc_21⟩ : ∃ t9, (s_X8_refuse σ (-6 : Int32)).1 = t9 := ⟨_, rfl⟩
                  rw [hvc_21]
                  (try rw [hvc_21] at hR)
                  have hI9 : IX τc_20 := hI_19
                  obtain ⟨rfl, rfl⟩ := Prod.mk.inj (show (vc_21, τc_20) = (R1, R2) from hR)
                  rw [hQ]
                  refine W.widen (k := 1) (n := 9) (Nat.le_of_ble_eq_true rfl) (Nat.le_of_ble_eq_true rfl) ?_
                  exact W.iret (v := vc_21) hx hb hr (fun t ht hW => ⟨⟨vc_21, (), rfl, rfl, pa, ⟨by rw [ht]; exact hP, va_K.moved hW.alike hK, by rw [← hAe]; exact hD⟩, hI9⟩, hS.F ht⟩) hS.2.2 dX8_right_117
                · have hR := (if_neg c_17).symm.trans hR
                  refine lv_iload hx hb dX8_right_94 (lv_at hl 4 rfl) ?_
                  refine lv_sipush (v := (720 : Int32)) hx hb dX8_right_96 (by decide) ?_
                  refine lv_icmp_gt (tgt := 111) hx hb dX8_right_99 (by decide) (fun c_22 => ?_) (fun c_22 => ?_)
                  · have hR := (if_pos c_22).symm.trans hR
                    refine lv_aload_n hx hb dX8_right_111 rfl (lv_at hl 0 rfl) ?_
                    refine lv_bipush (v := (-6 : Int32)) hx hb dX8_right_112 (by decide) ?_
                    have hF := pw_free hD hS hA
                    refine va_calli (va_runV (As := [.int (-6 : Int32)]) (rest := []) ⟨hx, hb, hml, hown, hts⟩ (k_X8_refuse l D ca h ad pa tb σ (-6 : Int32) H.size hI _ _ (Prod.eta _).symm) (cwV 1 hts gX8_right_X8_refuse rfl rfl rfl (by decide +kernel) ⟨Nat.le_of_ble_eq_true rfl, Nat.le_of_ble_eq_true rfl⟩) ⟨cw_blind, va_recv hK hP (ci := 8) (q0 := 0) rfl wc_0, cw_give hP hK hD hZ hS hF⟩ rfl rfl hl.1 rfl (lv_room (Nat.le_of_ble_eq_true rfl)) dX8_right_114 ⟨Nat.le_of_ble_eq_true rfl, Nat.le_of_ble_eq_true rfl⟩) hS (fun q _ h => hF q h) hF (fun r_23 u t H1 locs ht hvm hw hB hz1 hk1 hS => ?_)
                    rw [hw]
                    obtain ⟨hB, hI_24⟩ := hB
                    obtain ⟨hP, hD⟩ := pw_back hF ht hB
                    clear hB hk1 hz1 hF
                    generalize H1 = H at hP hS ⊢
                    obtain ⟨τc_25, hτc_25⟩ : ∃ t9, (s_X8_refuse σ (-6 : Int32)).2 = t9 := ⟨_, rfl⟩
                    rw [hτc_25] at hP hD hI_24
                    (try rw [hτc_25] at hR)
                    obtain ⟨vc_26, hvc_26⟩ : ∃ t9, (s_X8_refuse σ (-6 : Int32)).1 = t9 := ⟨_, rfl⟩
                    rw [hvc_26]
                    (try rw [hvc_26] at hR)
                    have hI9 : IX τc_25 := hI_24
                    obtain ⟨rfl, rfl⟩ := Prod.mk.inj (show (vc_26, τc_25) = (R1, R2) from hR)
                    rw [hQ]
                    refine W.widen (k := 1) (n := 9) (Nat.le_of_ble_eq_true rfl) (Nat.le_of_ble_eq_true rfl) ?_
                    exact W.iret (v := vc_26) hx hb hr (fun t ht hW => ⟨⟨vc_26, (), rfl, rfl, pa, ⟨by rw [ht]; exact hP, va_K.moved hW.alike hK, by rw [← hAe]; exact hD⟩, hI9⟩, hS.F ht⟩) hS.2.2 dX8_right_117
                  · have hR := (if_neg c_22).symm.trans hR
                    refine lv_aload_n hx hb dX8_right_102 rfl (lv_at hl 0 rfl) ?_
                    refine va_get (D := D) (ci := 8) (v := .int (σ 814 0)) (C := RX8) (T := TX8) (N := 19) hx hb hts hu8 hown hK hP 0 wc_0 rfl 14 (by decide) (hts (.fieldLink RX8 85 "GrazeBook" "rightCount" "I") (List.mem_cons_of_mem _ mw_224)) (fun _ h9 => h9) rfl dX8_right_103 ?_
                    refine lv_bipush (v := (60 : Int32)) hx hb dX8_right_106 (by decide) ?_
                    refine lv_icmp_lt (tgt := 118) hx hb dX8_right_108 (by decide) (fun c_27 => ?_) (fun c_27 => ?_)
                    · have hR := (if_pos c_27).symm.trans hR
                      refine lv_aload_n hx hb dX8_right_118 rfl (lv_at hl 0 rfl) ?_
                      refine va_new (ci := 0) (fs := [.int (0 : Int32), .int (0 : Int32), .int (0 : Int32), .int (0 : Int32), .int (0 : Int32), .int (0 : Int32), .int (0 : Int32), .int (0 : Int32), .int (0 : Int32)]) (C := RX0) (T := TX0) (N := 9) hx hb hts hu0 tyX0 tyX0_ok hown (hts (.classLink RX8 32 RX0) (List.mem_cons_of_mem _ mw_96)) (hts (.instantiable RX0 9) (List.mem_cons_of_mem _ mw_352)) (hts (.initialized RX0) (List.mem_cons_of_mem _ mw_66)) hK hP hD hS hA rfl (fun j hj => by rcases (show j = 0 ∨ j = 1 ∨ j = 2 ∨ j = 3 ∨ j = 4 ∨ j = 5 ∨ j = 6 ∨ j = 7 ∨ j = 8 by omega) with rfl | rfl | rfl | rfl | rfl | rfl | rfl | rfl | rfl <;> rfl) (Nat.le_of_ble_eq_true rfl) (Nat.le_of_ble_eq_true rfl) dX8_right_119 (fun q_28 H hP hD hS => ?_)
                      refine W.widen (k := 1) (n := 9) (Nat.le_refl _) (Nat.le_refl _) ?_
                      refine lv_dup hx hb dX8_right_122 rfl ?_
                      refine lv_iload_n hx hb dX8_right_123 rfl (lv_at hl 1 rfl) ?_
                      refine lv_iload_n hx hb dX8_right_124 rfl (lv_at hl 2 rfl) ?_
                      refine lv_iload_n hx hb dX8_right_125 rfl (lv_at hl 3 rfl) ?_
                      refine lv_aload_n hx hb dX8_right_126 rfl (lv_at hl 0 rfl) ?_
                      refine va_get (D := D) (ci := 8) (v := .int (σ 816 0)) (C := RX8) (T := TX8) (N := 19) hx hb hts hu8 hown hK hP 0 rfl rfl 16 (by decide) (hts (.fieldLink RX8 91 "GrazeBook" "day" "I") (List.mem_cons_of_mem _ mw_226)) (fun _ h9 => h9) rfl dX8_right_127 ?_
                      refine lv_iload hx hb dX8_right_130 (lv_at hl 4 rfl) ?_
                      refine lv_iload_n hx hb dX8_right_132 rfl (lv_at hl 1 rfl) ?_
                      refine lv_iconst (v := (3 : Int32)) hx hb dX8_right_133 (by decide) ?_
                      refine lv_icmp_ne (tgt := 142) hx hb dX8_right_134 (by decide) (fun _ => ?_) (fun c_29 => absurd c_29 c_10)
                      refine lv_bipush (v := (-9 : Int32)) hx hb dX8_right_142 (by decide) ?_
                      refine lv_bipush (v := (-9 : Int32)) hx hb dX8_right_144 (by decide) ?_
                      have hF := nw_F hD hS hA
                      refine va_callv (va_runI (As := [.int a1, .int a2, .int a3, .int (σ 816 0), .int a4, .int (-9 : Int32), .int (-9 : Int32)]) (rest := [.ref q_28, .ref h]) ⟨hx, hb, hml, hown, hts⟩ (k_X0_init l D ca q_28 a1 a2 a3 (σ 816 0) a4 (-9 : Int32) (-9 : Int32) H.size ) (cwI 7 hts gX8_right_X0_init rfl rfl rfl (hts (.initialized RX0) (List.mem_cons_of_mem _ mw_66)) (hts (.methodLink RX8 130 yX0_init) (List.mem_cons_of_mem _ mw_353)) (hts (.instanceMethod yX0_init) (List.mem_cons_of_mem _ mw_354)) rfl (by decide +kernel) ⟨Nat.le_of_ble_eq_true rfl, Nat.le_of_ble_eq_true rfl⟩) ⟨pw_blind, pw_give (nw_P hP) hK (nw_D hD)⟩ rfl rfl hl.1 rfl (lv_room (Nat.le_of_ble_eq_true rfl)) dX8_right_146 ⟨Nat.le_of_ble_eq_true rfl, Nat.le_of_ble_eq_true rfl⟩) hS (fun q _ h => hF q h) hF (fun u t H1 locs ht hvm hw hB hz1 hk1 hS => ?_)
                      obtain ⟨hP, hD⟩ := nw_back hP hD hk1 ht hB
                      clear hB hk1 hz1 hF
                      generalize H1 = H at hP hS ⊢
                      have hF := pw_free hD hS hA
                      refine va_calli (va_runV (As := [.ref q_28]) (rest := []) ⟨hx, hb, hml, hown, hts⟩ (k_X8_addRight l D ca h ad pa tb σ q_28 a1 a3 (σ 816 0) a4 (-9 : Int32) (-9 : Int32) a2 (-9 : Int32) (0 : Int32) H.size hI (ix_ltn (ix_814 hI) c_27 (by decide)) _ _ (Prod.eta _).symm) (cwV 1 hts gX8_right_X8_addRight rfl rfl rfl (by decide +kernel) ⟨Nat.le_of_ble_eq_true rfl, Nat.le_of_ble_eq_true rfl⟩) ⟨cw_blind, va_recv hK hP (ci := 8) (q0 := 0) rfl rfl, cw_give hP hK hD hZ hS hF⟩ rfl rfl hl.1 rfl (lv_room (Nat.le_of_ble_eq_true rfl)) dX8_right_149 ⟨Nat.le_of_ble_eq_true rfl, Nat.le_of_ble_eq_true rfl⟩) hS (fun q _ h => hF q h) hF (fun r_30 u t H1 locs ht hvm hw hB hz1 hk1 hS => ?_)
                      rw [hw]
                      obtain ⟨pa_31, hB⟩ := hB
                      obtain ⟨hB, hI_32⟩ := hB
                      obtain ⟨hP, hD⟩ := pw_back hF ht hB
                      clear hB hk1 hz1 hF
                      generalize H1 = H at hP hS ⊢
                      obtain ⟨τc_33, hτc_33⟩ : ∃ t9, (s_X8_addRight σ a1 a3 (σ 816 0) a4 (-9 : Int32) (-9 : Int32) a2 (-9 : Int32) (0 : Int32)).2 = t9 := ⟨_, rfl⟩
                      rw [hτc_33] at hP hD hI_32
                      (try rw [hτc_33] at hR)
                      obtain ⟨vc_34, hvc_34⟩ : ∃ t9, (s_X8_addRight σ a1 a3 (σ 816 0) a4 (-9 : Int32) (-9 : Int32) a2 (-9 : Int32) (0 : Int32)).1 = t9 := ⟨_, rfl⟩
                      rw [hvc_34]
                      (try rw [hvc_34] at hR)
                      have hI9 : IX τc_33 := hI_32
                      obtain ⟨rfl, rfl⟩ := Prod.mk.inj (show (vc_34, τc_33) = (R1, R2) from hR)
                      rw [hQ]
                      exact W.iret (v := vc_34) hx hb hr (fun t ht hW => ⟨⟨vc_34, (), rfl, rfl, pa_31, ⟨by rw [ht]; exact hP, va_K.moved hW.alike hK, by rw [← hAe]; exact hD⟩, hI9⟩, hS.F ht⟩) hS.2.2 dX8_right_152
                    · have hR := (if_neg c_27).symm.trans hR
                      refine lv_aload_n hx hb dX8_right_111 rfl (lv_at hl 0 rfl) ?_
                      refine lv_bipush (v := (-6 : Int32)) hx hb dX8_right_112 (by decide) ?_
                      have hF := pw_free hD hS hA
                      refine va_calli (va_runV (As := [.int (-6 : Int32)]) (rest := []) ⟨hx, hb, hml, hown, hts⟩ (k_X8_refuse l D ca h ad pa tb σ (-6 : Int32) H.size hI _ _ (Prod.eta _).symm) (cwV 1 hts gX8_right_X8_refuse rfl rfl rfl (by decide +kernel) ⟨Nat.le_of_ble_eq_true rfl, Nat.le_of_ble_eq_true rfl⟩) ⟨cw_blind, va_recv hK hP (ci := 8) (q0 := 0) rfl wc_0, cw_give hP hK hD hZ hS hF⟩ rfl rfl hl.1 rfl (lv_room (Nat.le_of_ble_eq_true rfl)) dX8_right_114 ⟨Nat.le_of_ble_eq_true rfl, Nat.le_of_ble_eq_true rfl⟩) hS (fun q _ h => hF q h) hF (fun r_35 u t H1 locs ht hvm hw hB hz1 hk1 hS => ?_)
                      rw [hw]
                      obtain ⟨hB, hI_36⟩ := hB
                      obtain ⟨hP, hD⟩ := pw_back hF ht hB
                      clear hB hk1 hz1 hF
                      generalize H1 = H at hP hS ⊢
                      obtain ⟨τc_37, hτc_37⟩ : ∃ t9, (s_X8_refuse σ (-6 : Int32)).2 = t9 := ⟨_, rfl⟩
                      rw [hτc_37] at hP hD hI_36
                      (try rw [hτc_37] at hR)
                      obtain ⟨vc_38, hvc_38⟩ : ∃ t9, (s_X8_refuse σ (-6 : Int32)).1 = t9 := ⟨_, rfl⟩
                      rw [hvc_38]
                      (try rw [hvc_38] at hR)
                      have hI9 : IX τc_37 := hI_36
                      obtain ⟨rfl, rfl⟩ := Prod.mk.inj (show (vc_38, τc_37) = (R1, R2) from hR)
                      rw [hQ]
                      refine W.widen (k := 1) (n := 9) (Nat.le_of_ble_eq_true rfl) (Nat.le_of_ble_eq_true rfl) ?_
                      exact W.iret (v := vc_38) hx hb hr (fun t ht hW => ⟨⟨vc_38, (), rfl, rfl, pa, ⟨by rw [ht]; exact hP, va_K.moved hW.alike hK, by rw [← hAe]; exact hD⟩, hI9⟩, hS.F ht⟩) hS.2.2 dX8_right_117
              · have hR := (if_neg c_16).symm.trans hR
                refine lv_aload_n hx hb dX8_right_80 rfl (lv_at hl 0 rfl) ?_
                refine lv_bipush (v := (-4 : Int32)) hx hb dX8_right_81 (by decide) ?_
                have hF := pw_free hD hS hA
                refine va_calli (va_runV (As := [.int (-4 : Int32)]) (rest := []) ⟨hx, hb, hml, hown, hts⟩ (k_X8_refuse l D ca h ad pa tb σ (-4 : Int32) H.size hI _ _ (Prod.eta _).symm) (cwV 1 hts gX8_right_X8_refuse rfl rfl rfl (by decide +kernel) ⟨Nat.le_of_ble_eq_true rfl, Nat.le_of_ble_eq_true rfl⟩) ⟨cw_blind, va_recv hK hP (ci := 8) (q0 := 0) rfl wc_0, cw_give hP hK hD hZ hS hF⟩ rfl rfl hl.1 rfl (lv_room (Nat.le_of_ble_eq_true rfl)) dX8_right_83 ⟨Nat.le_of_ble_eq_true rfl, Nat.le_of_ble_eq_true rfl⟩) hS (fun q _ h => hF q h) hF (fun r_39 u t H1 locs ht hvm hw hB hz1 hk1 hS => ?_)
                rw [hw]
                obtain ⟨hB, hI_40⟩ := hB
                obtain ⟨hP, hD⟩ := pw_back hF ht hB
                clear hB hk1 hz1 hF
                generalize H1 = H at hP hS ⊢
                obtain ⟨τc_41, hτc_41⟩ : ∃ t9, (s_X8_refuse σ (-4 : Int32)).2 = t9 := ⟨_, rfl⟩
                rw [hτc_41] at hP hD hI_40
                (try rw [hτc_41] at hR)
                obtain ⟨vc_42, hvc_42⟩ : ∃ t9, (s_X8_refuse σ (-4 : Int32)).1 = t9 := ⟨_, rfl⟩
                rw [hvc_42]
                (try rw [hvc_42] at hR)
                have hI9 : IX τc_41 := hI_40
                obtain ⟨rfl, rfl⟩ := Prod.mk.inj (show (vc_42, τc_41) = (R1, R2) from hR)
                rw [hQ]
                refine W.widen (k := 1) (n := 9) (Nat.le_of_ble_eq_true rfl) (Nat.le_of_ble_eq_true rfl) ?_
                exact W.iret (v := vc_42) hx hb hr (fun t ht hW => ⟨⟨vc_42, (), rfl, rfl, pa, ⟨by rw [ht]; exact hP, va_K.moved hW.alike hK, by rw [← hAe]; exact hD⟩, hI9⟩, hS.F ht⟩) hS.2.2 dX8_right_86
          · have hR := (if_pos c_10).symm.trans hR
            refine lv_aload_n hx hb dX8_right_51 rfl (lv_at hl 0 rfl) ?_
            refine lv_iload hx hb dX8_right_52 (lv_at hl 5 rfl) ?_
            have hF := pw_free hD hS hA
            refine va_calli (va_runV (As := [.int a5]) (rest := []) ⟨hx, hb, hml, hown, hts⟩ (k_X8_isPiece l D ca h ad pa tb σ a5 H.size hI _ rfl) (cwV 1 hts gX8_right_X8_isPiece rfl rfl rfl (by decide +kernel) ⟨Nat.le_of_ble_eq_true rfl, Nat.le_of_ble_eq_true rfl⟩) ⟨cw_blind, va_recv hK hP (ci := 8) (q0 := 0) rfl wc_0, cw_give hP hK hD hZ hS hF⟩ rfl rfl hl.1 rfl (lv_room (Nat.le_of_ble_eq_true rfl)) dX8_right_54 ⟨Nat.le_of_ble_eq_true rfl, Nat.le_of_ble_eq_true rfl⟩) hS (fun q _ h => hF q h) hF (fun r_43 u t H1 locs ht hvm hw hB hz1 hk1 hS => ?_)
            rw [hw]
            obtain ⟨hP, hD⟩ := pw_back hF ht hB
            clear hB hk1 hz1 hF
            generalize H1 = H at hP hS ⊢
            refine lv_if_ne (tgt := 66) hx hb dX8_right_57 (by decide) (fun c_44 => ?_) (fun c_44 => ?_)
            · have hR := (if_neg c_44).symm.trans hR
              refine lv_iload_n hx hb dX8_right_66 rfl (lv_at hl 3 rfl) ?_
              refine lv_iconst (v := (1 : Int32)) hx hb dX8_right_67 (by decide) ?_
              refine lv_icmp_lt (tgt := 80) hx hb dX8_right_68 (by decide) (fun c_45 => ?_) (fun c_45 => ?_)
              · have hR := (if_pos c_45).symm.trans hR
                refine lv_aload_n hx hb dX8_right_80 rfl (lv_at hl 0 rfl) ?_
                refine lv_bipush (v := (-4 : Int32)) hx hb dX8_right_81 (by decide) ?_
                have hF := pw_free hD hS hA
                refine va_calli (va_runV (As := [.int (-4 : Int32)]) (rest := []) ⟨hx, hb, hml, hown, hts⟩ (k_X8_refuse l D ca h ad pa tb σ (-4 : Int32) H.size hI _ _ (Prod.eta _).symm) (cwV 1 hts gX8_right_X8_refuse rfl rfl rfl (by decide +kernel) ⟨Nat.le_of_ble_eq_true rfl, Nat.le_of_ble_eq_true rfl⟩) ⟨cw_blind, va_recv hK hP (ci := 8) (q0 := 0) rfl wc_0, cw_give hP hK hD hZ hS hF⟩ rfl rfl hl.1 rfl (lv_room (Nat.le_of_ble_eq_true rfl)) dX8_right_83 ⟨Nat.le_of_ble_eq_true rfl, Nat.le_of_ble_eq_true rfl⟩) hS (fun q _ h => hF q h) hF (fun r_46 u t H1 locs ht hvm hw hB hz1 hk1 hS => ?_)
                rw [hw]
                obtain ⟨hB, hI_47⟩ := hB
                obtain ⟨hP, hD⟩ := pw_back hF ht hB
                clear hB hk1 hz1 hF
                generalize H1 = H at hP hS ⊢
                obtain ⟨τc_48, hτc_48⟩ : ∃ t9, (s_X8_refuse σ (-4 : Int32)).2 = t9 := ⟨_, rfl⟩
                rw [hτc_48] at hP hD hI_47
                (try rw [hτc_48] at hR)
                obtain ⟨vc_49, hvc_49⟩ : ∃ t9, (s_X8_refuse σ (-4 : Int32)).1 = t9 := ⟨_, rfl⟩
                rw [hvc_49]
                (try rw [hvc_49] at hR)
                have hI9 : IX τc_48 := hI_47
                obtain ⟨rfl, rfl⟩ := Prod.mk.inj (show (vc_49, τc_48) = (R1, R2) from hR)
                rw [hQ]
                refine W.widen (k := 1) (n := 9) (Nat.le_of_ble_eq_true rfl) (Nat.le_of_ble_eq_true rfl) ?_
                exact W.iret (v := vc_49) hx hb hr (fun t ht hW => ⟨⟨vc_49, (), rfl, rfl, pa, ⟨by rw [ht]; exact hP, va_K.moved hW.alike hK, by rw [← hAe]; exact hD⟩, hI9⟩, hS.F ht⟩) hS.2.2 dX8_right_86
              · have hR := (if_neg c_45).symm.trans hR
                refine lv_iload hx hb dX8_right_71 (lv_at hl 4 rfl) ?_
                refine lv_aload_n hx hb dX8_right_73 rfl (lv_at hl 0 rfl) ?_
                refine va_get (D := D) (ci := 8) (v := .int (σ 816 0)) (C := RX8) (T := TX8) (N := 19) hx hb hts hu8 hown hK hP 0 wc_0 rfl 16 (by decide) (hts (.fieldLink RX8 91 "GrazeBook" "day" "I") (List.mem_cons_of_mem _ mw_226)) (fun _ h9 => h9) rfl dX8_right_74 ?_
                refine lv_icmp_ge (tgt := 87) hx hb dX8_right_77 (by decide) (fun c_50 => ?_) (fun c_50 => ?_)
                · have hR := (if_pos c_50).symm.trans hR
                  refine lv_iload_n hx hb dX8_right_87 rfl (lv_at hl 3 rfl) ?_
                  refine lv_sipush (v := (10000 : Int32)) hx hb dX8_right_88 (by decide) ?_
                  refine lv_icmp_gt (tgt := 111) hx hb dX8_right_91 (by decide) (fun c_51 => ?_) (fun c_51 => ?_)
                  · have hR := (if_pos c_51).symm.trans hR
                    refine lv_aload_n hx hb dX8_right_111 rfl (lv_at hl 0 rfl) ?_
                    refine lv_bipush (v := (-6 : Int32)) hx hb dX8_right_112 (by decide) ?_
                    have hF := pw_free hD hS hA
                    refine va_calli (va_runV (As := [.int (-6 : Int32)]) (rest := []) ⟨hx, hb, hml, hown, hts⟩ (k_X8_refuse l D ca h ad pa tb σ (-6 : Int32) H.size hI _ _ (Prod.eta _).symm) (cwV 1 hts gX8_right_X8_refuse rfl rfl rfl (by decide +kernel) ⟨Nat.le_of_ble_eq_true rfl, Nat.le_of_ble_eq_true rfl⟩) ⟨cw_blind, va_recv hK hP (ci := 8) (q0 := 0) rfl wc_0, cw_give hP hK hD hZ hS hF⟩ rfl rfl hl.1 rfl (lv_room (Nat.le_of_ble_eq_true rfl)) dX8_right_114 ⟨Nat.le_of_ble_eq_true rfl, Nat.le_of_ble_eq_true rfl⟩) hS (fun q _ h => hF q h) hF (fun r_52 u t H1 locs ht hvm hw hB hz1 hk1 hS => ?_)
                    rw [hw]
                    obtain ⟨hB, hI_53⟩ := hB
                    obtain ⟨hP, hD⟩ := pw_back hF ht hB
                    clear hB hk1 hz1 hF
                    generalize H1 = H at hP hS ⊢
                    obtain ⟨τc_54, hτc_54⟩ : ∃ t9, (s_X8_refuse σ (-6 : Int32)).2 = t9 := ⟨_, rfl⟩
                    rw [hτc_54] at hP hD hI_53
                    (try rw [hτc_54] at hR)
                    obtain ⟨vc_55, hvc_55⟩ : ∃ t9, (s_X8_refuse σ (-6 : Int32)).1 = t9 := ⟨_, rfl⟩
                    rw [hvc_55]
                    (try rw [hvc_55] at hR)
                    have hI9 : IX τc_54 := hI_53
                    obtain ⟨rfl, rfl⟩ := Prod.mk.inj (show (vc_55, τc_54) = (R1, R2) from hR)
                    rw [hQ]
                    refine W.widen (k := 1) (n := 9) (Nat.le_of_ble_eq_true rfl) (Nat.le_of_ble_eq_true rfl) ?_
                    exact W.iret (v := vc_55) hx hb hr (fun t ht hW => ⟨⟨vc_55, (), rfl, rfl, pa, ⟨by rw [ht]; exact hP, va_K.moved hW.alike hK, by rw [← hAe]; exact hD⟩, hI9⟩, hS.F ht⟩) hS.2.2 dX8_right_117
                  · have hR := (if_neg c_51).symm.trans hR
                    refine lv_iload hx hb dX8_right_94 (lv_at hl 4 rfl) ?_
                    refine lv_sipush (v := (720 : Int32)) hx hb dX8_right_96 (by decide) ?_
                    refine lv_icmp_gt (tgt := 111) hx hb dX8_right_99 (by decide) (fun c_56 => ?_) (fun c_56 => ?_)
                    · have hR := (if_pos c_56).symm.trans hR
                      refine lv_aload_n hx hb dX8_right_111 rfl (lv_at hl 0 rfl) ?_
                      refine lv_bipush (v := (-6 : Int32)) hx hb dX8_right_112 (by decide) ?_
                      have hF := pw_free hD hS hA
                      refine va_calli (va_runV (As := [.int (-6 : Int32)]) (rest := []) ⟨hx, hb, hml, hown, hts⟩ (k_X8_refuse l D ca h ad pa tb σ (-6 : Int32) H.size hI _ _ (Prod.eta _).symm) (cwV 1 hts gX8_right_X8_refuse rfl rfl rfl (by decide +kernel) ⟨Nat.le_of_ble_eq_true rfl, Nat.le_of_ble_eq_true rfl⟩) ⟨cw_blind, va_recv hK hP (ci := 8) (q0 := 0) rfl wc_0, cw_give hP hK hD hZ hS hF⟩ rfl rfl hl.1 rfl (lv_room (Nat.le_of_ble_eq_true rfl)) dX8_right_114 ⟨Nat.le_of_ble_eq_true rfl, Nat.le_of_ble_eq_true rfl⟩) hS (fun q _ h => hF q h) hF (fun r_57 u t H1 locs ht hvm hw hB hz1 hk1 hS => ?_)
                      rw [hw]
                      obtain ⟨hB, hI_58⟩ := hB
                      obtain ⟨hP, hD⟩ := pw_back hF ht hB
                      clear hB hk1 hz1 hF
                      generalize H1 = H at hP hS ⊢
                      obtain ⟨τc_59, hτc_59⟩ : ∃ t9, (s_X8_refuse σ (-6 : Int32)).2 = t9 := ⟨_, rfl⟩
                      rw [hτc_59] at hP hD hI_58
                      (try rw [hτc_59] at hR)
                      obtain ⟨vc_60, hvc_60⟩ : ∃ t9, (s_X8_refuse σ (-6 : Int32)).1 = t9 := ⟨_, rfl⟩
                      rw [hvc_60]
                      (try rw [hvc_60] at hR)
                      have hI9 : IX τc_59 := hI_58
                      obtain ⟨rfl, rfl⟩ := Prod.mk.inj (show (vc_60, τc_59) = (R1, R2) from hR)
                      rw [hQ]
                      refine W.widen (k := 1) (n := 9) (Nat.le_of_ble_eq_true rfl) (Nat.le_of_ble_eq_true rfl) ?_
                      exact W.iret (v := vc_60) hx hb hr (fun t ht hW => ⟨⟨vc_60, (), rfl, rfl, pa, ⟨by rw [ht]; exact hP, va_K.moved hW.alike hK, by rw [← hAe]; exact hD⟩, hI9⟩, hS.F ht⟩) hS.2.2 dX8_right_117
                    · have hR := (if_neg c_56).symm.trans hR
                      refine lv_aload_n hx hb dX8_right_102 rfl (lv_at hl 0 rfl) ?_
                      refine va_get (D := D) (ci := 8) (v := .int (σ 814 0)) (C := RX8) (T := TX8) (N := 19) hx hb hts hu8 hown hK hP 0 wc_0 rfl 14 (by decide) (hts (.fieldLink RX8 85 "GrazeBook" "rightCount" "I") (List.mem_cons_of_mem _ mw_224)) (fun _ h9 => h9) rfl dX8_right_103 ?_
                      refine lv_bipush (v := (60 : Int32)) hx hb dX8_right_106 (by decide) ?_
                      refine lv_icmp_lt (tgt := 118) hx hb dX8_right_108 (by decide) (fun c_61 => ?_) (fun c_61 => ?_)
                      · have hR := (if_pos c_61).symm.trans hR
                        refine lv_aload_n hx hb dX8_right_118 rfl (lv_at hl 0 rfl) ?_
                        refine va_new (ci := 0) (fs := [.int (0 : Int32), .int (0 : Int32), .int (0 : Int32), .int (0 : Int32), .int (0 : Int32), .int (0 : Int32), .int (0 : Int32), .int (0 : Int32), .int (0 : Int32)]) (C := RX0) (T := TX0) (N := 9) hx hb hts hu0 tyX0 tyX0_ok hown (hts (.classLink RX8 32 RX0) (List.mem_cons_of_mem _ mw_96)) (hts (.instantiable RX0 9) (List.mem_cons_of_mem _ mw_352)) (hts (.initialized RX0) (List.mem_cons_of_mem _ mw_66)) hK hP hD hS hA rfl (fun j hj => by rcases (show j = 0 ∨ j = 1 ∨ j = 2 ∨ j = 3 ∨ j = 4 ∨ j = 5 ∨ j = 6 ∨ j = 7 ∨ j = 8 by omega) with rfl | rfl | rfl | rfl | rfl | rfl | rfl | rfl | rfl <;> rfl) (Nat.le_of_ble_eq_true rfl) (Nat.le_of_ble_eq_true rfl) dX8_right_119 (fun q_62 H hP hD hS => ?_)
                        refine W.widen (k := 1) (n := 9) (Nat.le_refl _) (Nat.le_refl _) ?_
                        refine lv_dup hx hb dX8_right_122 rfl ?_
                        refine lv_iload_n hx hb dX8_right_123 rfl (lv_at hl 1 rfl) ?_
                        refine lv_iload_n hx hb dX8_right_124 rfl (lv_at hl 2 rfl) ?_
                        refine lv_iload_n hx hb dX8_right_125 rfl (lv_at hl 3 rfl) ?_
                        refine lv_aload_n hx hb dX8_right_126 rfl (lv_at hl 0 rfl) ?_
                        refine va_get (D := D) (ci := 8) (v := .int (σ 816 0)) (C := RX8) (T := TX8) (N := 19) hx hb hts hu8 hown hK hP 0 rfl rfl 16 (by decide) (hts (.fieldLink RX8 91 "GrazeBook" "day" "I") (List.mem_cons_of_mem _ mw_226)) (fun _ h9 => h9) rfl dX8_right_127 ?_
                        refine lv_iload hx hb dX8_right_130 (lv_at hl 4 rfl) ?_
                        refine lv_iload_n hx hb dX8_right_132 rfl (lv_at hl 1 rfl) ?_
                        refine lv_iconst (v := (3 : Int32)) hx hb dX8_right_133 (by decide) ?_
                        refine lv_icmp_ne (tgt := 142) hx hb dX8_right_134 (by decide) (fun c_63 => absurd c_10 c_63) (fun _ => ?_)
                        refine lv_iload hx hb dX8_right_137 (lv_at hl 5 rfl) ?_
                        refine lv_goto (tgt := 144) hx hb dX8_right_139 (by decide) ?_
                        refine lv_bipush (v := (-9 : Int32)) hx hb dX8_right_144 (by decide) ?_
                        have hF := nw_F hD hS hA
                        refine va_callv (va_runI (As := [.int a1, .int a2, .int a3, .int (σ 816 0), .int a4, .int a5, .int (-9 : Int32)]) (rest := [.ref q_62, .ref h]) ⟨hx, hb, hml, hown, hts⟩ (k_X0_init l D ca q_62 a1 a2 a3 (σ 816 0) a4 a5 (-9 : Int32) H.size ) (cwI 7 hts gX8_right_X0_init rfl rfl rfl (hts (.initialized RX0) (List.mem_cons_of_mem _ mw_66)) (hts (.methodLink RX8 130 yX0_init) (List.mem_cons_of_mem _ mw_353)) (hts (.instanceMethod yX0_init) (List.mem_cons_of_mem _ mw_354)) rfl (by decide +kernel) ⟨Nat.le_of_ble_eq_true rfl, Nat.le_of_ble_eq_true rfl⟩) ⟨pw_blind, pw_give (nw_P hP) hK (nw_D hD)⟩ rfl rfl hl.1 rfl (lv_room (Nat.le_of_ble_eq_true rfl)) dX8_right_146 ⟨Nat.le_of_ble_eq_true rfl, Nat.le_of_ble_eq_true rfl⟩) hS (fun q _ h => hF q h) hF (fun u t H1 locs ht hvm hw hB hz1 hk1 hS => ?_)
                        obtain ⟨hP, hD⟩ := nw_back hP hD hk1 ht hB
                        clear hB hk1 hz1 hF
                        generalize H1 = H at hP hS ⊢
                        have hF := pw_free hD hS hA
                        refine va_calli (va_runV (As := [.ref q_62]) (rest := []) ⟨hx, hb, hml, hown, hts⟩ (k_X8_addRight l D ca h ad pa tb σ q_62 a1 a3 (σ 816 0) a4 a5 (-9 : Int32) a2 (-9 : Int32) (0 : Int32) H.size hI (ix_ltn (ix_814 hI) c_61 (by decide)) _ _ (Prod.eta _).symm) (cwV 1 hts gX8_right_X8_addRight rfl rfl rfl (by decide +kernel) ⟨Nat.le_of_ble_eq_true rfl, Nat.le_of_ble_eq_true rfl⟩) ⟨cw_blind, va_recv hK hP (ci := 8) (q0 := 0) rfl rfl, cw_give hP hK hD hZ hS hF⟩ rfl rfl hl.1 rfl (lv_room (Nat.le_of_ble_eq_true rfl)) dX8_right_149 ⟨Nat.le_of_ble_eq_true rfl, Nat.le_of_ble_eq_true rfl⟩) hS (fun q _ h => hF q h) hF (fun r_64 u t H1 locs ht hvm hw hB hz1 hk1 hS => ?_)
                        rw [hw]
                        obtain ⟨pa_65, hB⟩ := hB
                        obtain ⟨hB, hI_66⟩ := hB
                        obtain ⟨hP, hD⟩ := pw_back hF ht hB
                        clear hB hk1 hz1 hF
                        generalize H1 = H at hP hS ⊢
                        obtain ⟨τc_67, hτc_67⟩ : ∃ t9, (s_X8_addRight σ a1 a3 (σ 816 0) a4 a5 (-9 : Int32) a2 (-9 : Int32) (0 : Int32)).2 = t9 := ⟨_, rfl⟩
                        rw [hτc_67] at hP hD hI_66
                        (try rw [hτc_67] at hR)
                        obtain ⟨vc_68, hvc_68⟩ : ∃ t9, (s_X8_addRight σ a1 a3 (σ 816 0) a4 a5 (-9 : Int32) a2 (-9 : Int32) (0 : Int32)).1 = t9 := ⟨_, rfl⟩
                        rw [hvc_68]
                        (try rw [hvc_68] at hR)
                        have hI9 : IX τc_67 := hI_66
                        obtain ⟨rfl, rfl⟩ := Prod.mk.inj (show (vc_68, τc_67) = (R1, R2) from hR)
                        rw [hQ]
                        exact W.iret (v := vc_68) hx hb hr (fun t ht hW => ⟨⟨vc_68, (), rfl, rfl, pa_65, ⟨by rw [ht]; exact hP, va_K.moved hW.alike hK, by rw [← hAe]; exact hD⟩, hI9⟩, hS.F ht⟩) hS.2.2 dX8_right_152
                      · have hR := (if_neg c_61).symm.trans hR
                        refine lv_aload_n hx hb dX8_right_111 rfl (lv_at hl 0 rfl) ?_
                        refine lv_bipush (v := (-6 : Int32)) hx hb dX8_right_112 (by decide) ?_
                        have hF := pw_free hD hS hA
                        refine va_calli (va_runV (As := [.int (-6 : Int32)]) (rest := []) ⟨hx, hb, hml, hown, hts⟩ (k_X8_refuse l D ca h ad pa tb σ (-6 : Int32) H.size hI _ _ (Prod.eta _).symm) (cwV 1 hts gX8_right_X8_refuse rfl rfl rfl (by decide +kernel) ⟨Nat.le_of_ble_eq_true rfl, Nat.le_of_ble_eq_true rfl⟩) ⟨cw_blind, va_recv hK hP (ci := 8) (q0 := 0) rfl wc_0, cw_give hP hK hD hZ hS hF⟩ rfl rfl hl.1 rfl (lv_room (Nat.le_of_ble_eq_true rfl)) dX8_right_114 ⟨Nat.le_of_ble_eq_true rfl, Nat.le_of_ble_eq_true rfl⟩) hS (fun q _ h => hF q h) hF (fun r_69 u t H1 locs ht hvm hw hB hz1 hk1 hS => ?_)
                        rw [hw]
                        obtain ⟨hB, hI_70⟩ := hB
                        obtain ⟨hP, hD⟩ := pw_back hF ht hB
                        clear hB hk1 hz1 hF
                        generalize H1 = H at hP hS ⊢
                        obtain ⟨τc_71, hτc_71⟩ : ∃ t9, (s_X8_refuse σ (-6 : Int32)).2 = t9 := ⟨_, rfl⟩
                        rw [hτc_71] at hP hD hI_70
                        (try rw [hτc_71] at hR)
                        obtain ⟨vc_72, hvc_72⟩ : ∃ t9, (s_X8_refuse σ (-6 : Int32)).1 = t9 := ⟨_, rfl⟩
                        rw [hvc_72]
                        (try rw [hvc_72] at hR)
                        have hI9 : IX τc_71 := hI_70
                        obtain ⟨rfl, rfl⟩ := Prod.mk.inj (show (vc_72, τc_71) = (R1, R2) from hR)
                        rw [hQ]
                        refine W.widen (k := 1) (n := 9) (Nat.le_of_ble_eq_true rfl) (Nat.le_of_ble_eq_true rfl) ?_
                        exact W.iret (v := vc_72) hx hb hr (fun t ht hW => ⟨⟨vc_72, (), rfl, rfl, pa, ⟨by rw [ht]; exact hP, va_K.moved hW.alike hK, by rw [← hAe]; exact hD⟩, hI9⟩, hS.F ht⟩) hS.2.2 dX8_right_117
                · have hR := (if_neg c_50).symm.trans hR
                  refine lv_aload_n hx hb dX8_right_80 rfl (lv_at hl 0 rfl) ?_
                  refine lv_bipush (v := (-4 : Int32)) hx hb dX8_right_81 (by decide) ?_
                  have hF := pw_free hD hS hA
                  refine va_calli (va_runV (As := [.int (-4 : Int32)]) (rest := []) ⟨hx, hb, hml, hown, hts⟩ (k_X8_refuse l D ca h ad pa tb σ (-4 : Int32) H.size hI _ _ (Prod.eta _).symm) (cwV 1 hts gX8_right_X8_refuse rfl rfl rfl (by decide +kernel) ⟨Nat.le_of_ble_eq_true rfl, Nat.le_of_ble_eq_true rfl⟩) ⟨cw_blind, va_recv hK hP (ci := 8) (q0 := 0) rfl wc_0, cw_give hP hK hD hZ hS hF⟩ rfl rfl hl.1 rfl (lv_room (Nat.le_of_ble_eq_true rfl)) dX8_right_83 ⟨Nat.le_of_ble_eq_true rfl, Nat.le_of_ble_eq_true rfl⟩) hS (fun q _ h => hF q h) hF (fun r_73 u t H1 locs ht hvm hw hB hz1 hk1 hS => ?_)
                  rw [hw]
                  obtain ⟨hB, hI_74⟩ := hB
                  obtain ⟨hP, hD⟩ := pw_back hF ht hB
                  clear hB hk1 hz1 hF
                  generalize H1 = H at hP hS ⊢
                  obtain ⟨τc_75, hτc_75⟩ : ∃ t9, (s_X8_refuse σ (-4 : Int32)).2 = t9 := ⟨_, rfl⟩
                  rw [hτc_75] at hP hD hI_74
                  (try rw [hτc_75] at hR)
                  obtain ⟨vc_76, hvc_76⟩ : ∃ t9, (s_X8_refuse σ (-4 : Int32)).1 = t9 := ⟨_, rfl⟩
                  rw [hvc_76]
                  (try rw [hvc_76] at hR)
                  have hI9 : IX τc_75 := hI_74
                  obtain ⟨rfl, rfl⟩ := Prod.mk.inj (show (vc_76, τc_75) = (R1, R2) from hR)
                  rw [hQ]
                  refine W.widen (k := 1) (n := 9) (Nat.le_of_ble_eq_true rfl) (Nat.le_of_ble_eq_true rfl) ?_
                  exact W.iret (v := vc_76) hx hb hr (fun t ht hW => ⟨⟨vc_76, (), rfl, rfl, pa, ⟨by rw [ht]; exact hP, va_K.moved hW.alike hK, by rw [← hAe]; exact hD⟩, hI9⟩, hS.F ht⟩) hS.2.2 dX8_right_86
            · have hR := (if_pos c_44).symm.trans hR
              refine lv_aload_n hx hb dX8_right_60 rfl (lv_at hl 0 rfl) ?_
              refine lv_iconst (v := (-1 : Int32)) hx hb dX8_right_61 (by decide) ?_
              have hF := pw_free hD hS hA
              refine va_calli (va_runV (As := [.int (-1 : Int32)]) (rest := []) ⟨hx, hb, hml, hown, hts⟩ (k_X8_refuse l D ca h ad pa tb σ (-1 : Int32) H.size hI _ _ (Prod.eta _).symm) (cwV 1 hts gX8_right_X8_refuse rfl rfl rfl (by decide +kernel) ⟨Nat.le_of_ble_eq_true rfl, Nat.le_of_ble_eq_true rfl⟩) ⟨cw_blind, va_recv hK hP (ci := 8) (q0 := 0) rfl wc_0, cw_give hP hK hD hZ hS hF⟩ rfl rfl hl.1 rfl (lv_room (Nat.le_of_ble_eq_true rfl)) dX8_right_62 ⟨Nat.le_of_ble_eq_true rfl, Nat.le_of_ble_eq_true rfl⟩) hS (fun q _ h => hF q h) hF (fun r_77 u t H1 locs ht hvm hw hB hz1 hk1 hS => ?_)
              rw [hw]
              obtain ⟨hB, hI_78⟩ := hB
              obtain ⟨hP, hD⟩ := pw_back hF ht hB
              clear hB hk1 hz1 hF
              generalize H1 = H at hP hS ⊢
              obtain ⟨τc_79, hτc_79⟩ : ∃ t9, (s_X8_refuse σ (-1 : Int32)).2 = t9 := ⟨_, rfl⟩
              rw [hτc_79] at hP hD hI_78
              (try rw [hτc_79] at hR)
              obtain ⟨vc_80, hvc_80⟩ : ∃ t9, (s_X8_refuse σ (-1 : Int32)).1 = t9 := ⟨_, rfl⟩
              rw [hvc_80]
              (try rw [hvc_80] at hR)
              have hI9 : IX τc_79 := hI_78
              obtain ⟨rfl, rfl⟩ := Prod.mk.inj (show (vc_80, τc_79) = (R1, R2) from hR)
              rw [hQ]
              refine W.widen (k := 1) (n := 9) (Nat.le_of_ble_eq_true rfl) (Nat.le_of_ble_eq_true rfl) ?_
              exact W.iret (v := vc_80) hx hb hr (fun t ht hW => ⟨⟨vc_80, (), rfl, rfl, pa, ⟨by rw [ht]; exact hP, va_K.moved hW.alike hK, by rw [← hAe]; exact hD⟩, hI9⟩, hS.F ht⟩) hS.2.2 dX8_right_65
        · have hR := (if_pos c_9).symm.trans hR
          refine lv_aload_n hx hb dX8_right_40 rfl (lv_at hl 0 rfl) ?_
          refine lv_iconst (v := (-1 : Int32)) hx hb dX8_right_41 (by decide) ?_
          have hF := pw_free hD hS hA
          refine va_calli (va_runV (As := [.int (-1 : Int32)]) (rest := []) ⟨hx, hb, hml, hown, hts⟩ (k_X8_refuse l D ca h ad pa tb σ (-1 : Int32) H.size hI _ _ (Prod.eta _).symm) (cwV 1 hts gX8_right_X8_refuse rfl rfl rfl (by decide +kernel) ⟨Nat.le_of_ble_eq_true rfl, Nat.le_of_ble_eq_true rfl⟩) ⟨cw_blind, va_recv hK hP (ci := 8) (q0 := 0) rfl wc_0, cw_give hP hK hD hZ hS hF⟩ rfl rfl hl.1 rfl (lv_room (Nat.le_of_ble_eq_true rfl)) dX8_right_42 ⟨Nat.le_of_ble_eq_true rfl, Nat.le_of_ble_eq_true rfl⟩) hS (fun q _ h => hF q h) hF (fun r_81 u t H1 locs ht hvm hw hB hz1 hk1 hS => ?_)
          rw [hw]
          obtain ⟨hB, hI_82⟩ := hB
          obtain ⟨hP, hD⟩ := pw_back hF ht hB
          clear hB hk1 hz1 hF
          generalize H1 = H at hP hS ⊢
          obtain ⟨τc_83, hτc_83⟩ : ∃ t9, (s_X8_refuse σ (-1 : Int32)).2 = t9 := ⟨_, rfl⟩
          rw [hτc_83] at hP hD hI_82
          (try rw [hτc_83] at hR)
          obtain ⟨vc_84, hvc_84⟩ : ∃ t9, (s_X8_refuse σ (-1 : Int32)).1 = t9 := ⟨_, rfl⟩
          rw [hvc_84]
          (try rw [hvc_84] at hR)
          have hI9 : IX τc_83 := hI_82
          obtain ⟨rfl, rfl⟩ := Prod.mk.inj (show (vc_84, τc_83) = (R1, R2) from hR)
          rw [hQ]
          refine W.widen (k := 1) (n := 9) (Nat.le_of_ble_eq_true rfl) (Nat.le_of_ble_eq_true rfl) ?_
          exact W.iret (v := vc_84) hx hb hr (fun t ht hW => ⟨⟨vc_84, (), rfl, rfl, pa, ⟨by rw [ht]; exact hP, va_K.moved hW.alike hK, by rw [← hAe]; exact hD⟩, hI9⟩, hS.F ht⟩) hS.2.2 dX8_right_45
      · have hR := (if_pos c_7).symm.trans hR
        refine lv_aload_n hx hb dX8_right_21 rfl (lv_at hl 0 rfl) ?_
        refine lv_iload_n hx hb dX8_right_22 rfl (lv_at hl 2 rfl) ?_
        have hF := pw_free hD hS hA
        refine va_calli (va_runV (As := [.int a2]) (rest := []) ⟨hx, hb, hml, hown, hts⟩ (k_X8_isHouse l D ca h ad pa tb σ a2 H.size hI _ rfl) (cwV 1 hts gX8_right_X8_isHouse rfl rfl rfl (by decide +kernel) ⟨Nat.le_of_ble_eq_true rfl, Nat.le_of_ble_eq_true rfl⟩) ⟨cw_blind, va_recv hK hP (ci := 8) (q0 := 0) rfl wc_0, cw_give hP hK hD hZ hS hF⟩ rfl rfl hl.1 rfl (lv_room (Nat.le_of_ble_eq_true rfl)) dX8_right_23 ⟨Nat.le_of_ble_eq_true rfl, Nat.le_of_ble_eq_true rfl⟩) hS (fun q _ h => hF q h) hF (fun r_85 u t H1 locs ht hvm hw hB hz1 hk1 hS => ?_)
        rw [hw]
        obtain ⟨hP, hD⟩ := pw_back hF ht hB
        clear hB hk1 hz1 hF
        generalize H1 = H at hP hS ⊢
        refine lv_if_ne (tgt := 46) hx hb dX8_right_26 (by decide) (fun c_86 => ?_) (fun c_86 => ?_)
        · have hR := (if_neg c_86).symm.trans hR
          refine lv_iload_n hx hb dX8_right_46 rfl (lv_at hl 1 rfl) ?_
          refine lv_iconst (v := (3 : Int32)) hx hb dX8_right_47 (by decide) ?_
          refine lv_icmp_ne (tgt := 66) hx hb dX8_right_48 (by decide) (fun c_87 => ?_) (fun c_87 => ?_)
          · have hR := (if_neg c_87).symm.trans hR
            refine lv_iload_n hx hb dX8_right_66 rfl (lv_at hl 3 rfl) ?_
            refine lv_iconst (v := (1 : Int32)) hx hb dX8_right_67 (by decide) ?_
            refine lv_icmp_lt (tgt := 80) hx hb dX8_right_68 (by decide) (fun c_88 => ?_) (fun c_88 => ?_)
            · have hR := (if_pos c_88).symm.trans hR
              refine lv_aload_n hx hb dX8_right_80 rfl (lv_at hl 0 rfl) ?_
              refine lv_bipush (v := (-4 : Int32)) hx hb dX8_right_81 (by decide) ?_
              have hF := pw_free hD hS hA
              refine va_calli (va_runV (As := [.int (-4 : Int32)]) (rest := []) ⟨hx, hb, hml, hown, hts⟩ (k_X8_refuse l D ca h ad pa tb σ (-4 : Int32) H.size hI _ _ (Prod.eta _).symm) (cwV 1 hts gX8_right_X8_refuse rfl rfl rfl (by decide +kernel) ⟨Nat.le_of_ble_eq_true rfl, Nat.le_of_ble_eq_true rfl⟩) ⟨cw_blind, va_recv hK hP (ci := 8) (q0 := 0) rfl wc_0, cw_give hP hK hD hZ hS hF⟩ rfl rfl hl.1 rfl (lv_room (Nat.le_of_ble_eq_true rfl)) dX8_right_83 ⟨Nat.le_of_ble_eq_true rfl, Nat.le_of_ble_eq_true rfl⟩) hS (fun q _ h => hF q h) hF (fun r_89 u t H1 locs ht hvm hw hB hz1 hk1 hS => ?_)
              rw [hw]
              obtain ⟨hB, hI_90⟩ := hB
              obtain ⟨hP, hD⟩ := pw_back hF ht hB
              clear hB hk1 hz1 hF
              generalize H1 = H at hP hS ⊢
              obtain ⟨τc_91, hτc_91⟩ : ∃ t9, (s_X8_refuse σ (-4 : Int32)).2 = t9 := ⟨_, rfl⟩
              rw [hτc_91] at hP hD hI_90
              (try rw [hτc_91] at hR)
              obtain ⟨vc_92, hvc_92⟩ : ∃ t9, (s_X8_refuse σ (-4 : Int32)).1 = t9 := ⟨_, rfl⟩
              rw [hvc_92]
              (try rw [hvc_92] at hR)
              have hI9 : IX τc_91 := hI_90
              obtain ⟨rfl, rfl⟩ := Prod.mk.inj (show (vc_92, τc_91) = (R1, R2) from hR)
              rw [hQ]
              refine W.widen (k := 1) (n := 9) (Nat.le_of_ble_eq_true rfl) (Nat.le_of_ble_eq_true rfl) ?_
              exact W.iret (v := vc_92) hx hb hr (fun t ht hW => ⟨⟨vc_92, (), rfl, rfl, pa, ⟨by rw [ht]; exact hP, va_K.moved hW.alike hK, by rw [← hAe]; exact hD⟩, hI9⟩, hS.F ht⟩) hS.2.2 dX8_right_86
            · have hR := (if_neg c_88).symm.trans hR
              refine lv_iload hx hb dX8_right_71 (lv_at hl 4 rfl) ?_
              refine lv_aload_n hx hb dX8_right_73 rfl (lv_at hl 0 rfl) ?_
              refine va_get (D := D) (ci := 8) (v := .int (σ 816 0)) (C := RX8) (T := TX8) (N := 19) hx hb hts hu8 hown hK hP 0 wc_0 rfl 16 (by decide) (hts (.fieldLink RX8 91 "GrazeBook" "day" "I") (List.mem_cons_of_mem _ mw_226)) (fun _ h9 => h9) rfl dX8_right_74 ?_
              refine lv_icmp_ge (tgt := 87) hx hb dX8_right_77 (by decide) (fun c_93 => ?_) (fun c_93 => ?_)
              · have hR := (if_pos c_93).symm.trans hR
                refine lv_iload_n hx hb dX8_right_87 rfl (lv_at hl 3 rfl) ?_
                refine lv_sipush (v := (10000 : Int32)) hx hb dX8_right_88 (by decide) ?_
                refine lv_icmp_gt (tgt := 111) hx hb dX8_right_91 (by decide) (fun c_94 => ?_) (fun c_94 => ?_)
                · have hR := (if_pos c_94).symm.trans hR
                  refine lv_aload_n hx hb dX8_right_111 rfl (lv_at hl 0 rfl) ?_
                  refine lv_bipush (v := (-6 : Int32)) hx hb dX8_right_112 (by decide) ?_
                  have hF := pw_free hD hS hA
                  refine va_calli (va_runV (As := [.int (-6 : Int32)]) (rest := []) ⟨hx, hb, hml, hown, hts⟩ (k_X8_refuse l D ca h ad pa tb σ (-6 : Int32) H.size hI _ _ (Prod.eta _).symm) (cwV 1 hts gX8_right_X8_refuse rfl rfl rfl (by decide +kernel) ⟨Nat.le_of_ble_eq_true rfl, Nat.le_of_ble_eq_true rfl⟩) ⟨cw_blind, va_recv hK hP (ci := 8) (q0 := 0) rfl wc_0, cw_give hP hK hD hZ hS hF⟩ rfl rfl hl.1 rfl (lv_room (Nat.le_of_ble_eq_true rfl)) dX8_right_114 ⟨Nat.le_of_ble_eq_true rfl, Nat.le_of_ble_eq_true rfl⟩) hS (fun q _ h => hF q h) hF (fun r_95 u t H1 locs ht hvm hw hB hz1 hk1 hS => ?_)
                  rw [hw]
                  obtain ⟨hB, hI_96⟩ := hB
                  obtain ⟨hP, hD⟩ := pw_back hF ht hB
                  clear hB hk1 hz1 hF
                  generalize H1 = H at hP hS ⊢
                  obtain ⟨τc_97, hτc_97⟩ : ∃ t9, (s_X8_refuse σ (-6 : Int32)).2 = t9 := ⟨_, rfl⟩
                  rw [hτc_97] at hP hD hI_96
                  (try rw [hτc_97] at hR)
                  obtain ⟨vc_98, hvc_98⟩ : ∃ t9, (s_X8_refuse σ (-6 : Int32)).1 = t9 := ⟨_, rfl⟩
                  rw [hvc_98]
                  (try rw [hvc_98] at hR)
                  have hI9 : IX τc_97 := hI_96
                  obtain ⟨rfl, rfl⟩ := Prod.mk.inj (show (vc_98, τc_97) = (R1, R2) from hR)
                  rw [hQ]
                  refine W.widen (k := 1) (n := 9) (Nat.le_of_ble_eq_true rfl) (Nat.le_of_ble_eq_true rfl) ?_
                  exact W.iret (v := vc_98) hx hb hr (fun t ht hW => ⟨⟨vc_98, (), rfl, rfl, pa, ⟨by rw [ht]; exact hP, va_K.moved hW.alike hK, by rw [← hAe]; exact hD⟩, hI9⟩, hS.F ht⟩) hS.2.2 dX8_right_117
                · have hR := (if_neg c_94).symm.trans hR
                  refine lv_iload hx hb dX8_right_94 (lv_at hl 4 rfl) ?_
                  refine lv_sipush (v := (720 : Int32)) hx hb dX8_right_96 (by decide) ?_
                  refine lv_icmp_gt (tgt := 111) hx hb dX8_right_99 (by decide) (fun c_99 => ?_) (fun c_99 => ?_)
                  · have hR := (if_pos c_99).symm.trans hR
                    refine lv_aload_n hx hb dX8_right_111 rfl (lv_at hl 0 rfl) ?_
                    refine lv_bipush (v := (-6 : Int32)) hx hb dX8_right_112 (by decide) ?_
                    have hF := pw_free hD hS hA
                    refine va_calli (va_runV (As := [.int (-6 : Int32)]) (rest := []) ⟨hx, hb, hml, hown, hts⟩ (k_X8_refuse l D ca h ad pa tb σ (-6 : Int32) H.size hI _ _ (Prod.eta _).symm) (cwV 1 hts gX8_right_X8_refuse rfl rfl rfl (by decide +kernel) ⟨Nat.le_of_ble_eq_true rfl, Nat.le_of_ble_eq_true rfl⟩) ⟨cw_blind, va_recv hK hP (ci := 8) (q0 := 0) rfl wc_0, cw_give hP hK hD hZ hS hF⟩ rfl rfl hl.1 rfl (lv_room (Nat.le_of_ble_eq_true rfl)) dX8_right_114 ⟨Nat.le_of_ble_eq_true rfl, Nat.le_of_ble_eq_true rfl⟩) hS (fun q _ h => hF q h) hF (fun r_100 u t H1 locs ht hvm hw hB hz1 hk1 hS => ?_)
                    rw [hw]
                    obtain ⟨hB, hI_101⟩ := hB
                    obtain ⟨hP, hD⟩ := pw_back hF ht hB
                    clear hB hk1 hz1 hF
                    generalize H1 = H at hP hS ⊢
                    obtain ⟨τc_102, hτc_102⟩ : ∃ t9, (s_X8_refuse σ (-6 : Int32)).2 = t9 := ⟨_, rfl⟩
                    rw [hτc_102] at hP hD hI_101
                    (try rw [hτc_102] at hR)
                    obtain ⟨vc_103, hvc_103⟩ : ∃ t9, (s_X8_refuse σ (-6 : Int32)).1 = t9 := ⟨_, rfl⟩
                    rw [hvc_103]
                    (try rw [hvc_103] at hR)
                    have hI9 : IX τc_102 := hI_101
                    obtain ⟨rfl, rfl⟩ := Prod.mk.inj (show (vc_103, τc_102) = (R1, R2) from hR)
                    rw [hQ]
                    refine W.widen (k := 1) (n := 9) (Nat.le_of_ble_eq_true rfl) (Nat.le_of_ble_eq_true rfl) ?_
                    exact W.iret (v := vc_103) hx hb hr (fun t ht hW => ⟨⟨vc_103, (), rfl, rfl, pa, ⟨by rw [ht]; exact hP, va_K.moved hW.alike hK, by rw [← hAe]; exact hD⟩, hI9⟩, hS.F ht⟩) hS.2.2 dX8_right_117
                  · have hR := (if_neg c_99).symm.trans hR
                    refine lv_aload_n hx hb dX8_right_102 rfl (lv_at hl 0 rfl) ?_
                    refine va_get (D := D) (ci := 8) (v := .int (σ 814 0)) (C := RX8) (T := TX8) (N := 19) hx hb hts hu8 hown hK hP 0 wc_0 rfl 14 (by decide) (hts (.fieldLink RX8 85 "GrazeBook" "rightCount" "I") (List.mem_cons_of_mem _ mw_224)) (fun _ h9 => h9) rfl dX8_right_103 ?_
                    refine lv_bipush (v := (60 : Int32)) hx hb dX8_right_106 (by decide) ?_
                    refine lv_icmp_lt (tgt := 118) hx hb dX8_right_108 (by decide) (fun c_104 => ?_) (fun c_104 => ?_)
                    · have hR := (if_pos c_104).symm.trans hR
                      refine lv_aload_n hx hb dX8_right_118 rfl (lv_at hl 0 rfl) ?_
                      refine va_new (ci := 0) (fs := [.int (0 : Int32), .int (0 : Int32), .int (0 : Int32), .int (0 : Int32), .int (0 : Int32), .int (0 : Int32), .int (0 : Int32), .int (0 : Int32), .int (0 : Int32)]) (C := RX0) (T := TX0) (N := 9) hx hb hts hu0 tyX0 tyX0_ok hown (hts (.classLink RX8 32 RX0) (List.mem_cons_of_mem _ mw_96)) (hts (.instantiable RX0 9) (List.mem_cons_of_mem _ mw_352)) (hts (.initialized RX0) (List.mem_cons_of_mem _ mw_66)) hK hP hD hS hA rfl (fun j hj => by rcases (show j = 0 ∨ j = 1 ∨ j = 2 ∨ j = 3 ∨ j = 4 ∨ j = 5 ∨ j = 6 ∨ j = 7 ∨ j = 8 by omega) with rfl | rfl | rfl | rfl | rfl | rfl | rfl | rfl | rfl <;> rfl) (Nat.le_of_ble_eq_true rfl) (Nat.le_of_ble_eq_true rfl) dX8_right_119 (fun q_105 H hP hD hS => ?_)
                      refine W.widen (k := 1) (n := 9) (Nat.le_refl _) (Nat.le_refl _) ?_
                      refine lv_dup hx hb dX8_right_122 rfl ?_
                      refine lv_iload_n hx hb dX8_right_123 rfl (lv_at hl 1 rfl) ?_
                      refine lv_iload_n hx hb dX8_right_124 rfl (lv_at hl 2 rfl) ?_
                      refine lv_iload_n hx hb dX8_right_125 rfl (lv_at hl 3 rfl) ?_
                      refine lv_aload_n hx hb dX8_right_126 rfl (lv_at hl 0 rfl) ?_
                      refine va_get (D := D) (ci := 8) (v := .int (σ 816 0)) (C := RX8) (T := TX8) (N := 19) hx hb hts hu8 hown hK hP 0 rfl rfl 16 (by decide) (hts (.fieldLink RX8 91 "GrazeBook" "day" "I") (List.mem_cons_of_mem _ mw_226)) (fun _ h9 => h9) rfl dX8_right_127 ?_
                      refine lv_iload hx hb dX8_right_130 (lv_at hl 4 rfl) ?_
                      refine lv_iload_n hx hb dX8_right_132 rfl (lv_at hl 1 rfl) ?_
                      refine lv_iconst (v := (3 : Int32)) hx hb dX8_right_133 (by decide) ?_
                      refine lv_icmp_ne (tgt := 142) hx hb dX8_right_134 (by decide) (fun _ => ?_) (fun c_106 => absurd c_106 c_87)
                      refine lv_bipush (v := (-9 : Int32)) hx hb dX8_right_142 (by decide) ?_
                      refine lv_bipush (v := (-9 : Int32)) hx hb dX8_right_144 (by decide) ?_
                      have hF := nw_F hD hS hA
                      refine va_callv (va_runI (As := [.int a1, .int a2, .int a3, .int (σ 816 0), .int a4, .int (-9 : Int32), .int (-9 : Int32)]) (rest := [.ref q_105, .ref h]) ⟨hx, hb, hml, hown, hts⟩ (k_X0_init l D ca q_105 a1 a2 a3 (σ 816 0) a4 (-9 : Int32) (-9 : Int32) H.size ) (cwI 7 hts gX8_right_X0_init rfl rfl rfl (hts (.initialized RX0) (List.mem_cons_of_mem _ mw_66)) (hts (.methodLink RX8 130 yX0_init) (List.mem_cons_of_mem _ mw_353)) (hts (.instanceMethod yX0_init) (List.mem_cons_of_mem _ mw_354)) rfl (by decide +kernel) ⟨Nat.le_of_ble_eq_true rfl, Nat.le_of_ble_eq_true rfl⟩) ⟨pw_blind, pw_give (nw_P hP) hK (nw_D hD)⟩ rfl rfl hl.1 rfl (lv_room (Nat.le_of_ble_eq_true rfl)) dX8_right_146 ⟨Nat.le_of_ble_eq_true rfl, Nat.le_of_ble_eq_true rfl⟩) hS (fun q _ h => hF q h) hF (fun u t H1 locs ht hvm hw hB hz1 hk1 hS => ?_)
                      obtain ⟨hP, hD⟩ := nw_back hP hD hk1 ht hB
                      clear hB hk1 hz1 hF
                      generalize H1 = H at hP hS ⊢
                      have hF := pw_free hD hS hA
                      refine va_calli (va_runV (As := [.ref q_105]) (rest := []) ⟨hx, hb, hml, hown, hts⟩ (k_X8_addRight l D ca h ad pa tb σ q_105 a1 a3 (σ 816 0) a4 (-9 : Int32) (-9 : Int32) a2 (-9 : Int32) (0 : Int32) H.size hI (ix_ltn (ix_814 hI) c_104 (by decide)) _ _ (Prod.eta _).symm) (cwV 1 hts gX8_right_X8_addRight rfl rfl rfl (by decide +kernel) ⟨Nat.le_of_ble_eq_true rfl, Nat.le_of_ble_eq_true rfl⟩) ⟨cw_blind, va_recv hK hP (ci := 8) (q0 := 0) rfl rfl, cw_give hP hK hD hZ hS hF⟩ rfl rfl hl.1 rfl (lv_room (Nat.le_of_ble_eq_true rfl)) dX8_right_149 ⟨Nat.le_of_ble_eq_true rfl, Nat.le_of_ble_eq_true rfl⟩) hS (fun q _ h => hF q h) hF (fun r_107 u t H1 locs ht hvm hw hB hz1 hk1 hS => ?_)
                      rw [hw]
                      obtain ⟨pa_108, hB⟩ := hB
                      obtain ⟨hB, hI_109⟩ := hB
                      obtain ⟨hP, hD⟩ := pw_back hF ht hB
                      clear hB hk1 hz1 hF
                      generalize H1 = H at hP hS ⊢
                      obtain ⟨τc_110, hτc_110⟩ : ∃ t9, (s_X8_addRight σ a1 a3 (σ 816 0) a4 (-9 : Int32) (-9 : Int32) a2 (-9 : Int32) (0 : Int32)).2 = t9 := ⟨_, rfl⟩
                      rw [hτc_110] at hP hD hI_109
                      (try rw [hτc_110] at hR)
                      obtain ⟨vc_111, hvc_111⟩ : ∃ t9, (s_X8_addRight σ a1 a3 (σ 816 0) a4 (-9 : Int32) (-9 : Int32) a2 (-9 : Int32) (0 : Int32)).1 = t9 := ⟨_, rfl⟩
                      rw [hvc_111]
                      (try rw [hvc_111] at hR)
                      have hI9 : IX τc_110 := hI_109
                      obtain ⟨rfl, rfl⟩ := Prod.mk.inj (show (vc_111, τc_110) = (R1, R2) from hR)
                      rw [hQ]
                      exact W.iret (v := vc_111) hx hb hr (fun t ht hW => ⟨⟨vc_111, (), rfl, rfl, pa_108, ⟨by rw [ht]; exact hP, va_K.moved hW.alike hK, by rw [← hAe]; exact hD⟩, hI9⟩, hS.F ht⟩) hS.2.2 dX8_right_152
                    · have hR := (if_neg c_104).symm.trans hR
                      refine lv_aload_n hx hb dX8_right_111 rfl (lv_at hl 0 rfl) ?_
                      refine lv_bipush (v := (-6 : Int32)) hx hb dX8_right_112 (by decide) ?_
                      have hF := pw_free hD hS hA
                      refine va_calli (va_runV (As := [.int (-6 : Int32)]) (rest := []) ⟨hx, hb, hml, hown, hts⟩ (k_X8_refuse l D ca h ad pa tb σ (-6 : Int32) H.size hI _ _ (Prod.eta _).symm) (cwV 1 hts gX8_right_X8_refuse rfl rfl rfl (by decide +kernel) ⟨Nat.le_of_ble_eq_true rfl, Nat.le_of_ble_eq_true rfl⟩) ⟨cw_blind, va_recv hK hP (ci := 8) (q0 := 0) rfl wc_0, cw_give hP hK hD hZ hS hF⟩ rfl rfl hl.1 rfl (lv_room (Nat.le_of_ble_eq_true rfl)) dX8_right_114 ⟨Nat.le_of_ble_eq_true rfl, Nat.le_of_ble_eq_true rfl⟩) hS (fun q _ h => hF q h) hF (fun r_112 u t H1 locs ht hvm hw hB hz1 hk1 hS => ?_)
                      rw [hw]
                      obtain ⟨hB, hI_113⟩ := hB
                      obtain ⟨hP, hD⟩ := pw_back hF ht hB
                      clear hB hk1 hz1 hF
                      generalize H1 = H at hP hS ⊢
                      obtain ⟨τc_114, hτc_114⟩ : ∃ t9, (s_X8_refuse σ (-6 : Int32)).2 = t9 := ⟨_, rfl⟩
                      rw [hτc_114] at hP hD hI_113
                      (try rw [hτc_114] at hR)
                      obtain ⟨vc_115, hvc_115⟩ : ∃ t9, (s_X8_refuse σ (-6 : Int32)).1 = t9 := ⟨_, rfl⟩
                      rw [hvc_115]
                      (try rw [hvc_115] at hR)
                      have hI9 : IX τc_114 := hI_113
                      obtain ⟨rfl, rfl⟩ := Prod.mk.inj (show (vc_115, τc_114) = (R1, R2) from hR)
                      rw [hQ]
                      refine W.widen (k := 1) (n := 9) (Nat.le_of_ble_eq_true rfl) (Nat.le_of_ble_eq_true rfl) ?_
                      exact W.iret (v := vc_115) hx hb hr (fun t ht hW => ⟨⟨vc_115, (), rfl, rfl, pa, ⟨by rw [ht]; exact hP, va_K.moved hW.alike hK, by rw [← hAe]; exact hD⟩, hI9⟩, hS.F ht⟩) hS.2.2 dX8_right_117
              · have hR := (if_neg c_93).symm.trans hR
                refine lv_aload_n hx hb dX8_right_80 rfl (lv_at hl 0 rfl) ?_
                refine lv_bipush (v := (-4 : Int32)) hx hb dX8_right_81 (by decide) ?_
                have hF := pw_free hD hS hA
                refine va_calli (va_runV (As := [.int (-4 : Int32)]) (rest := []) ⟨hx, hb, hml, hown, hts⟩ (k_X8_refuse l D ca h ad pa tb σ (-4 : Int32) H.size hI _ _ (Prod.eta _).symm) (cwV 1 hts gX8_right_X8_refuse rfl rfl rfl (by decide +kernel) ⟨Nat.le_of_ble_eq_true rfl, Nat.le_of_ble_eq_true rfl⟩) ⟨cw_blind, va_recv hK hP (ci := 8) (q0 := 0) rfl wc_0, cw_give hP hK hD hZ hS hF⟩ rfl rfl hl.1 rfl (lv_room (Nat.le_of_ble_eq_true rfl)) dX8_right_83 ⟨Nat.le_of_ble_eq_true rfl, Nat.le_of_ble_eq_true rfl⟩) hS (fun q _ h => hF q h) hF (fun r_116 u t H1 locs ht hvm hw hB hz1 hk1 hS => ?_)
                rw [hw]
                obtain ⟨hB, hI_117⟩ := hB
                obtain ⟨hP, hD⟩ := pw_back hF ht hB
                clear hB hk1 hz1 hF
                generalize H1 = H at hP hS ⊢
                obtain ⟨τc_118, hτc_118⟩ : ∃ t9, (s_X8_refuse σ (-4 : Int32)).2 = t9 := ⟨_, rfl⟩
                rw [hτc_118] at hP hD hI_117
                (try rw [hτc_118] at hR)
                obtain ⟨vc_119, hvc_119⟩ : ∃ t9, (s_X8_refuse σ (-4 : Int32)).1 = t9 := ⟨_, rfl⟩
                rw [hvc_119]
                (try rw [hvc_119] at hR)
                have hI9 : IX τc_118 := hI_117
                obtain ⟨rfl, rfl⟩ := Prod.mk.inj (show (vc_119, τc_118) = (R1, R2) from hR)
                rw [hQ]
                refine W.widen (k := 1) (n := 9) (Nat.le_of_ble_eq_true rfl) (Nat.le_of_ble_eq_true rfl) ?_
                exact W.iret (v := vc_119) hx hb hr (fun t ht hW => ⟨⟨vc_119, (), rfl, rfl, pa, ⟨by rw [ht]; exact hP, va_K.moved hW.alike hK, by rw [← hAe]; exact hD⟩, hI9⟩, hS.F ht⟩) hS.2.2 dX8_right_86
          · have hR := (if_pos c_87).symm.trans hR
            refine lv_aload_n hx hb dX8_right_51 rfl (lv_at hl 0 rfl) ?_
            refine lv_iload hx hb dX8_right_52 (lv_at hl 5 rfl) ?_
            have hF := pw_free hD hS hA
            refine va_calli (va_runV (As := [.int a5]) (rest := []) ⟨hx, hb, hml, hown, hts⟩ (k_X8_isPiece l D ca h ad pa tb σ a5 H.size hI _ rfl) (cwV 1 hts gX8_right_X8_isPiece rfl rfl rfl (by decide +kernel) ⟨Nat.le_of_ble_eq_true rfl, Nat.le_of_ble_eq_true rfl⟩) ⟨cw_blind, va_recv hK hP (ci := 8) (q0 := 0) rfl wc_0, cw_give hP hK hD hZ hS hF⟩ rfl rfl hl.1 rfl (lv_room (Nat.le_of_ble_eq_true rfl)) dX8_right_54 ⟨Nat.le_of_ble_eq_true rfl, Nat.le_of_ble_eq_true rfl⟩) hS (fun q _ h => hF q h) hF (fun r_120 u t H1 locs ht hvm hw hB hz1 hk1 hS => ?_)
            rw [hw]
            obtain ⟨hP, hD⟩ := pw_back hF ht hB
            clear hB hk1 hz1 hF
            generalize H1 = H at hP hS ⊢
            refine lv_if_ne (tgt := 66) hx hb dX8_right_57 (by decide) (fun c_121 => ?_) (fun c_121 => ?_)
            · have hR := (if_neg c_121).symm.trans hR
              refine lv_iload_n hx hb dX8_right_66 rfl (lv_at hl 3 rfl) ?_
              refine lv_iconst (v := (1 : Int32)) hx hb dX8_right_67 (by decide) ?_
              refine lv_icmp_lt (tgt := 80) hx hb dX8_right_68 (by decide) (fun c_122 => ?_) (fun c_122 => ?_)
              · have hR := (if_pos c_122).symm.trans hR
                refine lv_aload_n hx hb dX8_right_80 rfl (lv_at hl 0 rfl) ?_
                refine lv_bipush (v := (-4 : Int32)) hx hb dX8_right_81 (by decide) ?_
                have hF := pw_free hD hS hA
                refine va_calli (va_runV (As := [.int (-4 : Int32)]) (rest := []) ⟨hx, hb, hml, hown, hts⟩ (k_X8_refuse l D ca h ad pa tb σ (-4 : Int32) H.size hI _ _ (Prod.eta _).symm) (cwV 1 hts gX8_right_X8_refuse rfl rfl rfl (by decide +kernel) ⟨Nat.le_of_ble_eq_true rfl, Nat.le_of_ble_eq_true rfl⟩) ⟨cw_blind, va_recv hK hP (ci := 8) (q0 := 0) rfl wc_0, cw_give hP hK hD hZ hS hF⟩ rfl rfl hl.1 rfl (lv_room (Nat.le_of_ble_eq_true rfl)) dX8_right_83 ⟨Nat.le_of_ble_eq_true rfl, Nat.le_of_ble_eq_true rfl⟩) hS (fun q _ h => hF q h) hF (fun r_123 u t H1 locs ht hvm hw hB hz1 hk1 hS => ?_)
                rw [hw]
                obtain ⟨hB, hI_124⟩ := hB
                obtain ⟨hP, hD⟩ := pw_back hF ht hB
                clear hB hk1 hz1 hF
                generalize H1 = H at hP hS ⊢
                obtain ⟨τc_125, hτc_125⟩ : ∃ t9, (s_X8_refuse σ (-4 : Int32)).2 = t9 := ⟨_, rfl⟩
                rw [hτc_125] at hP hD hI_124
                (try rw [hτc_125] at hR)
                obtain ⟨vc_126, hvc_126⟩ : ∃ t9, (s_X8_refuse σ (-4 : Int32)).1 = t9 := ⟨_, rfl⟩
                rw [hvc_126]
                (try rw [hvc_126] at hR)
                have hI9 : IX τc_125 := hI_124
                obtain ⟨rfl, rfl⟩ := Prod.mk.inj (show (vc_126, τc_125) = (R1, R2) from hR)
                rw [hQ]
                refine W.widen (k := 1) (n := 9) (Nat.le_of_ble_eq_true rfl) (Nat.le_of_ble_eq_true rfl) ?_
                exact W.iret (v := vc_126) hx hb hr (fun t ht hW => ⟨⟨vc_126, (), rfl, rfl, pa, ⟨by rw [ht]; exact hP, va_K.moved hW.alike hK, by rw [← hAe]; exact hD⟩, hI9⟩, hS.F ht⟩) hS.2.2 dX8_right_86
              · have hR := (if_neg c_122).symm.trans hR
                refine lv_iload hx hb dX8_right_71 (lv_at hl 4 rfl) ?_
                refine lv_aload_n hx hb dX8_right_73 rfl (lv_at hl 0 rfl) ?_
                refine va_get (D := D) (ci := 8) (v := .int (σ 816 0)) (C := RX8) (T := TX8) (N := 19) hx hb hts hu8 hown hK hP 0 wc_0 rfl 16 (by decide) (hts (.fieldLink RX8 91 "GrazeBook" "day" "I") (List.mem_cons_of_mem _ mw_226)) (fun _ h9 => h9) rfl dX8_right_74 ?_
                refine lv_icmp_ge (tgt := 87) hx hb dX8_right_77 (by decide) (fun c_127 => ?_) (fun c_127 => ?_)
                · have hR := (if_pos c_127).symm.trans hR
                  refine lv_iload_n hx hb dX8_right_87 rfl (lv_at hl 3 rfl) ?_
                  refine lv_sipush (v := (10000 : Int32)) hx hb dX8_right_88 (by decide) ?_
                  refine lv_icmp_gt (tgt := 111) hx hb dX8_right_91 (by decide) (fun c_128 => ?_) (fun c_128 => ?_)
                  · have hR := (if_pos c_128).symm.trans hR
                    refine lv_aload_n hx hb dX8_right_111 rfl (lv_at hl 0 rfl) ?_
                    refine lv_bipush (v := (-6 : Int32)) hx hb dX8_right_112 (by decide) ?_
                    have hF := pw_free hD hS hA
                    refine va_calli (va_runV (As := [.int (-6 : Int32)]) (rest := []) ⟨hx, hb, hml, hown, hts⟩ (k_X8_refuse l D ca h ad pa tb σ (-6 : Int32) H.size hI _ _ (Prod.eta _).symm) (cwV 1 hts gX8_right_X8_refuse rfl rfl rfl (by decide +kernel) ⟨Nat.le_of_ble_eq_true rfl, Nat.le_of_ble_eq_true rfl⟩) ⟨cw_blind, va_recv hK hP (ci := 8) (q0 := 0) rfl wc_0, cw_give hP hK hD hZ hS hF⟩ rfl rfl hl.1 rfl (lv_room (Nat.le_of_ble_eq_true rfl)) dX8_right_114 ⟨Nat.le_of_ble_eq_true rfl, Nat.le_of_ble_eq_true rfl⟩) hS (fun q _ h => hF q h) hF (fun r_129 u t H1 locs ht hvm hw hB hz1 hk1 hS => ?_)
                    rw [hw]
                    obtain ⟨hB, hI_130⟩ := hB
                    obtain ⟨hP, hD⟩ := pw_back hF ht hB
                    clear hB hk1 hz1 hF
                    generalize H1 = H at hP hS ⊢
                    obtain ⟨τc_131, hτc_131⟩ : ∃ t9, (s_X8_refuse σ (-6 : Int32)).2 = t9 := ⟨_, rfl⟩
                    rw [hτc_131] at hP hD hI_130
                    (try rw [hτc_131] at hR)
                    obtain ⟨vc_132, hvc_132⟩ : ∃ t9, (s_X8_refuse σ (-6 : Int32)).1 = t9 := ⟨_, rfl⟩
                    rw [hvc_132]
                    (try rw [hvc_132] at hR)
                    have hI9 : IX τc_131 := hI_130
                    obtain ⟨rfl, rfl⟩ := Prod.mk.inj (show (vc_132, τc_131) = (R1, R2) from hR)
                    rw [hQ]
                    refine W.widen (k := 1) (n := 9) (Nat.le_of_ble_eq_true rfl) (Nat.le_of_ble_eq_true rfl) ?_
                    exact W.iret (v := vc_132) hx hb hr (fun t ht hW => ⟨⟨vc_132, (), rfl, rfl, pa, ⟨by rw [ht]; exact hP, va_K.moved hW.alike hK, by rw [← hAe]; exact hD⟩, hI9⟩, hS.F ht⟩) hS.2.2 dX8_right_117
                  · have hR := (if_neg c_128).symm.trans hR
                    refine lv_iload hx hb dX8_right_94 (lv_at hl 4 rfl) ?_
                    refine lv_sipush (v := (720 : Int32)) hx hb dX8_right_96 (by decide) ?_
                    refine lv_icmp_gt (tgt := 111) hx hb dX8_right_99 (by decide) (fun c_133 => ?_) (fun c_133 => ?_)
                    · have hR := (if_pos c_133).symm.trans hR
                      refine lv_aload_n hx hb dX8_right_111 rfl (lv_at hl 0 rfl) ?_
                      refine lv_bipush (v := (-6 : Int32)) hx hb dX8_right_112 (by decide) ?_
                      have hF := pw_free hD hS hA
                      refine va_calli (va_runV (As := [.int (-6 : Int32)]) (rest := []) ⟨hx, hb, hml, hown, hts⟩ (k_X8_refuse l D ca h ad pa tb σ (-6 : Int32) H.size hI _ _ (Prod.eta _).symm) (cwV 1 hts gX8_right_X8_refuse rfl rfl rfl (by decide +kernel) ⟨Nat.le_of_ble_eq_true rfl, Nat.le_of_ble_eq_true rfl⟩) ⟨cw_blind, va_recv hK hP (ci := 8) (q0 := 0) rfl wc_0, cw_give hP hK hD hZ hS hF⟩ rfl rfl hl.1 rfl (lv_room (Nat.le_of_ble_eq_true rfl)) dX8_right_114 ⟨Nat.le_of_ble_eq_true rfl, Nat.le_of_ble_eq_true rfl⟩) hS (fun q _ h => hF q h) hF (fun r_134 u t H1 locs ht hvm hw hB hz1 hk1 hS => ?_)
                      rw [hw]
                      obtain ⟨hB, hI_135⟩ := hB
                      obtain ⟨hP, hD⟩ := pw_back hF ht hB
                      clear hB hk1 hz1 hF
                      generalize H1 = H at hP hS ⊢
                      obtain ⟨τc_136, hτc_136⟩ : ∃ t9, (s_X8_refuse σ (-6 : Int32)).2 = t9 := ⟨_, rfl⟩
                      rw [hτc_136] at hP hD hI_135
                      (try rw [hτc_136] at hR)
                      obtain ⟨vc_137, hvc_137⟩ : ∃ t9, (s_X8_refuse σ (-6 : Int32)).1 = t9 := ⟨_, rfl⟩
                      rw [hvc_137]
                      (try rw [hvc_137] at hR)
                      have hI9 : IX τc_136 := hI_135
                      obtain ⟨rfl, rfl⟩ := Prod.mk.inj (show (vc_137, τc_136) = (R1, R2) from hR)
                      rw [hQ]
                      refine W.widen (k := 1) (n := 9) (Nat.le_of_ble_eq_true rfl) (Nat.le_of_ble_eq_true rfl) ?_
                      exact W.iret (v := vc_137) hx hb hr (fun t ht hW => ⟨⟨vc_137, (), rfl, rfl, pa, ⟨by rw [ht]; exact hP, va_K.moved hW.alike hK, by rw [← hAe]; exact hD⟩, hI9⟩, hS.F ht⟩) hS.2.2 dX8_right_117
                    · have hR := (if_neg c_133).symm.trans hR
                      refine lv_aload_n hx hb dX8_right_102 rfl (lv_at hl 0 rfl) ?_
                      refine va_get (D := D) (ci := 8) (v := .int (σ 814 0)) (C := RX8) (T := TX8) (N := 19) hx hb hts hu8 hown hK hP 0 wc_0 rfl 14 (by decide) (hts (.fieldLink RX8 85 "GrazeBook" "rightCount" "I") (List.mem_cons_of_mem _ mw_224)) (fun _ h9 => h9) rfl dX8_right_103 ?_
                      refine lv_bipush (v := (60 : Int32)) hx hb dX8_right_106 (by decide) ?_
                      refine lv_icmp_lt (tgt := 118) hx hb dX8_right_108 (by decide) (fun c_138 => ?_) (fun c_138 => ?_)
                      · have hR := (if_pos c_138).symm.trans hR
                        refine lv_aload_n hx hb dX8_right_118 rfl (lv_at hl 0 rfl) ?_
                        refine va_new (ci := 0) (fs := [.int (0 : Int32), .int (0 : Int32), .int (0 : Int32), .int (0 : Int32), .int (0 : Int32), .int (0 : Int32), .int (0 : Int32), .int (0 : Int32), .int (0 : Int32)]) (C := RX0) (T := TX0) (N := 9) hx hb hts hu0 tyX0 tyX0_ok hown (hts (.classLink RX8 32 RX0) (List.mem_cons_of_mem _ mw_96)) (hts (.instantiable RX0 9) (List.mem_cons_of_mem _ mw_352)) (hts (.initialized RX0) (List.mem_cons_of_mem _ mw_66)) hK hP hD hS hA rfl (fun j hj => by rcases (show j = 0 ∨ j = 1 ∨ j = 2 ∨ j = 3 ∨ j = 4 ∨ j = 5 ∨ j = 6 ∨ j = 7 ∨ j = 8 by omega) with rfl | rfl | rfl | rfl | rfl | rfl | rfl | rfl | rfl <;> rfl) (Nat.le_of_ble_eq_true rfl) (Nat.le_of_ble_eq_true rfl) dX8_right_119 (fun q_139 H hP hD hS => ?_)
                        refine W.widen (k := 1) (n := 9) (Nat.le_refl _) (Nat.le_refl _) ?_
                        refine lv_dup hx hb dX8_right_122 rfl ?_
                        refine lv_iload_n hx hb dX8_right_123 rfl (lv_at hl 1 rfl) ?_
                        refine lv_iload_n hx hb dX8_right_124 rfl (lv_at hl 2 rfl) ?_
                        refine lv_iload_n hx hb dX8_right_125 rfl (lv_at hl 3 rfl) ?_
                        refine lv_aload_n hx hb dX8_right_126 rfl (lv_at hl 0 rfl) ?_
                        refine va_get (D := D) (ci := 8) (v := .int (σ 816 0)) (C := RX8) (T := TX8) (N := 19) hx hb hts hu8 hown hK hP 0 rfl rfl 16 (by decide) (hts (.fieldLink RX8 91 "GrazeBook" "day" "I") (List.mem_cons_of_mem _ mw_226)) (fun _ h9 => h9) rfl dX8_right_127 ?_
                        refine lv_iload hx hb dX8_right_130 (lv_at hl 4 rfl) ?_
                        refine lv_iload_n hx hb dX8_right_132 rfl (lv_at hl 1 rfl) ?_
                        refine lv_iconst (v := (3 : Int32)) hx hb dX8_right_133 (by decide) ?_
                        refine lv_icmp_ne (tgt := 142) hx hb dX8_right_134 (by decide) (fun c_140 => absurd c_87 c_140) (fun _ => ?_)
                        refine lv_iload hx hb dX8_right_137 (lv_at hl 5 rfl) ?_
                        refine lv_goto (tgt := 144) hx hb dX8_right_139 (by decide) ?_
                        refine lv_bipush (v := (-9 : Int32)) hx hb dX8_right_144 (by decide) ?_
                        have hF := nw_F hD hS hA
                        refine va_callv (va_runI (As := [.int a1, .int a2, .int a3, .int (σ 816 0), .int a4, .int a5, .int (-9 : Int32)]) (rest := [.ref q_139, .ref h]) ⟨hx, hb, hml, hown, hts⟩ (k_X0_init l D ca q_139 a1 a2 a3 (σ 816 0) a4 a5 (-9 : Int32) H.size ) (cwI 7 hts gX8_right_X0_init rfl rfl rfl (hts (.initialized RX0) (List.mem_cons_of_mem _ mw_66)) (hts (.methodLink RX8 130 yX0_init) (List.mem_cons_of_mem _ mw_353)) (hts (.instanceMethod yX0_init) (List.mem_cons_of_mem _ mw_354)) rfl (by decide +kernel) ⟨Nat.le_of_ble_eq_true rfl, Nat.le_of_ble_eq_true rfl⟩) ⟨pw_blind, pw_give (nw_P hP) hK (nw_D hD)⟩ rfl rfl hl.1 rfl (lv_room (Nat.le_of_ble_eq_true rfl)) dX8_right_146 ⟨Nat.le_of_ble_eq_true rfl, Nat.le_of_ble_eq_true rfl⟩) hS (fun q _ h => hF q h) hF (fun u t H1 locs ht hvm hw hB hz1 hk1 hS => ?_)
                        obtain ⟨hP, hD⟩ := nw_back hP hD hk1 ht hB
                        clear hB hk1 hz1 hF
                        generalize H1 = H at hP hS ⊢
                        have hF := pw_free hD hS hA
                        refine va_calli (va_runV (As := [.ref q_139]) (rest := []) ⟨hx, hb, hml, hown, hts⟩ (k_X8_addRight l D ca h ad pa tb σ q_139 a1 a3 (σ 816 0) a4 a5 (-9 : Int32) a2 (-9 : Int32) (0 : Int32) H.size hI (ix_ltn (ix_814 hI) c_138 (by decide)) _ _ (Prod.eta _).symm) (cwV 1 hts gX8_right_X8_addRight rfl rfl rfl (by decide +kernel) ⟨Nat.le_of_ble_eq_true rfl, Nat.le_of_ble_eq_true rfl⟩) ⟨cw_blind, va_recv hK hP (ci := 8) (q0 := 0) rfl rfl, cw_give hP hK hD hZ hS hF⟩ rfl rfl hl.1 rfl (lv_room (Nat.le_of_ble_eq_true rfl)) dX8_right_149 ⟨Nat.le_of_ble_eq_true rfl, Nat.le_of_ble_eq_true rfl⟩) hS (fun q _ h => hF q h) hF (fun r_141 u t H1 locs ht hvm hw hB hz1 hk1 hS => ?_)
                        rw [hw]
                        obtain ⟨pa_142, hB⟩ := hB
                        obtain ⟨hB, hI_143⟩ := hB
                        obtain ⟨hP, hD⟩ := pw_back hF ht hB
                        clear hB hk1 hz1 hF
                        generalize H1 = H at hP hS ⊢
                        obtain ⟨τc_144, hτc_144⟩ : ∃ t9, (s_X8_addRight σ a1 a3 (σ 816 0) a4 a5 (-9 : Int32) a2 (-9 : Int32) (0 : Int32)).2 = t9 := ⟨_, rfl⟩
                        rw [hτc_144] at hP hD hI_143
                        (try rw [hτc_144] at hR)
                        obtain ⟨vc_145, hvc_145⟩ : ∃ t9, (s_X8_addRight σ a1 a3 (σ 816 0) a4 a5 (-9 : Int32) a2 (-9 : Int32) (0 : Int32)).1 = t9 := ⟨_, rfl⟩
                        rw [hvc_145]
                        (try rw [hvc_145] at hR)
                        have hI9 : IX τc_144 := hI_143
                        obtain ⟨rfl, rfl⟩ := Prod.mk.inj (show (vc_145, τc_144) = (R1, R2) from hR)
                        rw [hQ]
                        exact W.iret (v := vc_145) hx hb hr (fun t ht hW => ⟨⟨vc_145, (), rfl, rfl, pa_142, ⟨by rw [ht]; exact hP, va_K.moved hW.alike hK, by rw [← hAe]; exact hD⟩, hI9⟩, hS.F ht⟩) hS.2.2 dX8_right_152
                      · have hR := (if_neg c_138).symm.trans hR
                        refine lv_aload_n hx hb dX8_right_111 rfl (lv_at hl 0 rfl) ?_
                        refine lv_bipush (v := (-6 : Int32)) hx hb dX8_right_112 (by decide) ?_
                        have hF := pw_free hD hS hA
                        refine va_calli (va_runV (As := [.int (-6 : Int32)]) (rest := []) ⟨hx, hb, hml, hown, hts⟩ (k_X8_refuse l D ca h ad pa tb σ (-6 : Int32) H.size hI _ _ (Prod.eta _).symm) (cwV 1 hts gX8_right_X8_refuse rfl rfl rfl (by decide +kernel) ⟨Nat.le_of_ble_eq_true rfl, Nat.le_of_ble_eq_true rfl⟩) ⟨cw_blind, va_recv hK hP (ci := 8) (q0 := 0) rfl wc_0, cw_give hP hK hD hZ hS hF⟩ rfl rfl hl.1 rfl (lv_room (Nat.le_of_ble_eq_true rfl)) dX8_right_114 ⟨Nat.le_of_ble_eq_true rfl, Nat.le_of_ble_eq_true rfl⟩) hS (fun q _ h => hF q h) hF (fun r_146 u t H1 locs ht hvm hw hB hz1 hk1 hS => ?_)
                        rw [hw]
                        obtain ⟨hB, hI_147⟩ := hB
                        obtain ⟨hP, hD⟩ := pw_back hF ht hB
                        clear hB hk1 hz1 hF
                        generalize H1 = H at hP hS ⊢
                        obtain ⟨τc_148, hτc_148⟩ : ∃ t9, (s_X8_refuse σ (-6 : Int32)).2 = t9 := ⟨_, rfl⟩
                        rw [hτc_148] at hP hD hI_147
                        (try rw [hτc_148] at hR)
                        obtain ⟨vc_149, hvc_149⟩ : ∃ t9, (s_X8_refuse σ (-6 : Int32)).1 = t9 := ⟨_, rfl⟩
                        rw [hvc_149]
                        (try rw [hvc_149] at hR)
                        have hI9 : IX τc_148 := hI_147
                        obtain ⟨rfl, rfl⟩ := Prod.mk.inj (show (vc_149, τc_148) = (R1, R2) from hR)
                        rw [hQ]
                        refine W.widen (k := 1) (n := 9) (Nat.le_of_ble_eq_true rfl) (Nat.le_of_ble_eq_true rfl) ?_
                        exact W.iret (v := vc_149) hx hb hr (fun t ht hW => ⟨⟨vc_149, (), rfl, rfl, pa, ⟨by rw [ht]; exact hP, va_K.moved hW.alike hK, by rw [← hAe]; exact hD⟩, hI9⟩, hS.F ht⟩) hS.2.2 dX8_right_117
                · have hR := (if_neg c_127).symm.trans hR
                  refine lv_aload_n hx hb dX8_right_80 rfl (lv_at hl 0 rfl) ?_
                  refine lv_bipush (v := (-4 : Int32)) hx hb dX8_right_81 (by decide) ?_
                  have hF := pw_free hD hS hA
                  refine va_calli (va_runV (As := [.int (-4 : Int32)]) (rest := []) ⟨hx, hb, hml, hown, hts⟩ (k_X8_refuse l D ca h ad pa tb σ (-4 : Int32) H.size hI _ _ (Prod.eta _).symm) (cwV 1 hts gX8_right_X8_refuse rfl rfl rfl (by decide +kernel) ⟨Nat.le_of_ble_eq_true rfl, Nat.le_of_ble_eq_true rfl⟩) ⟨cw_blind, va_recv hK hP (ci := 8) (q0 := 0) rfl wc_0, cw_give hP hK hD hZ hS hF⟩ rfl rfl hl.1 rfl (lv_room (Nat.le_of_ble_eq_true rfl)) dX8_right_83 ⟨Nat.le_of_ble_eq_true rfl, Nat.le_of_ble_eq_true rfl⟩) hS (fun q _ h => hF q h) hF (fun r_150 u t H1 locs ht hvm hw hB hz1 hk1 hS => ?_)
                  rw [hw]
                  obtain ⟨hB, hI_151⟩ := hB
                  obtain ⟨hP, hD⟩ := pw_back hF ht hB
                  clear hB hk1 hz1 hF
                  generalize H1 = H at hP hS ⊢
                  obtain ⟨τc_152, hτc_152⟩ : ∃ t9, (s_X8_refuse σ (-4 : Int32)).2 = t9 := ⟨_, rfl⟩
                  rw [hτc_152] at hP hD hI_151
                  (try rw [hτc_152] at hR)
                  obtain ⟨vc_153, hvc_153⟩ : ∃ t9, (s_X8_refuse σ (-4 : Int32)).1 = t9 := ⟨_, rfl⟩
                  rw [hvc_153]
                  (try rw [hvc_153] at hR)
                  have hI9 : IX τc_152 := hI_151
                  obtain ⟨rfl, rfl⟩ := Prod.mk.inj (show (vc_153, τc_152) = (R1, R2) from hR)
                  rw [hQ]
                  refine W.widen (k := 1) (n := 9) (Nat.le_of_ble_eq_true rfl) (Nat.le_of_ble_eq_true rfl) ?_
                  exact W.iret (v := vc_153) hx hb hr (fun t ht hW => ⟨⟨vc_153, (), rfl, rfl, pa, ⟨by rw [ht]; exact hP, va_K.moved hW.alike hK, by rw [← hAe]; exact hD⟩, hI9⟩, hS.F ht⟩) hS.2.2 dX8_right_86
            · have hR := (if_pos c_121).symm.trans hR
              refine lv_aload_n hx hb dX8_right_60 rfl (lv_at hl 0 rfl) ?_
              refine lv_iconst (v := (-1 : Int32)) hx hb dX8_right_61 (by decide) ?_
              have hF := pw_free hD hS hA
              refine va_calli (va_runV (As := [.int (-1 : Int32)]) (rest := []) ⟨hx, hb, hml, hown, hts⟩ (k_X8_refuse l D ca h ad pa tb σ (-1 : Int32) H.size hI _ _ (Prod.eta _).symm) (cwV 1 hts gX8_right_X8_refuse rfl rfl rfl (by decide +kernel) ⟨Nat.le_of_ble_eq_true rfl, Nat.le_of_ble_eq_true rfl⟩) ⟨cw_blind, va_recv hK hP (ci := 8) (q0 := 0) rfl wc_0, cw_give hP hK hD hZ hS hF⟩ rfl rfl hl.1 rfl (lv_room (Nat.le_of_ble_eq_true rfl)) dX8_right_62 ⟨Nat.le_of_ble_eq_true rfl, Nat.le_of_ble_eq_true rfl⟩) hS (fun q _ h => hF q h) hF (fun r_154 u t H1 locs ht hvm hw hB hz1 hk1 hS => ?_)
              rw [hw]
              obtain ⟨hB, hI_155⟩ := hB
              obtain ⟨hP, hD⟩ := pw_back hF ht hB
              clear hB hk1 hz1 hF
              generalize H1 = H at hP hS ⊢
              obtain ⟨τc_156, hτc_156⟩ : ∃ t9, (s_X8_refuse σ (-1 : Int32)).2 = t9 := ⟨_, rfl⟩
              rw [hτc_156] at hP hD hI_155
              (try rw [hτc_156] at hR)
              obtain ⟨vc_157, hvc_157⟩ : ∃ t9, (s_X8_refuse σ (-1 : Int32)).1 = t9 := ⟨_, rfl⟩
              rw [hvc_157]
              (try rw [hvc_157] at hR)
              have hI9 : IX τc_156 := hI_155
              obtain ⟨rfl, rfl⟩ := Prod.mk.inj (show (vc_157, τc_156) = (R1, R2) from hR)
              rw [hQ]
              refine W.widen (k := 1) (n := 9) (Nat.le_of_ble_eq_true rfl) (Nat.le_of_ble_eq_true rfl) ?_
              exact W.iret (v := vc_157) hx hb hr (fun t ht hW => ⟨⟨vc_157, (), rfl, rfl, pa, ⟨by rw [ht]; exact hP, va_K.moved hW.alike hK, by rw [← hAe]; exact hD⟩, hI9⟩, hS.F ht⟩) hS.2.2 dX8_right_65
        · have hR := (if_pos c_86).symm.trans hR
          refine lv_goto (tgt := 40) hx hb dX8_right_29 (by decide) ?_
          refine lv_aload_n hx hb dX8_right_40 rfl (lv_at hl 0 rfl) ?_
          refine lv_iconst (v := (-1 : Int32)) hx hb dX8_right_41 (by decide) ?_
          have hF := pw_free hD hS hA
          refine va_calli (va_runV (As := [.int (-1 : Int32)]) (rest := []) ⟨hx, hb, hml, hown, hts⟩ (k_X8_refuse l D ca h ad pa tb σ (-1 : Int32) H.size hI _ _ (Prod.eta _).symm) (cwV 1 hts gX8_right_X8_refuse rfl rfl rfl (by decide +kernel) ⟨Nat.le_of_ble_eq_true rfl, Nat.le_of_ble_eq_true rfl⟩) ⟨cw_blind, va_recv hK hP (ci := 8) (q0 := 0) rfl wc_0, cw_give hP hK hD hZ hS hF⟩ rfl rfl hl.1 rfl (lv_room (Nat.le_of_ble_eq_true rfl)) dX8_right_42 ⟨Nat.le_of_ble_eq_true rfl, Nat.le_of_ble_eq_true rfl⟩) hS (fun q _ h => hF q h) hF (fun r_158 u t H1 locs ht hvm hw hB hz1 hk1 hS => ?_)
          rw [hw]
          obtain ⟨hB, hI_159⟩ := hB
          obtain ⟨hP, hD⟩ := pw_back hF ht hB
          clear hB hk1 hz1 hF
          generalize H1 = H at hP hS ⊢
          obtain ⟨τc_160, hτc_160⟩ : ∃ t9, (s_X8_refuse σ (-1 : Int32)).2 = t9 := ⟨_, rfl⟩
          rw [hτc_160] at hP hD hI_159
          (try rw [hτc_160] at hR)
          obtain ⟨vc_161, hvc_161⟩ : ∃ t9, (s_X8_refuse σ (-1 : Int32)).1 = t9 := ⟨_, rfl⟩
          rw [hvc_161]
          (try rw [hvc_161] at hR)
          have hI9 : IX τc_160 := hI_159
          obtain ⟨rfl, rfl⟩ := Prod.mk.inj (show (vc_161, τc_160) = (R1, R2) from hR)
          rw [hQ]
          refine W.widen (k := 1) (n := 9) (Nat.le_of_ble_eq_true rfl) (Nat.le_of_ble_eq_true rfl) ?_
          exact W.iret (v := vc_161) hx hb hr (fun t ht hW => ⟨⟨vc_161, (), rfl, rfl, pa, ⟨by rw [ht]; exact hP, va_K.moved hW.alike hK, by rw [← hAe]; exact hD⟩, hI9⟩, hS.F ht⟩) hS.2.2 dX8_right_45
    · have hR := (if_neg c_6).symm.trans hR
      refine lv_aload_n hx hb dX8_right_9 rfl (lv_at hl 0 rfl) ?_
      refine lv_bipush (v := (-2 : Int32)) hx hb dX8_right_10 (by decide) ?_
      have hF := pw_free hD hS hA
      refine va_calli (va_runV (As := [.int (-2 : Int32)]) (rest := []) ⟨hx, hb, hml, hown, hts⟩ (k_X8_refuse l D ca h ad pa tb σ (-2 : Int32) H.size hI _ _ (Prod.eta _).symm) (cwV 1 hts gX8_right_X8_refuse rfl rfl rfl (by decide +kernel) ⟨Nat.le_of_ble_eq_true rfl, Nat.le_of_ble_eq_true rfl⟩) ⟨cw_blind, va_recv hK hP (ci := 8) (q0 := 0) rfl wc_0, cw_give hP hK hD hZ hS hF⟩ rfl rfl hl.1 rfl (lv_room (Nat.le_of_ble_eq_true rfl)) dX8_right_12 ⟨Nat.le_of_ble_eq_true rfl, Nat.le_of_ble_eq_true rfl⟩) hS (fun q _ h => hF q h) hF (fun r_162 u t H1 locs ht hvm hw hB hz1 hk1 hS => ?_)
      rw [hw]
      obtain ⟨hB, hI_163⟩ := hB
      obtain ⟨hP, hD⟩ := pw_back hF ht hB
      clear hB hk1 hz1 hF
      generalize H1 = H at hP hS ⊢
      obtain ⟨τc_164, hτc_164⟩ : ∃ t9, (s_X8_refuse σ (-2 : Int32)).2 = t9 := ⟨_, rfl⟩
      rw [hτc_164] at hP hD hI_163
      (try rw [hτc_164] at hR)
      obtain ⟨vc_165, hvc_165⟩ : ∃ t9, (s_X8_refuse σ (-2 : Int32)).1 = t9 := ⟨_, rfl⟩
      rw [hvc_165]
      (try rw [hvc_165] at hR)
      have hI9 : IX τc_164 := hI_163
      obtain ⟨rfl, rfl⟩ := Prod.mk.inj (show (vc_165, τc_164) = (R1, R2) from hR)
      rw [hQ]
      refine W.widen (k := 1) (n := 9) (Nat.le_of_ble_eq_true rfl) (Nat.le_of_ble_eq_true rfl) ?_
      exact W.iret (v := vc_165) hx hb hr (fun t ht hW => ⟨⟨vc_165, (), rfl, rfl, pa, ⟨by rw [ht]; exact hP, va_K.moved hW.alike hK, by rw [← hAe]; exact hD⟩, hI9⟩, hS.F ht⟩) hS.2.2 dX8_right_15

def s_X8_lend (σ : St) (a1 : Int32) (a2 : Int32) (a3 : Int32) (a4 : Int32) : Int32 × St := (if (s_X8_canPass σ a1 a2) = (0 : Int32) then (((s_X8_refuse σ (-1 : Int32)).1), ((s_X8_refuse σ (-1 : Int32)).2)) else (if (σ 0 (a1.toNatClampNeg)) = (0 : Int32) then (if (s_X0_isInForce σ (a1.toNatClampNeg) (σ 816 0)) = (0 : Int32) then (((s_X8_refuse σ (-3 : Int32)).1), ((s_X8_refuse σ (-3 : Int32)).2)) else (if a3 < (1 : Int32) then (((s_X8_refuse σ (-4 : Int32)).1), ((s_X8_refuse σ (-4 : Int32)).2)) else (if (σ 816 0) ≤ a4 then (if a3 ≤ (s_X8_countingParts σ a1) then (if (σ 3 (a1.toNatClampNeg)) < a4 then (((s_X8_refuse σ (-6 : Int32)).1), ((s_X8_refuse σ (-6 : Int32)).2)) else (if (σ 814 0) < (60 : Int32) then (((s_X8_addRight σ (4 : Int32) a3 (σ 816 0) a4 (-9 : Int32) a1 a2 (-9 : Int32) (0 : Int32)).1), ((s_X8_addRight σ (4 : Int32) a3 (σ 816 0) a4 (-9 : Int32) a1 a2 (-9 : Int32) (0 : Int32)).2)) else (((s_X8_refuse σ (-6 : Int32)).1), ((s_X8_refuse σ (-6 : Int32)).2)))) else (((s_X8_refuse σ (-5 : Int32)).1), ((s_X8_refuse σ (-5 : Int32)).2))) else (((s_X8_refuse σ (-4 : Int32)).1), ((s_X8_refuse σ (-4 : Int32)).2))))) else (((s_X8_refuse σ (-2 : Int32)).1), ((s_X8_refuse σ (-2 : Int32)).2))))
theorem fr_s_X8_lend (σ : St) (a1 : Int32) (a2 : Int32) (a3 : Int32) (a4 : Int32) {f : Nat} (h0 : f ≠ 0) (h1 : f ≠ 1) (h2 : f ≠ 2) (h3 : f ≠ 3) (h4 : f ≠ 4) (h5 : f ≠ 5) (h6 : f ≠ 6) (h7 : f ≠ 7) (h8 : f ≠ 8) (h810 : f ≠ 810) (h814 : f ≠ 814) : (s_X8_lend σ a1 a2 a3 a4 ).2 f = σ f := by
  unfold s_X8_lend
  all_goals ((try dsimp only) <;> ((repeat' split) <;> (try simp only [put_fr, ne_eq, not_false_eq_true, h0, h1, h2, h3, h4, h5, h6, h7, h8, h810, h814, fr_s_X8_refuse, fr_s_X8_addRight])))
set_option maxHeartbeats 1000000 in
set_option maxRecDepth 100000 in
theorem k_X8_lend (l : Launch) (D : va_G) (ca : Nat → ClassId) (h : Nat) (ad : Nat → Nat) (pa : Nat → Nat → Nat) (tb : Nat) (σ : St) (a1 : Int32) (a2 : Int32) (a3 : Int32) (a4 : Int32) (sz : Nat) (hI : IX σ)  (R1 : Int32) (R2 : St) (hR : s_X8_lend σ a1 a2 a3 a4 = (R1, R2)) : Met l yX8_lend wsX8_lend ({ frames := 3, cells := 1, slots := 9, locals := 64 }) (va_Pc [.ref h, .int a1, .int a2, .int a3, .int a4] (cw_pre D ca (WC ca h ad pa σ) sz tb)) (va_Qi (fun (r : Int32) (_ : Unit) => r = R1) (fun (_ : Unit) (t : State) => ∃ pa9 : Nat → Nat → Nat, pw_post D ca (WC ca h ad pa σ) sz (WC ca h ad pa9 R2) t ∧ IX R2) (va_A (WC ca h ad pa σ) sz)) 1 9 (va_A (WC ca h ad pa σ) sz) := by
  refine Met.ofW (cc := cX8_lend) (maxL := 5) (ret := (some .int)) (by decide) rfl ?_
  intro p e s m args below meth c s₁ B hml hv
  obtain ⟨rfl, ⟨hsz, hP, hK, hD0⟩, hZ⟩ := hv
  have hx := B.exec
  have hb := B.bytes
  have hr := B.returns
  have hts := atoms_spec (ws := wsX8_lend) B.pre
  have hown : s.vm.findClass RX8 = some m.cls := findClass_of_methodNamed B.named
  have hlocks := B.notSynchronized
  have hu0 : ∀ w ∈ u_ws RX0 TX0 9, w ∈ wsX8_lend := fun w h => List.mem_cons_of_mem _ (uw0 w h)
  have hu8 : ∀ w ∈ u_ws RX8 TX8 19, w ∈ wsX8_lend := fun w h => List.mem_cons_of_mem _ (uw8 w h)
  subst hsz
  have hD := hD0.self (sz := s.heap.size)
  obtain ⟨A, hAe⟩ : ∃ A, A = va_A (WC ca h ad pa σ) s.heap.size := ⟨_, rfl⟩
  rw [← hAe] at hD hZ ⊢
  have hA : ∀ q : Nat, s.heap.size ≤ q → A q := fun q h => by rw [hAe]; exact Or.inr h
  have hS : va_S A s.heap s.heap [] := va_S.rf
  have hl := lv_entry ([.ref h, .int a1, .int a2, .int a3, .int a4]) (n := 5) (Nat.le_of_ble_eq_true rfl)
  rw [lg_entry_eq]
  generalize (lg_sl ([.ref h, .int a1, .int a2, .int a3, .int a4]) ++ List.replicate (5 - (lg_sl ([.ref h, .int a1, .int a2, .int a3, .int a4])).length) Slot.unset).toArray = ls at hl ⊢
  have hl : lv_has ls 5 [(0, .ref h), (1, .int a1), (2, .int a2), (3, .int a3), (4, .int a4)] := hl
  obtain ⟨H, hH⟩ : ∃ H, H = s.heap := ⟨_, rfl⟩
  have hP : va_P D vwCl (WC ca h ad pa σ) H := by rw [hH]; exact hP
  have hS : va_S A s.heap H [] := by rw [hH]; exact hS
  obtain ⟨QQ, hQ⟩ : ∃ Q9, Q9 = MQ below (va_Qi (fun (r : Int32) (_ : Unit) => r = R1) (fun (_ : Unit) (t : State) => ∃ pa9 : Nat → Nat → Nat, pw_post D ca (WC ca h ad pa σ) s.heap.size (WC ca h ad pa9 R2) t ∧ IX R2) A) ([.ref h, .int a1, .int a2, .int a3, .int a4] : List Value).toArray s 1 9 A := ⟨_, rfl⟩
  rw [← hQ]
  show W _ _ _ _ _ _ _ _ _ _ s.heap _ _ _ _ _
  rw [← hH]
  have hR : (if (s_X8_canPass σ a1 a2) = (0 : Int32) then (((s_X8_refuse σ (-1 : Int32)).1), ((s_X8_refuse σ (-1 : Int32)).2)) else (if (σ 0 (a1.toNatClampNeg)) = (0 : Int32) then (if (s_X0_isInForce σ (a1.toNatClampNeg) (σ 816 0)) = (0 : Int32) then (((s_X8_refuse σ (-3 : Int32)).1), ((s_X8_refuse σ (-3 : Int32)).2)) else (if a3 < (1 : Int32) then (((s_X8_refuse σ (-4 : Int32)).1), ((s_X8_refuse σ (-4 : Int32)).2)) else (if (σ 816 0) ≤ a4 then (if a3 ≤ (s_X8_countingParts σ a1) then (if (σ 3 (a1.toNatClampNeg)) < a4 then (((s_X8_refuse σ (-6 : Int32)).1), ((s_X8_refuse σ (-6 : Int32)).2)) else (if (σ 814 0) < (60 : Int32) then (((s_X8_addRight σ (4 : Int32) a3 (σ 816 0) a4 (-9 : Int32) a1 a2 (-9 : Int32) (0 : Int32)).1), ((s_X8_addRight σ (4 : Int32) a3 (σ 816 0) a4 (-9 : Int32) a1 a2 (-9 : Int32) (0 : Int32)).2)) else (((s_X8_refuse σ (-6 : Int32)).1), ((s_X8_refuse σ (-6 : Int32)).2)))) else (((s_X8_refuse σ (-5 : Int32)).1), ((s_X8_refuse σ (-5 : Int32)).2))) else (((s_X8_refuse σ (-4 : Int32)).1), ((s_X8_refuse σ (-4 : Int32)).2))))) else (((s_X8_refuse σ (-2 : Int32)).1), ((s_X8_refuse σ (-2 : Int32)).2)))) = (R1, R2) := hR
  refine lv_aload_n hx hb dX8_lend_0 rfl (lv_at hl 0 rfl) ?_
  refine lv_iload_n hx hb dX8_lend_1 rfl (lv_at hl 1 rfl) ?_
  refine lv_iload_n hx hb dX8_lend_2 rfl (lv_at hl 2 rfl) ?_
  have hF := pw_free hD hS hA
  refine va_calli (va_runV (As := [.int a1, .int a2]) (rest := []) ⟨hx, hb, hml, hown, hts⟩ (k_X8_canPass l D ca h ad pa tb σ a1 a2 H.size hI _ rfl) (cwV 2 hts gX8_lend_X8_canPass rfl rfl rfl (by decide +kernel) ⟨Nat.le_of_ble_eq_true rfl, Nat.le_of_ble_eq_true rfl⟩) ⟨cw_blind, va_recv hK hP (ci := 8) (q0 := 0) rfl wc_0, cw_give hP hK hD hZ hS hF⟩ rfl rfl hl.1 rfl (lv_room (Nat.le_of_ble_eq_true rfl)) dX8_lend_3 ⟨Nat.le_of_ble_eq_true rfl, Nat.le_of_ble_eq_true rfl⟩) hS (fun q _ h => hF q h) hF (fun r_1 u t H1 locs ht hvm hw hB hz1 hk1 hS => ?_)
  rw [hw]
  obtain ⟨hP, hD⟩ := pw_back hF ht hB
  clear hB hk1 hz1 hF
  generalize H1 = H at hP hS ⊢
  refine lv_if_ne (tgt := 15) hx hb dX8_lend_6 (by decide) (fun c_2 => ?_) (fun c_2 => ?_)
  · have hR := (if_neg c_2).symm.trans hR
    refine lv_aload_n hx hb dX8_lend_15 rfl (lv_at hl 0 rfl) ?_
    refine va_get (D := D) (ci := 8) (v := .ref (ad 804)) (C := RX8) (T := TX8) (N := 19) hx hb hts hu8 hown hK hP 0 wc_0 rfl 4 (by decide) (hts (.fieldLink RX8 34 "GrazeBook" "rights" "[LGrazeBook$Claim;") (List.mem_cons_of_mem _ mw_214)) (fun _ h9 => h9) rfl dX8_lend_16 ?_
    refine lv_iload_n hx hb dX8_lend_19 rfl (lv_at hl 1 rfl) ?_
    refine va_aldq_k (k := (a1.toNatClampNeg)) (b := pa 2 (a1.toNatClampNeg)) hx hb hK hP 8 4 wc_8 rfl rfl (rf_at (isb_Right (cp_r c_2))) (isx_Right (cp_r c_2) hI) dX8_lend_20 ?_
    refine va_get (D := D) (ci := 0) (v := .int (σ 0 (a1.toNatClampNeg))) (C := RX0) (T := TX0) (N := 9) hx hb hts hu0 hown hK hP (pcC ca h ad pa σ (a1.toNatClampNeg)) (wc_aC (isb_Right (cp_r c_2))) rfl 0 (by decide) (hts (.fieldLink RX8 140 "GrazeBook$Claim" "kind" "I") (List.mem_cons_of_mem _ mw_359)) (fun _ h9 => h9) rfl dX8_lend_21 ?_
    refine lv_if_eq (tgt := 34) hx hb dX8_lend_24 (by decide) (fun c_3 => ?_) (fun c_3 => ?_)
    · have hR := (if_pos c_3).symm.trans hR
      refine lv_aload_n hx hb dX8_lend_34 rfl (lv_at hl 0 rfl) ?_
      refine va_get (D := D) (ci := 8) (v := .ref (ad 804)) (C := RX8) (T := TX8) (N := 19) hx hb hts hu8 hown hK hP 0 wc_0 rfl 4 (by decide) (hts (.fieldLink RX8 34 "GrazeBook" "rights" "[LGrazeBook$Claim;") (List.mem_cons_of_mem _ mw_214)) (fun _ h9 => h9) rfl dX8_lend_35 ?_
      refine lv_iload_n hx hb dX8_lend_38 rfl (lv_at hl 1 rfl) ?_
      refine va_aldq_k (k := (a1.toNatClampNeg)) (b := pa 2 (a1.toNatClampNeg)) hx hb hK hP 8 4 wc_8 rfl rfl (rf_at (isb_Right (cp_r c_2))) (isx_Right (cp_r c_2) hI) dX8_lend_39 ?_
      refine lv_aload_n hx hb dX8_lend_40 rfl (lv_at hl 0 rfl) ?_
      refine va_get (D := D) (ci := 8) (v := .int (σ 816 0)) (C := RX8) (T := TX8) (N := 19) hx hb hts hu8 hown hK hP 0 wc_0 rfl 16 (by decide) (hts (.fieldLink RX8 91 "GrazeBook" "day" "I") (List.mem_cons_of_mem _ mw_226)) (fun _ h9 => h9) rfl dX8_lend_41 ?_
      have hF := pw_free hD hS hA
      refine va_calli (va_runV (As := [.int (σ 816 0)]) (rest := []) ⟨hx, hb, hml, hown, hts⟩ (k_X0_isInForce l D ca h ad pa tb σ (a1.toNatClampNeg) (σ 816 0) H.size hI (isb_Right (cp_r c_2)) _ rfl) (cwV 1 hts gX8_lend_X0_isInForce rfl rfl rfl (by decide +kernel) ⟨Nat.le_of_ble_eq_true rfl, Nat.le_of_ble_eq_true rfl⟩) ⟨cw_blind, va_recv hK hP (ci := 0) (q0 := (pcC ca h ad pa σ (a1.toNatClampNeg))) rfl (wc_aC (isb_Right (cp_r c_2))), cw_give hP hK hD hZ hS hF⟩ rfl rfl hl.1 rfl (lv_room (Nat.le_of_ble_eq_true rfl)) dX8_lend_44 ⟨Nat.le_of_ble_eq_true rfl, Nat.le_of_ble_eq_true rfl⟩) hS (fun q _ h => hF q h) hF (fun r_4 u t H1 locs ht hvm hw hB hz1 hk1 hS => ?_)
      rw [hw]
      obtain ⟨hP, hD⟩ := pw_back hF ht hB
      clear hB hk1 hz1 hF
      generalize H1 = H at hP hS ⊢
      refine lv_if_ne (tgt := 57) hx hb dX8_lend_47 (by decide) (fun c_5 => ?_) (fun c_5 => ?_)
      · have hR := (if_neg c_5).symm.trans hR
        refine lv_iload_n hx hb dX8_lend_57 rfl (lv_at hl 3 rfl) ?_
        refine lv_iconst (v := (1 : Int32)) hx hb dX8_lend_58 (by decide) ?_
        refine lv_icmp_lt (tgt := 71) hx hb dX8_lend_59 (by decide) (fun c_6 => ?_) (fun c_6 => ?_)
        · have hR := (if_pos c_6).symm.trans hR
          refine lv_aload_n hx hb dX8_lend_71 rfl (lv_at hl 0 rfl) ?_
          refine lv_bipush (v := (-4 : Int32)) hx hb dX8_lend_72 (by decide) ?_
          have hF := pw_free hD hS hA
          refine va_calli (va_runV (As := [.int (-4 : Int32)]) (rest := []) ⟨hx, hb, hml, hown, hts⟩ (k_X8_refuse l D ca h ad pa tb σ (-4 : Int32) H.size hI _ _ (Prod.eta _).symm) (cwV 1 hts gX8_lend_X8_refuse rfl rfl rfl (by decide +kernel) ⟨Nat.le_of_ble_eq_true rfl, Nat.le_of_ble_eq_true rfl⟩) ⟨cw_blind, va_recv hK hP (ci := 8) (q0 := 0) rfl wc_0, cw_give hP hK hD hZ hS hF⟩ rfl rfl hl.1 rfl (lv_room (Nat.le_of_ble_eq_true rfl)) dX8_lend_74 ⟨Nat.le_of_ble_eq_true rfl, Nat.le_of_ble_eq_true rfl⟩) hS (fun q _ h => hF q h) hF (fun r_7 u t H1 locs ht hvm hw hB hz1 hk1 hS => ?_)
          rw [hw]
          obtain ⟨hB, hI_8⟩ := hB
          obtain ⟨hP, hD⟩ := pw_back hF ht hB
          clear hB hk1 hz1 hF
          generalize H1 = H at hP hS ⊢
          obtain ⟨τc_9, hτc_9⟩ : ∃ t9, (s_X8_refuse σ (-4 : Int32)).2 = t9 := ⟨_, rfl⟩
          rw [hτc_9] at hP hD hI_8
          (try rw [hτc_9] at hR)
          obtain ⟨vc_10, hvc_10⟩ : ∃ t9, (s_X8_refuse σ (-4 : Int32)).1 = t9 := ⟨_, rfl⟩
          rw [hvc_10]
          (try rw [hvc_10] at hR)
          have hI9 : IX τc_9 := hI_8
          obtain ⟨rfl, rfl⟩ := Prod.mk.inj (show (vc_10, τc_9) = (R1, R2) from hR)
          rw [hQ]
          refine W.widen (k := 1) (n := 9) (Nat.le_of_ble_eq_true rfl) (Nat.le_of_ble_eq_true rfl) ?_
          exact W.iret (v := vc_10) hx hb hr (fun t ht hW => ⟨⟨vc_10, (), rfl, rfl, pa, ⟨by rw [ht]; exact hP, va_K.moved hW.alike hK, by rw [← hAe]; exact hD⟩, hI9⟩, hS.F ht⟩) hS.2.2 dX8_lend_77
        · have hR := (if_neg c_6).symm.trans hR
          refine lv_iload hx hb dX8_lend_62 (lv_at hl 4 rfl) ?_
          refine lv_aload_n hx hb dX8_lend_64 rfl (lv_at hl 0 rfl) ?_
          refine va_get (D := D) (ci := 8) (v := .int (σ 816 0)) (C := RX8) (T := TX8) (N := 19) hx hb hts hu8 hown hK hP 0 wc_0 rfl 16 (by decide) (hts (.fieldLink RX8 91 "GrazeBook" "day" "I") (List.mem_cons_of_mem _ mw_226)) (fun _ h9 => h9) rfl dX8_lend_65 ?_
          refine lv_icmp_ge (tgt := 78) hx hb dX8_lend_68 (by decide) (fun c_11 => ?_) (fun c_11 => ?_)
          · have hR := (if_pos c_11).symm.trans hR
            refine lv_iload_n hx hb dX8_lend_78 rfl (lv_at hl 3 rfl) ?_
            refine lv_aload_n hx hb dX8_lend_79 rfl (lv_at hl 0 rfl) ?_
            refine lv_iload_n hx hb dX8_lend_80 rfl (lv_at hl 1 rfl) ?_
            have hF := pw_free hD hS hA
            refine va_calli (va_runV (As := [.int a1]) (rest := [.int a3]) ⟨hx, hb, hml, hown, hts⟩ (k_X8_countingParts l D ca h ad pa tb σ a1 H.size hI (isx_Right (cp_r c_2) hI) (isb_Right (cp_r c_2)) _ rfl) (cwV 1 hts gX8_lend_X8_countingParts rfl rfl rfl (by decide +kernel) ⟨Nat.le_of_ble_eq_true rfl, Nat.le_of_ble_eq_true rfl⟩) ⟨cw_blind, va_recv hK hP (ci := 8) (q0 := 0) rfl wc_0, cw_give hP hK hD hZ hS hF⟩ rfl rfl hl.1 rfl (lv_room (Nat.le_of_ble_eq_true rfl)) dX8_lend_81 ⟨Nat.le_of_ble_eq_true rfl, Nat.le_of_ble_eq_true rfl⟩) hS (fun q _ h => hF q h) hF (fun r_12 u t H1 locs ht hvm hw hB hz1 hk1 hS => ?_)
            rw [hw]
            obtain ⟨hP, hD⟩ := pw_back hF ht hB
            clear hB hk1 hz1 hF
            generalize H1 = H at hP hS ⊢
            refine lv_icmp_le (tgt := 94) hx hb dX8_lend_84 (by decide) (fun c_13 => ?_) (fun c_13 => ?_)
            · have hR := (if_pos c_13).symm.trans hR
              refine lv_iload hx hb dX8_lend_94 (lv_at hl 4 rfl) ?_
              refine lv_aload_n hx hb dX8_lend_96 rfl (lv_at hl 0 rfl) ?_
              refine va_get (D := D) (ci := 8) (v := .ref (ad 804)) (C := RX8) (T := TX8) (N := 19) hx hb hts hu8 hown hK hP 0 wc_0 rfl 4 (by decide) (hts (.fieldLink RX8 34 "GrazeBook" "rights" "[LGrazeBook$Claim;") (List.mem_cons_of_mem _ mw_214)) (fun _ h9 => h9) rfl dX8_lend_97 ?_
              refine lv_iload_n hx hb dX8_lend_100 rfl (lv_at hl 1 rfl) ?_
              refine va_aldq_k (k := (a1.toNatClampNeg)) (b := pa 2 (a1.toNatClampNeg)) hx hb hK hP 8 4 wc_8 rfl rfl (rf_at (isb_Right (cp_r c_2))) (isx_Right (cp_r c_2) hI) dX8_lend_101 ?_
              refine va_get (D := D) (ci := 0) (v := .int (σ 3 (a1.toNatClampNeg))) (C := RX0) (T := TX0) (N := 9) hx hb hts hu0 hown hK hP (pcC ca h ad pa σ (a1.toNatClampNeg)) (wc_aC (isb_Right (cp_r c_2))) rfl 3 (by decide) (hts (.fieldLink RX8 149 "GrazeBook$Claim" "last" "I") (List.mem_cons_of_mem _ mw_365)) (fun _ h9 => h9) rfl dX8_lend_102 ?_
              refine lv_icmp_gt (tgt := 117) hx hb dX8_lend_105 (by decide) (fun c_14 => ?_) (fun c_14 => ?_)
              · have hR := (if_pos c_14).symm.trans hR
                refine lv_aload_n hx hb dX8_lend_117 rfl (lv_at hl 0 rfl) ?_
                refine lv_bipush (v := (-6 : Int32)) hx hb dX8_lend_118 (by decide) ?_
                have hF := pw_free hD hS hA
                refine va_calli (va_runV (As := [.int (-6 : Int32)]) (rest := []) ⟨hx, hb, hml, hown, hts⟩ (k_X8_refuse l D ca h ad pa tb σ (-6 : Int32) H.size hI _ _ (Prod.eta _).symm) (cwV 1 hts gX8_lend_X8_refuse rfl rfl rfl (by decide +kernel) ⟨Nat.le_of_ble_eq_true rfl, Nat.le_of_ble_eq_true rfl⟩) ⟨cw_blind, va_recv hK hP (ci := 8) (q0 := 0) rfl wc_0, cw_give hP hK hD hZ hS hF⟩ rfl rfl hl.1 rfl (lv_room (Nat.le_of_ble_eq_true rfl)) dX8_lend_120 ⟨Nat.le_of_ble_eq_true rfl, Nat.le_of_ble_eq_true rfl⟩) hS (fun q _ h => hF q h) hF (fun r_15 u t H1 locs ht hvm hw hB hz1 hk1 hS => ?_)
                rw [hw]
                obtain ⟨hB, hI_16⟩ := hB
                obtain ⟨hP, hD⟩ := pw_back hF ht hB
                clear hB hk1 hz1 hF
                generalize H1 = H at hP hS ⊢
                obtain ⟨τc_17, hτc_17⟩ : ∃ t9, (s_X8_refuse σ (-6 : Int32)).2 = t9 := ⟨_, rfl⟩
                rw [hτc_17] at hP hD hI_16
                (try rw [hτc_17] at hR)
                obtain ⟨vc_18, hvc_18⟩ : ∃ t9, (s_X8_refuse σ (-6 : Int32)).1 = t9 := ⟨_, rfl⟩
                rw [hvc_18]
                (try rw [hvc_18] at hR)
                have hI9 : IX τc_17 := hI_16
                obtain ⟨rfl, rfl⟩ := Prod.mk.inj (show (vc_18, τc_17) = (R1, R2) from hR)
                rw [hQ]
                refine W.widen (k := 1) (n := 9) (Nat.le_of_ble_eq_true rfl) (Nat.le_of_ble_eq_true rfl) ?_
                exact W.iret (v := vc_18) hx hb hr (fun t ht hW => ⟨⟨vc_18, (), rfl, rfl, pa, ⟨by rw [ht]; exact hP, va_K.moved hW.alike hK, by rw [← hAe]; exact hD⟩, hI9⟩, hS.F ht⟩) hS.2.2 dX8_lend_123
              · have hR := (if_neg c_14).symm.trans hR
                refine lv_aload_n hx hb dX8_lend_108 rfl (lv_at hl 0 rfl) ?_
                refine va_get (D := D) (ci := 8) (v := .int (σ 814 0)) (C := RX8) (T := TX8) (N := 19) hx hb hts hu8 hown hK hP 0 wc_0 rfl 14 (by decide) (hts (.fieldLink RX8 85 "GrazeBook" "rightCount" "I") (List.mem_cons_of_mem _ mw_224)) (fun _ h9 => h9) rfl dX8_lend_109 ?_
                refine lv_bipush (v := (60 : Int32)) hx hb dX8_lend_112 (by decide) ?_
                refine lv_icmp_lt (tgt := 124) hx hb dX8_lend_114 (by decide) (fun c_19 => ?_) (fun c_19 => ?_)
                · have hR := (if_pos c_19).symm.trans hR
                  refine lv_aload_n hx hb dX8_lend_124 rfl (lv_at hl 0 rfl) ?_
                  refine va_new (ci := 0) (fs := [.int (0 : Int32), .int (0 : Int32), .int (0 : Int32), .int (0 : Int32), .int (0 : Int32), .int (0 : Int32), .int (0 : Int32), .int (0 : Int32), .int (0 : Int32)]) (C := RX0) (T := TX0) (N := 9) hx hb hts hu0 tyX0 tyX0_ok hown (hts (.classLink RX8 32 RX0) (List.mem_cons_of_mem _ mw_96)) (hts (.instantiable RX0 9) (List.mem_cons_of_mem _ mw_352)) (hts (.initialized RX0) (List.mem_cons_of_mem _ mw_66)) hK hP hD hS hA rfl (fun j hj => by rcases (show j = 0 ∨ j = 1 ∨ j = 2 ∨ j = 3 ∨ j = 4 ∨ j = 5 ∨ j = 6 ∨ j = 7 ∨ j = 8 by omega) with rfl | rfl | rfl | rfl | rfl | rfl | rfl | rfl | rfl <;> rfl) (Nat.le_of_ble_eq_true rfl) (Nat.le_of_ble_eq_true rfl) dX8_lend_125 (fun q_20 H hP hD hS => ?_)
                  refine W.widen (k := 1) (n := 9) (Nat.le_refl _) (Nat.le_refl _) ?_
                  refine lv_dup hx hb dX8_lend_128 rfl ?_
                  refine lv_iconst (v := (4 : Int32)) hx hb dX8_lend_129 (by decide) ?_
                  refine lv_iload_n hx hb dX8_lend_130 rfl (lv_at hl 2 rfl) ?_
                  refine lv_iload_n hx hb dX8_lend_131 rfl (lv_at hl 3 rfl) ?_
                  refine lv_aload_n hx hb dX8_lend_132 rfl (lv_at hl 0 rfl) ?_
                  refine va_get (D := D) (ci := 8) (v := .int (σ 816 0)) (C := RX8) (T := TX8) (N := 19) hx hb hts hu8 hown hK hP 0 rfl rfl 16 (by decide) (hts (.fieldLink RX8 91 "GrazeBook" "day" "I") (List.mem_cons_of_mem _ mw_226)) (fun _ h9 => h9) rfl dX8_lend_133 ?_
                  refine lv_iload hx hb dX8_lend_136 (lv_at hl 4 rfl) ?_
                  refine lv_bipush (v := (-9 : Int32)) hx hb dX8_lend_138 (by decide) ?_
                  refine lv_iload_n hx hb dX8_lend_140 rfl (lv_at hl 1 rfl) ?_
                  have hF := nw_F hD hS hA
                  refine va_callv (va_runI (As := [.int (4 : Int32), .int a2, .int a3, .int (σ 816 0), .int a4, .int (-9 : Int32), .int a1]) (rest := [.ref q_20, .ref h]) ⟨hx, hb, hml, hown, hts⟩ (k_X0_init l D ca q_20 (4 : Int32) a2 a3 (σ 816 0) a4 (-9 : Int32) a1 H.size ) (cwI 7 hts gX8_lend_X0_init rfl rfl rfl (hts (.initialized RX0) (List.mem_cons_of_mem _ mw_66)) (hts (.methodLink RX8 130 yX0_init) (List.mem_cons_of_mem _ mw_353)) (hts (.instanceMethod yX0_init) (List.mem_cons_of_mem _ mw_354)) rfl (by decide +kernel) ⟨Nat.le_of_ble_eq_true rfl, Nat.le_of_ble_eq_true rfl⟩) ⟨pw_blind, pw_give (nw_P hP) hK (nw_D hD)⟩ rfl rfl hl.1 rfl (lv_room (Nat.le_of_ble_eq_true rfl)) dX8_lend_141 ⟨Nat.le_of_ble_eq_true rfl, Nat.le_of_ble_eq_true rfl⟩) hS (fun q _ h => hF q h) hF (fun u t H1 locs ht hvm hw hB hz1 hk1 hS => ?_)
                  obtain ⟨hP, hD⟩ := nw_back hP hD hk1 ht hB
                  clear hB hk1 hz1 hF
                  generalize H1 = H at hP hS ⊢
                  have hF := pw_free hD hS hA
                  refine va_calli (va_runV (As := [.ref q_20]) (rest := []) ⟨hx, hb, hml, hown, hts⟩ (k_X8_addRight l D ca h ad pa tb σ q_20 (4 : Int32) a3 (σ 816 0) a4 (-9 : Int32) a1 a2 (-9 : Int32) (0 : Int32) H.size hI (ix_ltn (ix_814 hI) c_19 (by decide)) _ _ (Prod.eta _).symm) (cwV 1 hts gX8_lend_X8_addRight rfl rfl rfl (by decide +kernel) ⟨Nat.le_of_ble_eq_true rfl, Nat.le_of_ble_eq_true rfl⟩) ⟨cw_blind, va_recv hK hP (ci := 8) (q0 := 0) rfl rfl, cw_give hP hK hD hZ hS hF⟩ rfl rfl hl.1 rfl (lv_room (Nat.le_of_ble_eq_true rfl)) dX8_lend_144 ⟨Nat.le_of_ble_eq_true rfl, Nat.le_of_ble_eq_true rfl⟩) hS (fun q _ h => hF q h) hF (fun r_21 u t H1 locs ht hvm hw hB hz1 hk1 hS => ?_)
                  rw [hw]
                  obtain ⟨pa_22, hB⟩ := hB
                  obtain ⟨hB, hI_23⟩ := hB
                  obtain ⟨hP, hD⟩ := pw_back hF ht hB
                  clear hB hk1 hz1 hF
                  generalize H1 = H at hP hS ⊢
                  obtain ⟨τc_24, hτc_24⟩ : ∃ t9, (s_X8_addRight σ (4 : Int32) a3 (σ 816 0) a4 (-9 : Int32) a1 a2 (-9 : Int32) (0 : Int32)).2 = t9 := ⟨_, rfl⟩
                  rw [hτc_24] at hP hD hI_23
                  (try rw [hτc_24] at hR)
                  obtain ⟨vc_25, hvc_25⟩ : ∃ t9, (s_X8_addRight σ (4 : Int32) a3 (σ 816 0) a4 (-9 : Int32) a1 a2 (-9 : Int32) (0 : Int32)).1 = t9 := ⟨_, rfl⟩
                  rw [hvc_25]
                  (try rw [hvc_25] at hR)
                  have hI9 : IX τc_24 := hI_23
                  obtain ⟨rfl, rfl⟩ := Prod.mk.inj (show (vc_25, τc_24) = (R1, R2) from hR)
                  rw [hQ]
                  exact W.iret (v := vc_25) hx hb hr (fun t ht hW => ⟨⟨vc_25, (), rfl, rfl, pa_22, ⟨by rw [ht]; exact hP, va_K.moved hW.alike hK, by rw [← hAe]; exact hD⟩, hI9⟩, hS.F ht⟩) hS.2.2 dX8_lend_147
                · have hR := (if_neg c_19).symm.trans hR
                  refine lv_aload_n hx hb dX8_lend_117 rfl (lv_at hl 0 rfl) ?_
                  refine lv_bipush (v := (-6 : Int32)) hx hb dX8_lend_118 (by decide) ?_
                  have hF := pw_free hD hS hA
                  refine va_calli (va_runV (As := [.int (-6 : Int32)]) (rest := []) ⟨hx, hb, hml, hown, hts⟩ (k_X8_refuse l D ca h ad pa tb σ (-6 : Int32) H.size hI _ _ (Prod.eta _).symm) (cwV 1 hts gX8_lend_X8_refuse rfl rfl rfl (by decide +kernel) ⟨Nat.le_of_ble_eq_true rfl, Nat.le_of_ble_eq_true rfl⟩) ⟨cw_blind, va_recv hK hP (ci := 8) (q0 := 0) rfl wc_0, cw_give hP hK hD hZ hS hF⟩ rfl rfl hl.1 rfl (lv_room (Nat.le_of_ble_eq_true rfl)) dX8_lend_120 ⟨Nat.le_of_ble_eq_true rfl, Nat.le_of_ble_eq_true rfl⟩) hS (fun q _ h => hF q h) hF (fun r_26 u t H1 locs ht hvm hw hB hz1 hk1 hS => ?_)
                  rw [hw]
                  obtain ⟨hB, hI_27⟩ := hB
                  obtain ⟨hP, hD⟩ := pw_back hF ht hB
                  clear hB hk1 hz1 hF
                  generalize H1 = H at hP hS ⊢
                  obtain ⟨τc_28, hτc_28⟩ : ∃ t9, (s_X8_refuse σ (-6 : Int32)).2 = t9 := ⟨_, rfl⟩
                  rw [hτc_28] at hP hD hI_27
                  (try rw [hτc_28] at hR)
                  obtain ⟨vc_29, hvc_29⟩ : ∃ t9, (s_X8_refuse σ (-6 : Int32)).1 = t9 := ⟨_, rfl⟩
                  rw [hvc_29]
                  (try rw [hvc_29] at hR)
                  have hI9 : IX τc_28 := hI_27
                  obtain ⟨rfl, rfl⟩ := Prod.mk.inj (show (vc_29, τc_28) = (R1, R2) from hR)
                  rw [hQ]
                  refine W.widen (k := 1) (n := 9) (Nat.le_of_ble_eq_true rfl) (Nat.le_of_ble_eq_true rfl) ?_
                  exact W.iret (v := vc_29) hx hb hr (fun t ht hW => ⟨⟨vc_29, (), rfl, rfl, pa, ⟨by rw [ht]; exact hP, va_K.moved hW.alike hK, by rw [← hAe]; exact hD⟩, hI9⟩, hS.F ht⟩) hS.2.2 dX8_lend_123
            · have hR := (if_neg c_13).symm.trans hR
              refine lv_aload_n hx hb dX8_lend_87 rfl (lv_at hl 0 rfl) ?_
              refine lv_bipush (v := (-5 : Int32)) hx hb dX8_lend_88 (by decide) ?_
              have hF := pw_free hD hS hA
              refine va_calli (va_runV (As := [.int (-5 : Int32)]) (rest := []) ⟨hx, hb, hml, hown, hts⟩ (k_X8_refuse l D ca h ad pa tb σ (-5 : Int32) H.size hI _ _ (Prod.eta _).symm) (cwV 1 hts gX8_lend_X8_refuse rfl rfl rfl (by decide +kernel) ⟨Nat.le_of_ble_eq_true rfl, Nat.le_of_ble_eq_true rfl⟩) ⟨cw_blind, va_recv hK hP (ci := 8) (q0 := 0) rfl wc_0, cw_give hP hK hD hZ hS hF⟩ rfl rfl hl.1 rfl (lv_room (Nat.le_of_ble_eq_true rfl)) dX8_lend_90 ⟨Nat.le_of_ble_eq_true rfl, Nat.le_of_ble_eq_true rfl⟩) hS (fun q _ h => hF q h) hF (fun r_30 u t H1 locs ht hvm hw hB hz1 hk1 hS => ?_)
              rw [hw]
              obtain ⟨hB, hI_31⟩ := hB
              obtain ⟨hP, hD⟩ := pw_back hF ht hB
              clear hB hk1 hz1 hF
              generalize H1 = H at hP hS ⊢
              obtain ⟨τc_32, hτc_32⟩ : ∃ t9, (s_X8_refuse σ (-5 : Int32)).2 = t9 := ⟨_, rfl⟩
              rw [hτc_32] at hP hD hI_31
              (try rw [hτc_32] at hR)
              obtain ⟨vc_33, hvc_33⟩ : ∃ t9, (s_X8_refuse σ (-5 : Int32)).1 = t9 := ⟨_, rfl⟩
              rw [hvc_33]
              (try rw [hvc_33] at hR)
              have hI9 : IX τc_32 := hI_31
              obtain ⟨rfl, rfl⟩ := Prod.mk.inj (show (vc_33, τc_32) = (R1, R2) from hR)
              rw [hQ]
              refine W.widen (k := 1) (n := 9) (Nat.le_of_ble_eq_true rfl) (Nat.le_of_ble_eq_true rfl) ?_
              exact W.iret (v := vc_33) hx hb hr (fun t ht hW => ⟨⟨vc_33, (), rfl, rfl, pa, ⟨by rw [ht]; exact hP, va_K.moved hW.alike hK, by rw [← hAe]; exact hD⟩, hI9⟩, hS.F ht⟩) hS.2.2 dX8_lend_93
          · have hR := (if_neg c_11).symm.trans hR
            refine lv_aload_n hx hb dX8_lend_71 rfl (lv_at hl 0 rfl) ?_
            refine lv_bipush (v := (-4 : Int32)) hx hb dX8_lend_72 (by decide) ?_
            have hF := pw_free hD hS hA
            refine va_calli (va_runV (As := [.int (-4 : Int32)]) (rest := []) ⟨hx, hb, hml, hown, hts⟩ (k_X8_refuse l D ca h ad pa tb σ (-4 : Int32) H.size hI _ _ (Prod.eta _).symm) (cwV 1 hts gX8_lend_X8_refuse rfl rfl rfl (by decide +kernel) ⟨Nat.le_of_ble_eq_true rfl, Nat.le_of_ble_eq_true rfl⟩) ⟨cw_blind, va_recv hK hP (ci := 8) (q0 := 0) rfl wc_0, cw_give hP hK hD hZ hS hF⟩ rfl rfl hl.1 rfl (lv_room (Nat.le_of_ble_eq_true rfl)) dX8_lend_74 ⟨Nat.le_of_ble_eq_true rfl, Nat.le_of_ble_eq_true rfl⟩) hS (fun q _ h => hF q h) hF (fun r_34 u t H1 locs ht hvm hw hB hz1 hk1 hS => ?_)
            rw [hw]
            obtain ⟨hB, hI_35⟩ := hB
            obtain ⟨hP, hD⟩ := pw_back hF ht hB
            clear hB hk1 hz1 hF
            generalize H1 = H at hP hS ⊢
            obtain ⟨τc_36, hτc_36⟩ : ∃ t9, (s_X8_refuse σ (-4 : Int32)).2 = t9 := ⟨_, rfl⟩
            rw [hτc_36] at hP hD hI_35
            (try rw [hτc_36] at hR)
            obtain ⟨vc_37, hvc_37⟩ : ∃ t9, (s_X8_refuse σ (-4 : Int32)).1 = t9 := ⟨_, rfl⟩
            rw [hvc_37]
            (try rw [hvc_37] at hR)
            have hI9 : IX τc_36 := hI_35
            obtain ⟨rfl, rfl⟩ := Prod.mk.inj (show (vc_37, τc_36) = (R1, R2) from hR)
            rw [hQ]
            refine W.widen (k := 1) (n := 9) (Nat.le_of_ble_eq_true rfl) (Nat.le_of_ble_eq_true rfl) ?_
            exact W.iret (v := vc_37) hx hb hr (fun t ht hW => ⟨⟨vc_37, (), rfl, rfl, pa, ⟨by rw [ht]; exact hP, va_K.moved hW.alike hK, by rw [← hAe]; exact hD⟩, hI9⟩, hS.F ht⟩) hS.2.2 dX8_lend_77
      · have hR := (if_pos c_5).symm.trans hR
        refine lv_aload_n hx hb dX8_lend_50 rfl (lv_at hl 0 rfl) ?_
        refine lv_bipush (v := (-3 : Int32)) hx hb dX8_lend_51 (by decide) ?_
        have hF := pw_free hD hS hA
        refine va_calli (va_runV (As := [.int (-3 : Int32)]) (rest := []) ⟨hx, hb, hml, hown, hts⟩ (k_X8_refuse l D ca h ad pa tb σ (-3 : Int32) H.size hI _ _ (Prod.eta _).symm) (cwV 1 hts gX8_lend_X8_refuse rfl rfl rfl (by decide +kernel) ⟨Nat.le_of_ble_eq_true rfl, Nat.le_of_ble_eq_true rfl⟩) ⟨cw_blind, va_recv hK hP (ci := 8) (q0 := 0) rfl wc_0, cw_give hP hK hD hZ hS hF⟩ rfl rfl hl.1 rfl (lv_room (Nat.le_of_ble_eq_true rfl)) dX8_lend_53 ⟨Nat.le_of_ble_eq_true rfl, Nat.le_of_ble_eq_true rfl⟩) hS (fun q _ h => hF q h) hF (fun r_38 u t H1 locs ht hvm hw hB hz1 hk1 hS => ?_)
        rw [hw]
        obtain ⟨hB, hI_39⟩ := hB
        obtain ⟨hP, hD⟩ := pw_back hF ht hB
        clear hB hk1 hz1 hF
        generalize H1 = H at hP hS ⊢
        obtain ⟨τc_40, hτc_40⟩ : ∃ t9, (s_X8_refuse σ (-3 : Int32)).2 = t9 := ⟨_, rfl⟩
        rw [hτc_40] at hP hD hI_39
        (try rw [hτc_40] at hR)
        obtain ⟨vc_41, hvc_41⟩ : ∃ t9, (s_X8_refuse σ (-3 : Int32)).1 = t9 := ⟨_, rfl⟩
        rw [hvc_41]
        (try rw [hvc_41] at hR)
        have hI9 : IX τc_40 := hI_39
        obtain ⟨rfl, rfl⟩ := Prod.mk.inj (show (vc_41, τc_40) = (R1, R2) from hR)
        rw [hQ]
        refine W.widen (k := 1) (n := 9) (Nat.le_of_ble_eq_true rfl) (Nat.le_of_ble_eq_true rfl) ?_
        exact W.iret (v := vc_41) hx hb hr (fun t ht hW => ⟨⟨vc_41, (), rfl, rfl, pa, ⟨by rw [ht]; exact hP, va_K.moved hW.alike hK, by rw [← hAe]; exact hD⟩, hI9⟩, hS.F ht⟩) hS.2.2 dX8_lend_56
    · have hR := (if_neg c_3).symm.trans hR
      refine lv_aload_n hx hb dX8_lend_27 rfl (lv_at hl 0 rfl) ?_
      refine lv_bipush (v := (-2 : Int32)) hx hb dX8_lend_28 (by decide) ?_
      have hF := pw_free hD hS hA
      refine va_calli (va_runV (As := [.int (-2 : Int32)]) (rest := []) ⟨hx, hb, hml, hown, hts⟩ (k_X8_refuse l D ca h ad pa tb σ (-2 : Int32) H.size hI _ _ (Prod.eta _).symm) (cwV 1 hts gX8_lend_X8_refuse rfl rfl rfl (by decide +kernel) ⟨Nat.le_of_ble_eq_true rfl, Nat.le_of_ble_eq_true rfl⟩) ⟨cw_blind, va_recv hK hP (ci := 8) (q0 := 0) rfl wc_0, cw_give hP hK hD hZ hS hF⟩ rfl rfl hl.1 rfl (lv_room (Nat.le_of_ble_eq_true rfl)) dX8_lend_30 ⟨Nat.le_of_ble_eq_true rfl, Nat.le_of_ble_eq_true rfl⟩) hS (fun q _ h => hF q h) hF (fun r_42 u t H1 locs ht hvm hw hB hz1 hk1 hS => ?_)
      rw [hw]
      obtain ⟨hB, hI_43⟩ := hB
      obtain ⟨hP, hD⟩ := pw_back hF ht hB
      clear hB hk1 hz1 hF
      generalize H1 = H at hP hS ⊢
      obtain ⟨τc_44, hτc_44⟩ : ∃ t9, (s_X8_refuse σ (-2 : Int32)).2 = t9 := ⟨_, rfl⟩
      rw [hτc_44] at hP hD hI_43
      (try rw [hτc_44] at hR)
      obtain ⟨vc_45, hvc_45⟩ : ∃ t9, (s_X8_refuse σ (-2 : Int32)).1 = t9 := ⟨_, rfl⟩
      rw [hvc_45]
      (try rw [hvc_45] at hR)
      have hI9 : IX τc_44 := hI_43
      obtain ⟨rfl, rfl⟩ := Prod.mk.inj (show (vc_45, τc_44) = (R1, R2) from hR)
      rw [hQ]
      refine W.widen (k := 1) (n := 9) (Nat.le_of_ble_eq_true rfl) (Nat.le_of_ble_eq_true rfl) ?_
      exact W.iret (v := vc_45) hx hb hr (fun t ht hW => ⟨⟨vc_45, (), rfl, rfl, pa, ⟨by rw [ht]; exact hP, va_K.moved hW.alike hK, by rw [← hAe]; exact hD⟩, hI9⟩, hS.F ht⟩) hS.2.2 dX8_lend_33
  · have hR := (if_pos c_2).symm.trans hR
    refine lv_aload_n hx hb dX8_lend_9 rfl (lv_at hl 0 rfl) ?_
    refine lv_iconst (v := (-1 : Int32)) hx hb dX8_lend_10 (by decide) ?_
    have hF := pw_free hD hS hA
    refine va_calli (va_runV (As := [.int (-1 : Int32)]) (rest := []) ⟨hx, hb, hml, hown, hts⟩ (k_X8_refuse l D ca h ad pa tb σ (-1 : Int32) H.size hI _ _ (Prod.eta _).symm) (cwV 1 hts gX8_lend_X8_refuse rfl rfl rfl (by decide +kernel) ⟨Nat.le_of_ble_eq_true rfl, Nat.le_of_ble_eq_true rfl⟩) ⟨cw_blind, va_recv hK hP (ci := 8) (q0 := 0) rfl wc_0, cw_give hP hK hD hZ hS hF⟩ rfl rfl hl.1 rfl (lv_room (Nat.le_of_ble_eq_true rfl)) dX8_lend_11 ⟨Nat.le_of_ble_eq_true rfl, Nat.le_of_ble_eq_true rfl⟩) hS (fun q _ h => hF q h) hF (fun r_46 u t H1 locs ht hvm hw hB hz1 hk1 hS => ?_)
    rw [hw]
    obtain ⟨hB, hI_47⟩ := hB
    obtain ⟨hP, hD⟩ := pw_back hF ht hB
    clear hB hk1 hz1 hF
    generalize H1 = H at hP hS ⊢
    obtain ⟨τc_48, hτc_48⟩ : ∃ t9, (s_X8_refuse σ (-1 : Int32)).2 = t9 := ⟨_, rfl⟩
    rw [hτc_48] at hP hD hI_47
    (try rw [hτc_48] at hR)
    obtain ⟨vc_49, hvc_49⟩ : ∃ t9, (s_X8_refuse σ (-1 : Int32)).1 = t9 := ⟨_, rfl⟩
    rw [hvc_49]
    (try rw [hvc_49] at hR)
    have hI9 : IX τc_48 := hI_47
    obtain ⟨rfl, rfl⟩ := Prod.mk.inj (show (vc_49, τc_48) = (R1, R2) from hR)
    rw [hQ]
    refine W.widen (k := 1) (n := 9) (Nat.le_of_ble_eq_true rfl) (Nat.le_of_ble_eq_true rfl) ?_
    exact W.iret (v := vc_49) hx hb hr (fun t ht hW => ⟨⟨vc_49, (), rfl, rfl, pa, ⟨by rw [ht]; exact hP, va_K.moved hW.alike hK, by rw [← hAe]; exact hD⟩, hI9⟩, hS.F ht⟩) hS.2.2 dX8_lend_14

