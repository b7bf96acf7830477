def s_X8_house (σ : St) (a1 : Int32) : Int32 × St := (if (s_X8_isOwner σ a1) = (0 : Int32) then (((s_X8_refuse σ (-1 : Int32)).1), ((s_X8_refuse σ (-1 : Int32)).2)) else (if (σ 813 0) < (10 : Int32) then ((((σ 813 0) + (1 : Int32)) - (1 : Int32)), (put (put σ 803 ((σ 813 0).toNatClampNeg) a1) 813 0 ((σ 813 0) + (1 : Int32)))) else (((s_X8_refuse σ (-6 : Int32)).1), ((s_X8_refuse σ (-6 : Int32)).2))))
theorem fr_s_X8_house (σ : St) (a1 : Int32) {f : Nat} (h803 : f ≠ 803) (h810 : f ≠ 810) (h813 : f ≠ 813) : (s_X8_house σ a1 ).2 f = σ f := by
  unfold s_X8_house
  all_goals ((try dsimp only) <;> ((repeat' split) <;> (try simp only [put_fr, ne_eq, not_false_eq_true, h803, h810, h813, fr_s_X8_refuse])))
set_option maxHeartbeats 1000000 in
set_option maxRecDepth 100000 in
theorem k_X8_house (l : Launch) (D : va_G) (ca : Nat → ClassId) (h : Nat) (ad : Nat → Nat) (pa : Nat → Nat → Nat) (tb : Nat) (σ : St) (a1 : Int32) (sz : Nat) (hI : IX σ)  (R1 : Int32) (R2 : St) (hR : s_X8_house σ a1 = (R1, R2)) : Met l yX8_house wsX8_house ({ frames := 1, cells := 0, slots := 0, locals := 21 }) (va_Pc [.ref h, .int a1] (cw_pre D ca (WC ca h ad pa σ) sz tb)) (va_Qi (fun (r : Int32) (_ : Unit) => r = R1) (fun (_ : Unit) (t : State) => pw_post D ca (WC ca h ad pa σ) sz (WC ca h ad pa R2) t ∧ IX R2) (va_A (WC ca h ad pa σ) sz)) 0 0 (va_A (WC ca h ad pa σ) sz) := by
  refine Met.ofW (cc := cX8_house) (maxL := 2) (ret := (some .int)) (by decide) rfl ?_
  intro p e s m args below meth c s₁ B hml hv
  obtain ⟨rfl, ⟨hsz, hP, hK, hD0⟩, hZ⟩ := hv
  have hx := B.exec
  have hb := B.bytes
  have hr := B.returns
  have hts := atoms_spec (ws := wsX8_house) B.pre
  have hown : s.vm.findClass RX8 = some m.cls := findClass_of_methodNamed B.named
  have hlocks := B.notSynchronized
  have hu8 : ∀ w ∈ u_ws RX8 TX8 19, w ∈ wsX8_house := fun w h => List.mem_cons_of_mem _ (uw8 w h)
  subst hsz
  have hD := hD0.self (sz := s.heap.size)
  obtain ⟨A, hAe⟩ : ∃ A, A = va_A (WC ca h ad pa σ) s.heap.size := ⟨_, rfl⟩
  rw [← hAe] at hD hZ ⊢
  have hA : ∀ q : Nat, s.heap.size ≤ q → A q := fun q h => by rw [hAe]; exact Or.inr h
  have hS : va_S A s.heap s.heap [] := va_S.rf
  have hl := lv_entry ([.ref h, .int a1]) (n := 2) (Nat.le_of_ble_eq_true rfl)
  rw [lg_entry_eq]
  generalize (lg_sl ([.ref h, .int a1]) ++ List.replicate (2 - (lg_sl ([.ref h, .int a1])).length) Slot.unset).toArray = ls at hl ⊢
  have hl : lv_has ls 2 [(0, .ref h), (1, .int a1)] := hl
  obtain ⟨H, hH⟩ : ∃ H, H = s.heap := ⟨_, rfl⟩
  have hP : va_P D vwCl (WC ca h ad pa σ) H := by rw [hH]; exact hP
  have hS : va_S A s.heap H [] := by rw [hH]; exact hS
  obtain ⟨QQ, hQ⟩ : ∃ Q9, Q9 = MQ below (va_Qi (fun (r : Int32) (_ : Unit) => r = R1) (fun (_ : Unit) (t : State) => pw_post D ca (WC ca h ad pa σ) s.heap.size (WC ca h ad pa R2) t ∧ IX R2) A) ([.ref h, .int a1] : List Value).toArray s 0 0 A := ⟨_, rfl⟩
  rw [← hQ]
  show W _ _ _ _ _ _ _ _ _ _ s.heap _ _ _ _ _
  rw [← hH]
  have hR : (if (s_X8_isOwner σ a1) = (0 : Int32) then (((s_X8_refuse σ (-1 : Int32)).1), ((s_X8_refuse σ (-1 : Int32)).2)) else (if (σ 813 0) < (10 : Int32) then ((((σ 813 0) + (1 : Int32)) - (1 : Int32)), (put (put σ 803 ((σ 813 0).toNatClampNeg) a1) 813 0 ((σ 813 0) + (1 : Int32)))) else (((s_X8_refuse σ (-6 : Int32)).1), ((s_X8_refuse σ (-6 : Int32)).2)))) = (R1, R2) := hR
  refine lv_aload_n hx hb dX8_house_0 rfl (lv_at hl 0 rfl) ?_
  refine lv_iload_n hx hb dX8_house_1 rfl (lv_at hl 1 rfl) ?_
  have hF := pw_free hD hS hA
  refine va_calli (va_runV (As := [.int a1]) (rest := []) ⟨hx, hb, hml, hown, hts⟩ (k_X8_isOwner l D ca h ad pa tb σ a1 H.size hI _ rfl) (cwV 1 hts gX8_house_X8_isOwner rfl rfl rfl (by decide +kernel) ⟨Nat.le_of_ble_eq_true rfl, Nat.le_of_ble_eq_true rfl⟩) ⟨cw_blind, va_recv hK hP (ci := 8) (q0 := 0) rfl wc_0, cw_give hP hK hD hZ hS hF⟩ rfl rfl hl.1 rfl (lv_room (Nat.le_of_ble_eq_true rfl)) dX8_house_2 ⟨Nat.le_of_ble_eq_true rfl, Nat.le_of_ble_eq_true rfl⟩) hS (fun q _ h => hF q h) hF (fun r_1 u t H1 locs ht hvm hw hB hz1 hk1 hS => ?_)
  rw [hw]
  obtain ⟨hP, hD⟩ := pw_back hF ht hB
  clear hB hk1 hz1 hF
  generalize H1 = H at hP hS ⊢
  refine lv_if_ne (tgt := 14) hx hb dX8_house_5 (by decide) (fun c_2 => ?_) (fun c_2 => ?_)
  · have hR := (if_neg c_2).symm.trans hR
    refine lv_aload_n hx hb dX8_house_14 rfl (lv_at hl 0 rfl) ?_
    refine va_get (D := D) (ci := 8) (v := .int (σ 813 0)) (C := RX8) (T := TX8) (N := 19) hx hb hts hu8 hown hK hP 0 wc_0 rfl 13 (by decide) (hts (.fieldLink RX8 82 "GrazeBook" "houseCount" "I") (List.mem_cons_of_mem _ mw_223)) (fun _ h9 => h9) rfl dX8_house_15 ?_
    refine lv_bipush (v := (10 : Int32)) hx hb dX8_house_18 (by decide) ?_
    refine lv_icmp_lt (tgt := 30) hx hb dX8_house_20 (by decide) (fun c_3 => ?_) (fun c_3 => ?_)
    · have hR := (if_pos c_3).symm.trans hR
      refine lv_aload_n hx hb dX8_house_30 rfl (lv_at hl 0 rfl) ?_
      refine va_get (D := D) (ci := 8) (v := .ref (ad 803)) (C := RX8) (T := TX8) (N := 19) hx hb hts hu8 hown hK hP 0 wc_0 rfl 3 (by decide) (hts (.fieldLink RX8 28 "GrazeBook" "houses" "[I") (List.mem_cons_of_mem _ mw_213)) (fun _ h9 => h9) rfl dX8_house_31 ?_
      refine lv_aload_n hx hb dX8_house_34 rfl (lv_at hl 0 rfl) ?_
      refine va_get (D := D) (ci := 8) (v := .int (σ 813 0)) (C := RX8) (T := TX8) (N := 19) hx hb hts hu8 hown hK hP 0 wc_0 rfl 13 (by decide) (hts (.fieldLink RX8 82 "GrazeBook" "houseCount" "I") (List.mem_cons_of_mem _ mw_223)) (fun _ h9 => h9) rfl dX8_house_35 ?_
      refine lv_iload_n hx hb dX8_house_38 rfl (lv_at hl 1 rfl) ?_
      refine va_iast_k (k := ((σ 813 0).toNatClampNeg)) hx hb hK hP hD hS 10 0 wc_10 rfl rfl (ix_ltn (ix_813 hI) c_3 (by decide)) dX8_house_39 (fun H locs hP hD hS => ?_)
      rw [wc_s803] at hP hD
      refine lv_aload_n hx hb dX8_house_40 rfl (lv_at hl 0 rfl) ?_
      refine lv_dup hx hb dX8_house_41 rfl ?_
      refine va_get (D := D) (ci := 8) (v := .int (σ 813 0)) (C := RX8) (T := TX8) (N := 19) hx hb hts hu8 hown hK hP 0 wc_0 rfl 13 (by decide) (hts (.fieldLink RX8 82 "GrazeBook" "houseCount" "I") (List.mem_cons_of_mem _ mw_223)) (fun _ h9 => h9) rfl dX8_house_42 ?_
      refine lv_iconst (v := (1 : Int32)) hx hb dX8_house_45 (by decide) ?_
      refine lv_iadd hx hb dX8_house_46 ?_
      refine va_put (D := D) (ci := 8) (v := .int ((σ 813 0) + (1 : Int32))) (ty := .int) (C := RX8) (T := TX8) (N := 19) hx hb hts hu8 tyX8 tyX8_ok nmX8 hown hK hP hD hS 0 wc_0 rfl 13 (by decide) (hts (.fieldLink RX8 82 "GrazeBook" "houseCount" "I") (List.mem_cons_of_mem _ mw_223)) (fun _ h9 => h9) rfl (by decide +kernel) rfl rfl (Nat.le_of_ble_eq_true rfl) dX8_house_47 (fun H locs hP hD hS => ?_)
      rw [wc_p813] at hP hD
      refine lv_aload_n hx hb dX8_house_50 rfl (lv_at hl 0 rfl) ?_
      refine va_get (D := D) (ci := 8) (v := .int ((σ 813 0) + (1 : Int32))) (C := RX8) (T := TX8) (N := 19) hx hb hts hu8 hown hK hP 0 wc_0 rfl 13 (by decide) (hts (.fieldLink RX8 82 "GrazeBook" "houseCount" "I") (List.mem_cons_of_mem _ mw_223)) (fun _ h9 => h9) rfl dX8_house_51 ?_
      refine lv_iconst (v := (1 : Int32)) hx hb dX8_house_54 (by decide) ?_
      refine lv_isub hx hb dX8_house_55 ?_
      have hI9 : IX (put (put σ 803 ((σ 813 0).toNatClampNeg) a1) 813 0 ((σ 813 0) + (1 : Int32))) := (ix_put813 (σ := (put σ 803 ((σ 813 0).toNatClampNeg) a1)) hI (ix_inc (ix_813 hI) c_3 (by decide) (by decide)))
      obtain ⟨rfl, rfl⟩ := Prod.mk.inj (show ((((σ 813 0) + (1 : Int32)) - (1 : Int32)), (put (put σ 803 ((σ 813 0).toNatClampNeg) a1) 813 0 ((σ 813 0) + (1 : Int32)))) = (R1, R2) from hR)
      rw [hQ]
      exact W.iret (v := (((σ 813 0) + (1 : Int32)) - (1 : Int32))) hx hb hr (fun t ht hW => ⟨⟨(((σ 813 0) + (1 : Int32)) - (1 : Int32)), (), rfl, rfl, ⟨by rw [ht]; exact hP, va_K.moved hW.alike hK, by rw [← hAe]; exact hD⟩, hI9⟩, hS.F ht⟩) hS.2.2 dX8_house_56
    · have hR := (if_neg c_3).symm.trans hR
      refine lv_aload_n hx hb dX8_house_23 rfl (lv_at hl 0 rfl) ?_
      refine lv_bipush (v := (-6 : Int32)) hx hb dX8_house_24 (by decide) ?_
      have hF := pw_free hD hS hA
      refine va_calli (va_runV (As := [.int (-6 : Int32)]) (rest := []) ⟨hx, hb, hml, hown, hts⟩ (k_X8_refuse l D ca h ad pa tb σ (-6 : Int32) H.size hI _ _ (Prod.eta _).symm) (cwV 1 hts gX8_house_X8_refuse rfl rfl rfl (by decide +kernel) ⟨Nat.le_of_ble_eq_true rfl, Nat.le_of_ble_eq_true rfl⟩) ⟨cw_blind, va_recv hK hP (ci := 8) (q0 := 0) rfl wc_0, cw_give hP hK hD hZ hS hF⟩ rfl rfl hl.1 rfl (lv_room (Nat.le_of_ble_eq_true rfl)) dX8_house_26 ⟨Nat.le_of_ble_eq_true rfl, Nat.le_of_ble_eq_true rfl⟩) hS (fun q _ h => hF q h) hF (fun r_4 u t H1 locs ht hvm hw hB hz1 hk1 hS => ?_)
      rw [hw]
      obtain ⟨hB, hI_5⟩ := hB
      obtain ⟨hP, hD⟩ := pw_back hF ht hB
      clear hB hk1 hz1 hF
      generalize H1 = H at hP hS ⊢
      obtain ⟨τc_6, hτc_6⟩ : ∃ t9, (s_X8_refuse σ (-6 : Int32)).2 = t9 := ⟨_, rfl⟩
      rw [hτc_6] at hP hD hI_5
      (try rw [hτc_6] at hR)
      obtain ⟨vc_7, hvc_7⟩ : ∃ t9, (s_X8_refuse σ (-6 : Int32)).1 = t9 := ⟨_, rfl⟩
      rw [hvc_7]
      (try rw [hvc_7] at hR)
      have hI9 : IX τc_6 := hI_5
      obtain ⟨rfl, rfl⟩ := Prod.mk.inj (show (vc_7, τc_6) = (R1, R2) from hR)
      rw [hQ]
      exact W.iret (v := vc_7) hx hb hr (fun t ht hW => ⟨⟨vc_7, (), rfl, rfl, ⟨by rw [ht]; exact hP, va_K.moved hW.alike hK, by rw [← hAe]; exact hD⟩, hI9⟩, hS.F ht⟩) hS.2.2 dX8_house_29
  · have hR := (if_pos c_2).symm.trans hR
    refine lv_aload_n hx hb dX8_house_8 rfl (lv_at hl 0 rfl) ?_
    refine lv_iconst (v := (-1 : Int32)) hx hb dX8_house_9 (by decide) ?_
    have hF := pw_free hD hS hA
    refine va_calli (va_runV (As := [.int (-1 : Int32)]) (rest := []) ⟨hx, hb, hml, hown, hts⟩ (k_X8_refuse l D ca h ad pa tb σ (-1 : Int32) H.size hI _ _ (Prod.eta _).symm) (cwV 1 hts gX8_house_X8_refuse rfl rfl rfl (by decide +kernel) ⟨Nat.le_of_ble_eq_true rfl, Nat.le_of_ble_eq_true rfl⟩) ⟨cw_blind, va_recv hK hP (ci := 8) (q0 := 0) rfl wc_0, cw_give hP hK hD hZ hS hF⟩ rfl rfl hl.1 rfl (lv_room (Nat.le_of_ble_eq_true rfl)) dX8_house_10 ⟨Nat.le_of_ble_eq_true rfl, Nat.le_of_ble_eq_true rfl⟩) hS (fun q _ h => hF q h) hF (fun r_8 u t H1 locs ht hvm hw hB hz1 hk1 hS => ?_)
    rw [hw]
    obtain ⟨hB, hI_9⟩ := hB
    obtain ⟨hP, hD⟩ := pw_back hF ht hB
    clear hB hk1 hz1 hF
    generalize H1 = H at hP hS ⊢
    obtain ⟨τc_10, hτc_10⟩ : ∃ t9, (s_X8_refuse σ (-1 : Int32)).2 = t9 := ⟨_, rfl⟩
    rw [hτc_10] at hP hD hI_9
    (try rw [hτc_10] at hR)
    obtain ⟨vc_11, hvc_11⟩ : ∃ t9, (s_X8_refuse σ (-1 : Int32)).1 = t9 := ⟨_, rfl⟩
    rw [hvc_11]
    (try rw [hvc_11] at hR)
    have hI9 : IX τc_10 := hI_9
    obtain ⟨rfl, rfl⟩ := Prod.mk.inj (show (vc_11, τc_10) = (R1, R2) from hR)
    rw [hQ]
    exact W.iret (v := vc_11) hx hb hr (fun t ht hW => ⟨⟨vc_11, (), rfl, rfl, ⟨by rw [ht]; exact hP, va_K.moved hW.alike hK, by rw [← hAe]; exact hD⟩, hI9⟩, hS.F ht⟩) hS.2.2 dX8_house_13

def s_X8_rate (σ : St) (a1 : Int32) (a2 : Int32) (a3 : Int32) : Int32 × St := (if (s_X7_isWeather a1 a2) = (0 : Int32) then (((s_X8_refuse σ (-2 : Int32)).1), ((s_X8_refuse σ (-2 : Int32)).2)) else (if (0 : Int32) ≤ a3 then (if a3 ≤ (1000 : Int32) then (((s_X7_changeRate σ a1 a2 a3).1), ((s_X7_changeRate σ a1 a2 a3).2)) else (((s_X8_refuse σ (-6 : Int32)).1), ((s_X8_refuse σ (-6 : Int32)).2))) else (((s_X8_refuse σ (-4 : Int32)).1), ((s_X8_refuse σ (-4 : Int32)).2))))
theorem fr_s_X8_rate (σ : St) (a1 : Int32) (a2 : Int32) (a3 : Int32) {f : Nat} (h700 : f ≠ 700) (h810 : f ≠ 810) : (s_X8_rate σ a1 a2 a3 ).2 f = σ f := by
  unfold s_X8_rate
  all_goals ((try dsimp only) <;> ((repeat' split) <;> (try simp only [put_fr, ne_eq, not_false_eq_true, h700, h810, fr_s_X7_changeRate, fr_s_X8_refuse])))
set_option maxHeartbeats 1000000 in
set_option maxRecDepth 100000 in
theorem k_X8_rate (l : Launch) (D : va_G) (ca : Nat → ClassId) (h : Nat) (ad : Nat → Nat) (pa : Nat → Nat → Nat) (tb : Nat) (σ : St) (a1 : Int32) (a2 : Int32) (a3 : Int32) (sz : Nat) (hI : IX σ)  (R1 : Int32) (R2 : St) (hR : s_X8_rate σ a1 a2 a3 = (R1, R2)) : Met l yX8_rate wsX8_rate ({ frames := 2, cells := 0, slots := 0, locals := 45 }) (va_Pc [.ref h, .int a1, .int a2, .int a3] (cw_pre D ca (WC ca h ad pa σ) sz tb)) (va_Qi (fun (r : Int32) (_ : Unit) => r = R1) (fun (_ : Unit) (t : State) => pw_post D ca (WC ca h ad pa σ) sz (WC ca h ad pa R2) t ∧ IX R2) (va_A (WC ca h ad pa σ) sz)) 0 0 (va_A (WC ca h ad pa σ) sz) := by
  refine Met.ofW (cc := cX8_rate) (maxL := 4) (ret := (some .int)) (by decide) rfl ?_
  intro p e s m args below meth c s₁ B hml hv
  obtain ⟨rfl, ⟨hsz, hP, hK, hD0⟩, hZ⟩ := hv
  have hx := B.exec
  have hb := B.bytes
  have hr := B.returns
  have hts := atoms_spec (ws := wsX8_rate) B.pre
  have hown : s.vm.findClass RX8 = some m.cls := findClass_of_methodNamed B.named
  have hlocks := B.notSynchronized
  have hu8 : ∀ w ∈ u_ws RX8 TX8 19, w ∈ wsX8_rate := fun w h => List.mem_cons_of_mem _ (uw8 w h)
  subst hsz
  have hD := hD0.self (sz := s.heap.size)
  obtain ⟨A, hAe⟩ : ∃ A, A = va_A (WC ca h ad pa σ) s.heap.size := ⟨_, rfl⟩
  rw [← hAe] at hD hZ ⊢
  have hA : ∀ q : Nat, s.heap.size ≤ q → A q := fun q h => by rw [hAe]; exact Or.inr h
  have hS : va_S A s.heap s.heap [] := va_S.rf
  have hl := lv_entry ([.ref h, .int a1, .int a2, .int a3]) (n := 4) (Nat.le_of_ble_eq_true rfl)
  rw [lg_entry_eq]
  generalize (lg_sl ([.ref h, .int a1, .int a2, .int a3]) ++ List.replicate (4 - (lg_sl ([.ref h, .int a1, .int a2, .int a3])).length) Slot.unset).toArray = ls at hl ⊢
  have hl : lv_has ls 4 [(0, .ref h), (1, .int a1), (2, .int a2), (3, .int a3)] := hl
  obtain ⟨H, hH⟩ : ∃ H, H = s.heap := ⟨_, rfl⟩
  have hP : va_P D vwCl (WC ca h ad pa σ) H := by rw [hH]; exact hP
  have hS : va_S A s.heap H [] := by rw [hH]; exact hS
  obtain ⟨QQ, hQ⟩ : ∃ Q9, Q9 = MQ below (va_Qi (fun (r : Int32) (_ : Unit) => r = R1) (fun (_ : Unit) (t : State) => pw_post D ca (WC ca h ad pa σ) s.heap.size (WC ca h ad pa R2) t ∧ IX R2) A) ([.ref h, .int a1, .int a2, .int a3] : List Value).toArray s 0 0 A := ⟨_, rfl⟩
  rw [← hQ]
  show W _ _ _ _ _ _ _ _ _ _ s.heap _ _ _ _ _
  rw [← hH]
  have hR : (if (s_X7_isWeather a1 a2) = (0 : Int32) then (((s_X8_refuse σ (-2 : Int32)).1), ((s_X8_refuse σ (-2 : Int32)).2)) else (if (0 : Int32) ≤ a3 then (if a3 ≤ (1000 : Int32) then (((s_X7_changeRate σ a1 a2 a3).1), ((s_X7_changeRate σ a1 a2 a3).2)) else (((s_X8_refuse σ (-6 : Int32)).1), ((s_X8_refuse σ (-6 : Int32)).2))) else (((s_X8_refuse σ (-4 : Int32)).1), ((s_X8_refuse σ (-4 : Int32)).2)))) = (R1, R2) := hR
  refine lv_iload_n hx hb dX8_rate_0 rfl (lv_at hl 1 rfl) ?_
  refine lv_iload_n hx hb dX8_rate_1 rfl (lv_at hl 2 rfl) ?_
  have hF := pw_free (pn_D (A := A)) hS hA
  refine va_calli (va_runS (As := [.int a1, .int a2]) (rest := []) ⟨hx, hb, hml, hown, hts⟩ (k_X7_isWeather l D ca a1 a2 H.size _ rfl) (va_cwS 2 hts gX8_rate_X7_isWeather rfl rfl rfl (by decide +kernel) ⟨Nat.le_of_ble_eq_true rfl, Nat.le_of_ble_eq_true rfl⟩) ⟨pw_blind, pw_give pn_P hK (pn_D (A := A))⟩ rfl rfl hl.1 rfl (lv_room (Nat.le_of_ble_eq_true rfl)) dX8_rate_2 ⟨Nat.le_of_ble_eq_true rfl, Nat.le_of_ble_eq_true rfl⟩) hS (fun q _ h => hF q h) hF (fun r_1 u t H1 locs ht hvm hw hB hz1 hk1 hS => ?_)
  subst hw
  have hP := pn_back hP hk1
  clear hB hk1 hz1 hF
  generalize H1 = H at hP hS ⊢
  refine lv_if_ne (tgt := 15) hx hb dX8_rate_5 (by decide) (fun c_2 => ?_) (fun c_2 => ?_)
  · have hR := (if_neg c_2).symm.trans hR
    refine lv_iload_n hx hb dX8_rate_15 rfl (lv_at hl 3 rfl) ?_
    refine lv_if_ge (tgt := 26) hx hb dX8_rate_16 (by decide) (fun c_3 => ?_) (fun c_3 => ?_)
    · have hR := (if_pos c_3).symm.trans hR
      refine lv_iload_n hx hb dX8_rate_26 rfl (lv_at hl 3 rfl) ?_
      refine lv_sipush (v := (1000 : Int32)) hx hb dX8_rate_27 (by decide) ?_
      refine lv_icmp_le (tgt := 40) hx hb dX8_rate_30 (by decide) (fun c_4 => ?_) (fun c_4 => ?_)
      · have hR := (if_pos c_4).symm.trans hR
        refine lv_aload_n hx hb dX8_rate_40 rfl (lv_at hl 0 rfl) ?_
        refine va_get (D := D) (ci := 8) (v := .ref (ad 806)) (C := RX8) (T := TX8) (N := 19) hx hb hts hu8 hown hK hP 0 wc_0 rfl 6 (by decide) (hts (.fieldLink RX8 47 "GrazeBook" "year" "LGrazeBook$Year;") (List.mem_cons_of_mem _ mw_216)) (fun _ h9 => h9) rfl dX8_rate_41 ?_
        refine lv_iload_n hx hb dX8_rate_44 rfl (lv_at hl 1 rfl) ?_
        refine lv_iload_n hx hb dX8_rate_45 rfl (lv_at hl 2 rfl) ?_
        refine lv_iload_n hx hb dX8_rate_46 rfl (lv_at hl 3 rfl) ?_
        have hF := pw_free hD hS hA
        refine va_calli (va_runV (As := [.int a1, .int a2, .int a3]) (rest := []) ⟨hx, hb, hml, hown, hts⟩ (k_X7_changeRate l D ca h ad pa tb σ a1 a2 a3 H.size hI _ _ (Prod.eta _).symm) (cwV 3 hts gX8_rate_X7_changeRate rfl rfl rfl (by decide +kernel) ⟨Nat.le_of_ble_eq_true rfl, Nat.le_of_ble_eq_true rfl⟩) ⟨cw_blind, va_recv hK hP (ci := 7) (q0 := 2) rfl wc_2, cw_give hP hK hD hZ hS hF⟩ rfl rfl hl.1 rfl (lv_room (Nat.le_of_ble_eq_true rfl)) dX8_rate_47 ⟨Nat.le_of_ble_eq_true rfl, Nat.le_of_ble_eq_true rfl⟩) hS (fun q _ h => hF q h) hF (fun r_5 u t H1 locs ht hvm hw hB hz1 hk1 hS => ?_)
        rw [hw]
        obtain ⟨hB, hI_6⟩ := hB
        obtain ⟨hP, hD⟩ := pw_back hF ht hB
        clear hB hk1 hz1 hF
        generalize H1 = H at hP hS ⊢
        obtain ⟨τc_7, hτc_7⟩ : ∃ t9, (s_X7_changeRate σ a1 a2 a3).2 = t9 := ⟨_, rfl⟩
        rw [hτc_7] at hP hD hI_6
        (try rw [hτc_7] at hR)
        obtain ⟨vc_8, hvc_8⟩ : ∃ t9, (s_X7_changeRate σ a1 a2 a3).1 = t9 := ⟨_, rfl⟩
        rw [hvc_8]
        (try rw [hvc_8] at hR)
        have hI9 : IX τc_7 := hI_6
        obtain ⟨rfl, rfl⟩ := Prod.mk.inj (show (vc_8, τc_7) = (R1, R2) from hR)
        rw [hQ]
        exact W.iret (v := vc_8) hx hb hr (fun t ht hW => ⟨⟨vc_8, (), rfl, rfl, ⟨by rw [ht]; exact hP, va_K.moved hW.alike hK, by rw [← hAe]; exact hD⟩, hI9⟩, hS.F ht⟩) hS.2.2 dX8_rate_50
      · have hR := (if_neg c_4).symm.trans hR
        refine lv_aload_n hx hb dX8_rate_33 rfl (lv_at hl 0 rfl) ?_
        refine lv_bipush (v := (-6 : Int32)) hx hb dX8_rate_34 (by decide) ?_
        have hF := pw_free hD hS hA
        refine va_calli (va_runV (As := [.int (-6 : Int32)]) (rest := []) ⟨hx, hb, hml, hown, hts⟩ (k_X8_refuse l D ca h ad pa tb σ (-6 : Int32) H.size hI _ _ (Prod.eta _).symm) (cwV 1 hts gX8_rate_X8_refuse rfl rfl rfl (by decide +kernel) ⟨Nat.le_of_ble_eq_true rfl, Nat.le_of_ble_eq_true rfl⟩) ⟨cw_blind, va_recv hK hP (ci := 8) (q0 := 0) rfl wc_0, cw_give hP hK hD hZ hS hF⟩ rfl rfl hl.1 rfl (lv_room (Nat.le_of_ble_eq_true rfl)) dX8_rate_36 ⟨Nat.le_of_ble_eq_true rfl, Nat.le_of_ble_eq_true rfl⟩) hS (fun q _ h => hF q h) hF (fun r_9 u t H1 locs ht hvm hw hB hz1 hk1 hS => ?_)
        rw [hw]
        obtain ⟨hB, hI_10⟩ := hB
        obtain ⟨hP, hD⟩ := pw_back hF ht hB
        clear hB hk1 hz1 hF
        generalize H1 = H at hP hS ⊢
        obtain ⟨τc_11, hτc_11⟩ : ∃ t9, (s_X8_refuse σ (-6 : Int32)).2 = t9 := ⟨_, rfl⟩
        rw [hτc_11] at hP hD hI_10
        (try rw [hτc_11] at hR)
        obtain ⟨vc_12, hvc_12⟩ : ∃ t9, (s_X8_refuse σ (-6 : Int32)).1 = t9 := ⟨_, rfl⟩
        rw [hvc_12]
        (try rw [hvc_12] at hR)
        have hI9 : IX τc_11 := hI_10
        obtain ⟨rfl, rfl⟩ := Prod.mk.inj (show (vc_12, τc_11) = (R1, R2) from hR)
        rw [hQ]
        exact W.iret (v := vc_12) hx hb hr (fun t ht hW => ⟨⟨vc_12, (), rfl, rfl, ⟨by rw [ht]; exact hP, va_K.moved hW.alike hK, by rw [← hAe]; exact hD⟩, hI9⟩, hS.F ht⟩) hS.2.2 dX8_rate_39
    · have hR := (if_neg c_3).symm.trans hR
      refine lv_aload_n hx hb dX8_rate_19 rfl (lv_at hl 0 rfl) ?_
      refine lv_bipush (v := (-4 : Int32)) hx hb dX8_rate_20 (by decide) ?_
      have hF := pw_free hD hS hA
      refine va_calli (va_runV (As := [.int (-4 : Int32)]) (rest := []) ⟨hx, hb, hml, hown, hts⟩ (k_X8_refuse l D ca h ad pa tb σ (-4 : Int32) H.size hI _ _ (Prod.eta _).symm) (cwV 1 hts gX8_rate_X8_refuse rfl rfl rfl (by decide +kernel) ⟨Nat.le_of_ble_eq_true rfl, Nat.le_of_ble_eq_true rfl⟩) ⟨cw_blind, va_recv hK hP (ci := 8) (q0 := 0) rfl wc_0, cw_give hP hK hD hZ hS hF⟩ rfl rfl hl.1 rfl (lv_room (Nat.le_of_ble_eq_true rfl)) dX8_rate_22 ⟨Nat.le_of_ble_eq_true rfl, Nat.le_of_ble_eq_true rfl⟩) hS (fun q _ h => hF q h) hF (fun r_13 u t H1 locs ht hvm hw hB hz1 hk1 hS => ?_)
      rw [hw]
      obtain ⟨hB, hI_14⟩ := hB
      obtain ⟨hP, hD⟩ := pw_back hF ht hB
      clear hB hk1 hz1 hF
      generalize H1 = H at hP hS ⊢
      obtain ⟨τc_15, hτc_15⟩ : ∃ t9, (s_X8_refuse σ (-4 : Int32)).2 = t9 := ⟨_, rfl⟩
      rw [hτc_15] at hP hD hI_14
      (try rw [hτc_15] at hR)
      obtain ⟨vc_16, hvc_16⟩ : ∃ t9, (s_X8_refuse σ (-4 : Int32)).1 = t9 := ⟨_, rfl⟩
      rw [hvc_16]
      (try rw [hvc_16] at hR)
      have hI9 : IX τc_15 := hI_14
      obtain ⟨rfl, rfl⟩ := Prod.mk.inj (show (vc_16, τc_15) = (R1, R2) from hR)
      rw [hQ]
      exact W.iret (v := vc_16) hx hb hr (fun t ht hW => ⟨⟨vc_16, (), rfl, rfl, ⟨by rw [ht]; exact hP, va_K.moved hW.alike hK, by rw [← hAe]; exact hD⟩, hI9⟩, hS.F ht⟩) hS.2.2 dX8_rate_25
  · have hR := (if_pos c_2).symm.trans hR
    refine lv_aload_n hx hb dX8_rate_8 rfl (lv_at hl 0 rfl) ?_
    refine lv_bipush (v := (-2 : Int32)) hx hb dX8_rate_9 (by decide) ?_
    have hF := pw_free hD hS hA
    refine va_calli (va_runV (As := [.int (-2 : Int32)]) (rest := []) ⟨hx, hb, hml, hown, hts⟩ (k_X8_refuse l D ca h ad pa tb σ (-2 : Int32) H.size hI _ _ (Prod.eta _).symm) (cwV 1 hts gX8_rate_X8_refuse rfl rfl rfl (by decide +kernel) ⟨Nat.le_of_ble_eq_true rfl, Nat.le_of_ble_eq_true rfl⟩) ⟨cw_blind, va_recv hK hP (ci := 8) (q0 := 0) rfl wc_0, cw_give hP hK hD hZ hS hF⟩ rfl rfl hl.1 rfl (lv_room (Nat.le_of_ble_eq_true rfl)) dX8_rate_11 ⟨Nat.le_of_ble_eq_true rfl, Nat.le_of_ble_eq_true rfl⟩) hS (fun q _ h => hF q h) hF (fun r_17 u t H1 locs ht hvm hw hB hz1 hk1 hS => ?_)
    rw [hw]
    obtain ⟨hB, hI_18⟩ := hB
    obtain ⟨hP, hD⟩ := pw_back hF ht hB
    clear hB hk1 hz1 hF
    generalize H1 = H at hP hS ⊢
    obtain ⟨τc_19, hτc_19⟩ : ∃ t9, (s_X8_refuse σ (-2 : Int32)).2 = t9 := ⟨_, rfl⟩
    rw [hτc_19] at hP hD hI_18
    (try rw [hτc_19] at hR)
    obtain ⟨vc_20, hvc_20⟩ : ∃ t9, (s_X8_refuse σ (-2 : Int32)).1 = t9 := ⟨_, rfl⟩
    rw [hvc_20]
    (try rw [hvc_20] at hR)
    have hI9 : IX τc_19 := hI_18
    obtain ⟨rfl, rfl⟩ := Prod.mk.inj (show (vc_20, τc_19) = (R1, R2) from hR)
    rw [hQ]
    exact W.iret (v := vc_20) hx hb hr (fun t ht hW => ⟨⟨vc_20, (), rfl, rfl, ⟨by rw [ht]; exact hP, va_K.moved hW.alike hK, by rw [← hAe]; exact hD⟩, hI9⟩, hS.F ht⟩) hS.2.2 dX8_rate_14

def s_X8_weather (σ : St) (a1 : Int32) (a2 : Int32) (a3 : Int32) : Int32 × St := (if (s_X7_isWeather a2 a3) = (0 : Int32) then (((s_X8_refuse σ (-2 : Int32)).1), ((s_X8_refuse σ (-2 : Int32)).2)) else (if (0 : Int32) ≤ a1 then (if a1 ≤ (720 : Int32) then ((1 : Int32), (s_X7_changeWeather σ a1 a2 a3)) else (((s_X8_refuse σ (-6 : Int32)).1), ((s_X8_refuse σ (-6 : Int32)).2))) else (((s_X8_refuse σ (-4 : Int32)).1), ((s_X8_refuse σ (-4 : Int32)).2))))
theorem fr_s_X8_weather (σ : St) (a1 : Int32) (a2 : Int32) (a3 : Int32) {f : Nat} (h701 : f ≠ 701) (h810 : f ≠ 810) : (s_X8_weather σ a1 a2 a3 ).2 f = σ f := by
  unfold s_X8_weather
  all_goals ((try dsimp only) <;> ((repeat' split) <;> (try simp only [put_fr, ne_eq, not_false_eq_true, h701, h810, fr_s_X7_changeWeather, fr_s_X8_refuse])))
set_option maxHeartbeats 1000000 in
set_option maxRecDepth 100000 in
theorem k_X8_weather (l : Launch) (D : va_G) (ca : Nat → ClassId) (h : Nat) (ad : Nat → Nat) (pa : Nat → Nat → Nat) (tb : Nat) (σ : St) (a1 : Int32) (a2 : Int32) (a3 : Int32) (sz : Nat) (hI : IX σ)  (R1 : Int32) (R2 : St) (hR : s_X8_weather σ a1 a2 a3 = (R1, R2)) : Met l yX8_weather wsX8_weather ({ frames := 2, cells := 0, slots := 0, locals := 44 }) (va_Pc [.ref h, .int a1, .int a2, .int a3] (cw_pre D ca (WC ca h ad pa σ) sz tb)) (va_Qi (fun (r : Int32) (_ : Unit) => r = R1) (fun (_ : Unit) (t : State) => pw_post D ca (WC ca h ad pa σ) sz (WC ca h ad pa R2) t ∧ IX R2) (va_A (WC ca h ad pa σ) sz)) 0 0 (va_A (WC ca h ad pa σ) sz) := by
  refine Met.ofW (cc := cX8_weather) (maxL := 4) (ret := (some .int)) (by decide) rfl ?_
  intro p e s m args below meth c s₁ B hml hv
  obtain ⟨rfl, ⟨hsz, hP, hK, hD0⟩, hZ⟩ := hv
  have hx := B.exec
  have hb := B.bytes
  have hr := B.returns
  have hts := atoms_spec (ws := wsX8_weather) B.pre
  have hown : s.vm.findClass RX8 = some m.cls := findClass_of_methodNamed B.named
  have hlocks := B.notSynchronized
  have hu8 : ∀ w ∈ u_ws RX8 TX8 19, w ∈ wsX8_weather := fun w h => List.mem_cons_of_mem _ (uw8 w h)
  subst hsz
  have hD := hD0.self (sz := s.heap.size)
  obtain ⟨A, hAe⟩ : ∃ A, A = va_A (WC ca h ad pa σ) s.heap.size := ⟨_, rfl⟩
  rw [← hAe] at hD hZ ⊢
  have hA : ∀ q : Nat, s.heap.size ≤ q → A q := fun q h => by rw [hAe]; exact Or.inr h
  have hS : va_S A s.heap s.heap [] := va_S.rf
  have hl := lv_entry ([.ref h, .int a1, .int a2, .int a3]) (n := 4) (Nat.le_of_ble_eq_true rfl)
  rw [lg_entry_eq]
  generalize (lg_sl ([.ref h, .int a1, .int a2, .int a3]) ++ List.replicate (4 - (lg_sl ([.ref h, .int a1, .int a2, .int a3])).length) Slot.unset).toArray = ls at hl ⊢
  have hl : lv_has ls 4 [(0, .ref h), (1, .int a1), (2, .int a2), (3, .int a3)] := hl
  obtain ⟨H, hH⟩ : ∃ H, H = s.heap := ⟨_, rfl⟩
  have hP : va_P D vwCl (WC ca h ad pa σ) H := by rw [hH]; exact hP
  have hS : va_S A s.heap H [] := by rw [hH]; exact hS
  obtain ⟨QQ, hQ⟩ : ∃ Q9, Q9 = MQ below (va_Qi (fun (r : Int32) (_ : Unit) => r = R1) (fun (_ : Unit) (t : State) => pw_post D ca (WC ca h ad pa σ) s.heap.size (WC ca h ad pa R2) t ∧ IX R2) A) ([.ref h, .int a1, .int a2, .int a3] : List Value).toArray s 0 0 A := ⟨_, rfl⟩
  rw [← hQ]
  show W _ _ _ _ _ _ _ _ _ _ s.heap _ _ _ _ _
  rw [← hH]
  have hR : (if (s_X7_isWeather a2 a3) = (0 : Int32) then (((s_X8_refuse σ (-2 : Int32)).1), ((s_X8_refuse σ (-2 : Int32)).2)) else (if (0 : Int32) ≤ a1 then (if a1 ≤ (720 : Int32) then ((1 : Int32), (s_X7_changeWeather σ a1 a2 a3)) else (((s_X8_refuse σ (-6 : Int32)).1), ((s_X8_refuse σ (-6 : Int32)).2))) else (((s_X8_refuse σ (-4 : Int32)).1), ((s_X8_refuse σ (-4 : Int32)).2)))) = (R1, R2) := hR
  refine lv_iload_n hx hb dX8_weather_0 rfl (lv_at hl 2 rfl) ?_
  refine lv_iload_n hx hb dX8_weather_1 rfl (lv_at hl 3 rfl) ?_
  have hF := pw_free (pn_D (A := A)) hS hA
  refine va_calli (va_runS (As := [.int a2, .int a3]) (rest := []) ⟨hx, hb, hml, hown, hts⟩ (k_X7_isWeather l D ca a2 a3 H.size _ rfl) (va_cwS 2 hts gX8_weather_X7_isWeather rfl rfl rfl (by decide +kernel) ⟨Nat.le_of_ble_eq_true rfl, Nat.le_of_ble_eq_true rfl⟩) ⟨pw_blind, pw_give pn_P hK (pn_D (A := A))⟩ rfl rfl hl.1 rfl (lv_room (Nat.le_of_ble_eq_true rfl)) dX8_weather_2 ⟨Nat.le_of_ble_eq_true rfl, Nat.le_of_ble_eq_true rfl⟩) hS (fun q _ h => hF q h) hF (fun r_1 u t H1 locs ht hvm hw hB hz1 hk1 hS => ?_)
  subst hw
  have hP := pn_back hP hk1
  clear hB hk1 hz1 hF
  generalize H1 = H at hP hS ⊢
  refine lv_if_ne (tgt := 15) hx hb dX8_weather_5 (by decide) (fun c_2 => ?_) (fun c_2 => ?_)
  · have hR := (if_neg c_2).symm.trans hR
    refine lv_iload_n hx hb dX8_weather_15 rfl (lv_at hl 1 rfl) ?_
    refine lv_if_ge (tgt := 26) hx hb dX8_weather_16 (by decide) (fun c_3 => ?_) (fun c_3 => ?_)
    · have hR := (if_pos c_3).symm.trans hR
      refine lv_iload_n hx hb dX8_weather_26 rfl (lv_at hl 1 rfl) ?_
      refine lv_sipush (v := (720 : Int32)) hx hb dX8_weather_27 (by decide) ?_
      refine lv_icmp_le (tgt := 40) hx hb dX8_weather_30 (by decide) (fun c_4 => ?_) (fun c_4 => ?_)
      · have hR := (if_pos c_4).symm.trans hR
        refine lv_aload_n hx hb dX8_weather_40 rfl (lv_at hl 0 rfl) ?_
        refine va_get (D := D) (ci := 8) (v := .ref (ad 806)) (C := RX8) (T := TX8) (N := 19) hx hb hts hu8 hown hK hP 0 wc_0 rfl 6 (by decide) (hts (.fieldLink RX8 47 "GrazeBook" "year" "LGrazeBook$Year;") (List.mem_cons_of_mem _ mw_216)) (fun _ h9 => h9) rfl dX8_weather_41 ?_
        refine lv_iload_n hx hb dX8_weather_44 rfl (lv_at hl 1 rfl) ?_
        refine lv_iload_n hx hb dX8_weather_45 rfl (lv_at hl 2 rfl) ?_
        refine lv_iload_n hx hb dX8_weather_46 rfl (lv_at hl 3 rfl) ?_
        have hF := pw_free hD hS hA
        refine va_callv (va_runV (As := [.int a1, .int a2, .int a3]) (rest := []) ⟨hx, hb, hml, hown, hts⟩ (k_X7_changeWeather l D ca h ad pa tb σ a1 a2 a3 H.size hI _ rfl) (cwV 3 hts gX8_weather_X7_changeWeather rfl rfl rfl (by decide +kernel) ⟨Nat.le_of_ble_eq_true rfl, Nat.le_of_ble_eq_true rfl⟩) ⟨cw_blind, va_recv hK hP (ci := 7) (q0 := 2) rfl wc_2, cw_give hP hK hD hZ hS hF⟩ rfl rfl hl.1 rfl (lv_room (Nat.le_of_ble_eq_true rfl)) dX8_weather_47 ⟨Nat.le_of_ble_eq_true rfl, Nat.le_of_ble_eq_true rfl⟩) hS (fun q _ h => hF q h) hF (fun u t H1 locs ht hvm hw hB hz1 hk1 hS => ?_)
        obtain ⟨hB, hI_6⟩ := hB
        obtain ⟨hP, hD⟩ := pw_back hF ht hB
        clear hB hk1 hz1 hF
        generalize H1 = H at hP hS ⊢
        obtain ⟨τc_7, hτc_7⟩ : ∃ t9, (s_X7_changeWeather σ a1 a2 a3) = t9 := ⟨_, rfl⟩
        rw [hτc_7] at hP hD hI_6
        (try rw [hτc_7] at hR)
        refine lv_iconst (v := (1 : Int32)) hx hb dX8_weather_50 (by decide) ?_
        have hI9 : IX τc_7 := hI_6
        obtain ⟨rfl, rfl⟩ := Prod.mk.inj (show ((1 : Int32), τc_7) = (R1, R2) from hR)
        rw [hQ]
        exact W.iret (v := (1 : Int32)) hx hb hr (fun t ht hW => ⟨⟨(1 : Int32), (), rfl, rfl, ⟨by rw [ht]; exact hP, va_K.moved hW.alike hK, by rw [← hAe]; exact hD⟩, hI9⟩, hS.F ht⟩) hS.2.2 dX8_weather_51
      · have hR := (if_neg c_4).symm.trans hR
        refine lv_aload_n hx hb dX8_weather_33 rfl (lv_at hl 0 rfl) ?_
        refine lv_bipush (v := (-6 : Int32)) hx hb dX8_weather_34 (by decide) ?_
        have hF := pw_free hD hS hA
        refine va_calli (va_runV (As := [.int (-6 : Int32)]) (rest := []) ⟨hx, hb, hml, hown, hts⟩ (k_X8_refuse l D ca h ad pa tb σ (-6 : Int32) H.size hI _ _ (Prod.eta _).symm) (cwV 1 hts gX8_weather_X8_refuse rfl rfl rfl (by decide +kernel) ⟨Nat.le_of_ble_eq_true rfl, Nat.le_of_ble_eq_true rfl⟩) ⟨cw_blind, va_recv hK hP (ci := 8) (q0 := 0) rfl wc_0, cw_give hP hK hD hZ hS hF⟩ rfl rfl hl.1 rfl (lv_room (Nat.le_of_ble_eq_true rfl)) dX8_weather_36 ⟨Nat.le_of_ble_eq_true rfl, Nat.le_of_ble_eq_true rfl⟩) hS (fun q _ h => hF q h) hF (fun r_8 u t H1 locs ht hvm hw hB hz1 hk1 hS => ?_)
        rw [hw]
        obtain ⟨hB, hI_9⟩ := hB
        obtain ⟨hP, hD⟩ := pw_back hF ht hB
        clear hB hk1 hz1 hF
        generalize H1 = H at hP hS ⊢
        obtain ⟨τc_10, hτc_10⟩ : ∃ t9, (s_X8_refuse σ (-6 : Int32)).2 = t9 := ⟨_, rfl⟩
        rw [hτc_10] at hP hD hI_9
        (try rw [hτc_10] at hR)
        obtain ⟨vc_11, hvc_11⟩ : ∃ t9, (s_X8_refuse σ (-6 : Int32)).1 = t9 := ⟨_, rfl⟩
        rw [hvc_11]
        (try rw [hvc_11] at hR)
        have hI9 : IX τc_10 := hI_9
        obtain ⟨rfl, rfl⟩ := Prod.mk.inj (show (vc_11, τc_10) = (R1, R2) from hR)
        rw [hQ]
        exact W.iret (v := vc_11) hx hb hr (fun t ht hW => ⟨⟨vc_11, (), rfl, rfl, ⟨by rw [ht]; exact hP, va_K.moved hW.alike hK, by rw [← hAe]; exact hD⟩, hI9⟩, hS.F ht⟩) hS.2.2 dX8_weather_39
    · have hR := (if_neg c_3).symm.trans hR
      refine lv_aload_n hx hb dX8_weather_19 rfl (lv_at hl 0 rfl) ?_
      refine lv_bipush (v := (-4 : Int32)) hx hb dX8_weather_20 (by decide) ?_
      have hF := pw_free hD hS hA
      refine va_calli (va_runV (As := [.int (-4 : Int32)]) (rest := []) ⟨hx, hb, hml, hown, hts⟩ (k_X8_refuse l D ca h ad pa tb σ (-4 : Int32) H.size hI _ _ (Prod.eta _).symm) (cwV 1 hts gX8_weather_X8_refuse rfl rfl rfl (by decide +kernel) ⟨Nat.le_of_ble_eq_true rfl, Nat.le_of_ble_eq_true rfl⟩) ⟨cw_blind, va_recv hK hP (ci := 8) (q0 := 0) rfl wc_0, cw_give hP hK hD hZ hS hF⟩ rfl rfl hl.1 rfl (lv_room (Nat.le_of_ble_eq_true rfl)) dX8_weather_22 ⟨Nat.le_of_ble_eq_true rfl, Nat.le_of_ble_eq_true rfl⟩) hS (fun q _ h => hF q h) hF (fun r_12 u t H1 locs ht hvm hw hB hz1 hk1 hS => ?_)
      rw [hw]
      obtain ⟨hB, hI_13⟩ := hB
      obtain ⟨hP, hD⟩ := pw_back hF ht hB
      clear hB hk1 hz1 hF
      generalize H1 = H at hP hS ⊢
      obtain ⟨τc_14, hτc_14⟩ : ∃ t9, (s_X8_refuse σ (-4 : Int32)).2 = t9 := ⟨_, rfl⟩
      rw [hτc_14] at hP hD hI_13
      (try rw [hτc_14] at hR)
      obtain ⟨vc_15, hvc_15⟩ : ∃ t9, (s_X8_refuse σ (-4 : Int32)).1 = t9 := ⟨_, rfl⟩
      rw [hvc_15]
      (try rw [hvc_15] at hR)
      have hI9 : IX τc_14 := hI_13
      obtain ⟨rfl, rfl⟩ := Prod.mk.inj (show (vc_15, τc_14) = (R1, R2) from hR)
      rw [hQ]
      exact W.iret (v := vc_15) hx hb hr (fun t ht hW => ⟨⟨vc_15, (), rfl, rfl, ⟨by rw [ht]; exact hP, va_K.moved hW.alike hK, by rw [← hAe]; exact hD⟩, hI9⟩, hS.F ht⟩) hS.2.2 dX8_weather_25
  · have hR := (if_pos c_2).symm.trans hR
    refine lv_aload_n hx hb dX8_weather_8 rfl (lv_at hl 0 rfl) ?_
    refine lv_bipush (v := (-2 : Int32)) hx hb dX8_weather_9 (by decide) ?_
    have hF := pw_free hD hS hA
    refine va_calli (va_runV (As := [.int (-2 : Int32)]) (rest := []) ⟨hx, hb, hml, hown, hts⟩ (k_X8_refuse l D ca h ad pa tb σ (-2 : Int32) H.size hI _ _ (Prod.eta _).symm) (cwV 1 hts gX8_weather_X8_refuse rfl rfl rfl (by decide +kernel) ⟨Nat.le_of_ble_eq_true rfl, Nat.le_of_ble_eq_true rfl⟩) ⟨cw_blind, va_recv hK hP (ci := 8) (q0 := 0) rfl wc_0, cw_give hP hK hD hZ hS hF⟩ rfl rfl hl.1 rfl (lv_room (Nat.le_of_ble_eq_true rfl)) dX8_weather_11 ⟨Nat.le_of_ble_eq_true rfl, Nat.le_of_ble_eq_true rfl⟩) hS (fun q _ h => hF q h) hF (fun r_16 u t H1 locs ht hvm hw hB hz1 hk1 hS => ?_)
    rw [hw]
    obtain ⟨hB, hI_17⟩ := hB
    obtain ⟨hP, hD⟩ := pw_back hF ht hB
    clear hB hk1 hz1 hF
    generalize H1 = H at hP hS ⊢
    obtain ⟨τc_18, hτc_18⟩ : ∃ t9, (s_X8_refuse σ (-2 : Int32)).2 = t9 := ⟨_, rfl⟩
    rw [hτc_18] at hP hD hI_17
    (try rw [hτc_18] at hR)
    obtain ⟨vc_19, hvc_19⟩ : ∃ t9, (s_X8_refuse σ (-2 : Int32)).1 = t9 := ⟨_, rfl⟩
    rw [hvc_19]
    (try rw [hvc_19] at hR)
    have hI9 : IX τc_18 := hI_17
    obtain ⟨rfl, rfl⟩ := Prod.mk.inj (show (vc_19, τc_18) = (R1, R2) from hR)
    rw [hQ]
    exact W.iret (v := vc_19) hx hb hr (fun t ht hW => ⟨⟨vc_19, (), rfl, rfl, ⟨by rw [ht]; exact hP, va_K.moved hW.alike hK, by rw [← hAe]; exact hD⟩, hI9⟩, hS.F ht⟩) hS.2.2 dX8_weather_14

def s_X8_sell (σ : St) (a1 : Int32) (a2 : Int32) : Int32 × St := (if (s_X8_canPass σ a1 a2) = (0 : Int32) then (((s_X8_refuse σ (-1 : Int32)).1), ((s_X8_refuse σ (-1 : Int32)).2)) else (if (σ 0 (a1.toNatClampNeg)) = (0 : Int32) then (if (s_X0_isInForce σ (a1.toNatClampNeg) (σ 816 0)) = (0 : Int32) then (((s_X8_refuse σ (-3 : Int32)).1), ((s_X8_refuse σ (-3 : Int32)).2)) else ((1 : Int32), (put σ 6 (a1.toNatClampNeg) a2))) else (((s_X8_refuse σ (-2 : Int32)).1), ((s_X8_refuse σ (-2 : Int32)).2))))
theorem fr_s_X8_sell (σ : St) (a1 : Int32) (a2 : Int32) {f : Nat} (h6 : f ≠ 6) (h810 : f ≠ 810) : (s_X8_sell σ a1 a2 ).2 f = σ f := by
  unfold s_X8_sell
  all_goals ((try dsimp only) <;> ((repeat' split) <;> (try simp only [put_fr, ne_eq, not_false_eq_true, h6, h810, fr_s_X8_refuse])))
set_option maxHeartbeats 1000000 in
set_option maxRecDepth 100000 in
theorem k_X8_sell (l : Launch) (D : va_G) (ca : Nat → ClassId) (h : Nat) (ad : Nat → Nat) (pa : Nat → Nat → Nat) (tb : Nat) (σ : St) (a1 : Int32) (a2 : Int32) (sz : Nat) (hI : IX σ)  (R1 : Int32) (R2 : St) (hR : s_X8_sell σ a1 a2 = (R1, R2)) : Met l yX8_sell wsX8_sell ({ frames := 3, cells := 0, slots := 0, locals := 64 }) (va_Pc [.ref h, .int a1, .int a2] (cw_pre D ca (WC ca h ad pa σ) sz tb)) (va_Qi (fun (r : Int32) (_ : Unit) => r = R1) (fun (_ : Unit) (t : State) => pw_post D ca (WC ca h ad pa σ) sz (WC ca h ad pa R2) t ∧ IX R2) (va_A (WC ca h ad pa σ) sz)) 0 0 (va_A (WC ca h ad pa σ) sz) := by
  refine Met.ofW (cc := cX8_sell) (maxL := 3) (ret := (some .int)) (by decide) rfl ?_
  intro p e s m args below meth c s₁ B hml hv
  obtain ⟨rfl, ⟨hsz, hP, hK, hD0⟩, hZ⟩ := hv
  have hx := B.exec
  have hb := B.bytes
  have hr := B.returns
  have hts := atoms_spec (ws := wsX8_sell) B.pre
  have hown : s.vm.findClass RX8 = some m.cls := findClass_of_methodNamed B.named
  have hlocks := B.notSynchronized
  have hu0 : ∀ w ∈ u_ws RX0 TX0 9, w ∈ wsX8_sell := fun w h => List.mem_cons_of_mem _ (uw0 w h)
  have hu8 : ∀ w ∈ u_ws RX8 TX8 19, w ∈ wsX8_sell := fun w h => List.mem_cons_of_mem _ (uw8 w h)
  subst hsz
  have hD := hD0.self (sz := s.heap.size)
  obtain ⟨A, hAe⟩ : ∃ A, A = va_A (WC ca h ad pa σ) s.heap.size := ⟨_, rfl⟩
  rw [← hAe] at hD hZ ⊢
  have hA : ∀ q : Nat, s.heap.size ≤ q → A q := fun q h => by rw [hAe]; exact Or.inr h
  have hS : va_S A s.heap s.heap [] := va_S.rf
  have hl := lv_entry ([.ref h, .int a1, .int a2]) (n := 3) (Nat.le_of_ble_eq_true rfl)
  rw [lg_entry_eq]
  generalize (lg_sl ([.ref h, .int a1, .int a2]) ++ List.replicate (3 - (lg_sl ([.ref h, .int a1, .int a2])).length) Slot.unset).toArray = ls at hl ⊢
  have hl : lv_has ls 3 [(0, .ref h), (1, .int a1), (2, .int a2)] := hl
  obtain ⟨H, hH⟩ : ∃ H, H = s.heap := ⟨_, rfl⟩
  have hP : va_P D vwCl (WC ca h ad pa σ) H := by rw [hH]; exact hP
  have hS : va_S A s.heap H [] := by rw [hH]; exact hS
  obtain ⟨QQ, hQ⟩ : ∃ Q9, Q9 = MQ below (va_Qi (fun (r : Int32) (_ : Unit) => r = R1) (fun (_ : Unit) (t : State) => pw_post D ca (WC ca h ad pa σ) s.heap.size (WC ca h ad pa R2) t ∧ IX R2) A) ([.ref h, .int a1, .int a2] : List Value).toArray s 0 0 A := ⟨_, rfl⟩
  rw [← hQ]
  show W _ _ _ _ _ _ _ _ _ _ s.heap _ _ _ _ _
  rw [← hH]
  have hR : (if (s_X8_canPass σ a1 a2) = (0 : Int32) then (((s_X8_refuse σ (-1 : Int32)).1), ((s_X8_refuse σ (-1 : Int32)).2)) else (if (σ 0 (a1.toNatClampNeg)) = (0 : Int32) then (if (s_X0_isInForce σ (a1.toNatClampNeg) (σ 816 0)) = (0 : Int32) then (((s_X8_refuse σ (-3 : Int32)).1), ((s_X8_refuse σ (-3 : Int32)).2)) else ((1 : Int32), (put σ 6 (a1.toNatClampNeg) a2))) else (((s_X8_refuse σ (-2 : Int32)).1), ((s_X8_refuse σ (-2 : Int32)).2)))) = (R1, R2) := hR
  refine lv_aload_n hx hb dX8_sell_0 rfl (lv_at hl 0 rfl) ?_
  refine lv_iload_n hx hb dX8_sell_1 rfl (lv_at hl 1 rfl) ?_
  refine lv_iload_n hx hb dX8_sell_2 rfl (lv_at hl 2 rfl) ?_
  have hF := pw_free hD hS hA
  refine va_calli (va_runV (As := [.int a1, .int a2]) (rest := []) ⟨hx, hb, hml, hown, hts⟩ (k_X8_canPass l D ca h ad pa tb σ a1 a2 H.size hI _ rfl) (cwV 2 hts gX8_sell_X8_canPass rfl rfl rfl (by decide +kernel) ⟨Nat.le_of_ble_eq_true rfl, Nat.le_of_ble_eq_true rfl⟩) ⟨cw_blind, va_recv hK hP (ci := 8) (q0 := 0) rfl wc_0, cw_give hP hK hD hZ hS hF⟩ rfl rfl hl.1 rfl (lv_room (Nat.le_of_ble_eq_true rfl)) dX8_sell_3 ⟨Nat.le_of_ble_eq_true rfl, Nat.le_of_ble_eq_true rfl⟩) hS (fun q _ h => hF q h) hF (fun r_1 u t H1 locs ht hvm hw hB hz1 hk1 hS => ?_)
  rw [hw]
  obtain ⟨hP, hD⟩ := pw_back hF ht hB
  clear hB hk1 hz1 hF
  generalize H1 = H at hP hS ⊢
  refine lv_if_ne (tgt := 15) hx hb dX8_sell_6 (by decide) (fun c_2 => ?_) (fun c_2 => ?_)
  · have hR := (if_neg c_2).symm.trans hR
    refine lv_aload_n hx hb dX8_sell_15 rfl (lv_at hl 0 rfl) ?_
    refine va_get (D := D) (ci := 8) (v := .ref (ad 804)) (C := RX8) (T := TX8) (N := 19) hx hb hts hu8 hown hK hP 0 wc_0 rfl 4 (by decide) (hts (.fieldLink RX8 34 "GrazeBook" "rights" "[LGrazeBook$Claim;") (List.mem_cons_of_mem _ mw_214)) (fun _ h9 => h9) rfl dX8_sell_16 ?_
    refine lv_iload_n hx hb dX8_sell_19 rfl (lv_at hl 1 rfl) ?_
    refine va_aldq_k (k := (a1.toNatClampNeg)) (b := pa 2 (a1.toNatClampNeg)) hx hb hK hP 8 4 wc_8 rfl rfl (rf_at (isb_Right (cp_r c_2))) (isx_Right (cp_r c_2) hI) dX8_sell_20 ?_
    refine va_get (D := D) (ci := 0) (v := .int (σ 0 (a1.toNatClampNeg))) (C := RX0) (T := TX0) (N := 9) hx hb hts hu0 hown hK hP (pcC ca h ad pa σ (a1.toNatClampNeg)) (wc_aC (isb_Right (cp_r c_2))) rfl 0 (by decide) (hts (.fieldLink RX8 140 "GrazeBook$Claim" "kind" "I") (List.mem_cons_of_mem _ mw_359)) (fun _ h9 => h9) rfl dX8_sell_21 ?_
    refine lv_if_eq (tgt := 34) hx hb dX8_sell_24 (by decide) (fun c_3 => ?_) (fun c_3 => ?_)
    · have hR := (if_pos c_3).symm.trans hR
      refine lv_aload_n hx hb dX8_sell_34 rfl (lv_at hl 0 rfl) ?_
      refine va_get (D := D) (ci := 8) (v := .ref (ad 804)) (C := RX8) (T := TX8) (N := 19) hx hb hts hu8 hown hK hP 0 wc_0 rfl 4 (by decide) (hts (.fieldLink RX8 34 "GrazeBook" "rights" "[LGrazeBook$Claim;") (List.mem_cons_of_mem _ mw_214)) (fun _ h9 => h9) rfl dX8_sell_35 ?_
      refine lv_iload_n hx hb dX8_sell_38 rfl (lv_at hl 1 rfl) ?_
      refine va_aldq_k (k := (a1.toNatClampNeg)) (b := pa 2 (a1.toNatClampNeg)) hx hb hK hP 8 4 wc_8 rfl rfl (rf_at (isb_Right (cp_r c_2))) (isx_Right (cp_r c_2) hI) dX8_sell_39 ?_
      refine lv_aload_n hx hb dX8_sell_40 rfl (lv_at hl 0 rfl) ?_
      refine va_get (D := D) (ci := 8) (v := .int (σ 816 0)) (C := RX8) (T := TX8) (N := 19) hx hb hts hu8 hown hK hP 0 wc_0 rfl 16 (by decide) (hts (.fieldLink RX8 91 "GrazeBook" "day" "I") (List.mem_cons_of_mem _ mw_226)) (fun _ h9 => h9) rfl dX8_sell_41 ?_
      have hF := pw_free hD hS hA
      refine va_calli (va_runV (As := [.int (σ 816 0)]) (rest := []) ⟨hx, hb, hml, hown, hts⟩ (k_X0_isInForce l D ca h ad pa tb σ (a1.toNatClampNeg) (σ 816 0) H.size hI (isb_Right (cp_r c_2)) _ rfl) (cwV 1 hts gX8_sell_X0_isInForce rfl rfl rfl (by decide +kernel) ⟨Nat.le_of_ble_eq_true rfl, Nat.le_of_ble_eq_true rfl⟩) ⟨cw_blind, va_recv hK hP (ci := 0) (q0 := (pcC ca h ad pa σ (a1.toNatClampNeg))) rfl (wc_aC (isb_Right (cp_r c_2))), cw_give hP hK hD hZ hS hF⟩ rfl rfl hl.1 rfl (lv_room (Nat.le_of_ble_eq_true rfl)) dX8_sell_44 ⟨Nat.le_of_ble_eq_true rfl, Nat.le_of_ble_eq_true rfl⟩) hS (fun q _ h => hF q h) hF (fun r_4 u t H1 locs ht hvm hw hB hz1 hk1 hS => ?_)
      rw [hw]
      obtain ⟨hP, hD⟩ := pw_back hF ht hB
      clear hB hk1 hz1 hF
      generalize H1 = H at hP hS ⊢
      refine lv_if_ne (tgt := 57) hx hb dX8_sell_47 (by decide) (fun c_5 => ?_) (fun c_5 => ?_)
      · have hR := (if_neg c_5).symm.trans hR
        refine lv_aload_n hx hb dX8_sell_57 rfl (lv_at hl 0 rfl) ?_
        refine va_get (D := D) (ci := 8) (v := .ref (ad 804)) (C := RX8) (T := TX8) (N := 19) hx hb hts hu8 hown hK hP 0 wc_0 rfl 4 (by decide) (hts (.fieldLink RX8 34 "GrazeBook" "rights" "[LGrazeBook$Claim;") (List.mem_cons_of_mem _ mw_214)) (fun _ h9 => h9) rfl dX8_sell_58 ?_
        refine lv_iload_n hx hb dX8_sell_61 rfl (lv_at hl 1 rfl) ?_
        refine va_aldq_k (k := (a1.toNatClampNeg)) (b := pa 2 (a1.toNatClampNeg)) hx hb hK hP 8 4 wc_8 rfl rfl (rf_at (isb_Right (cp_r c_2))) (isx_Right (cp_r c_2) hI) dX8_sell_62 ?_
        refine lv_iload_n hx hb dX8_sell_63 rfl (lv_at hl 2 rfl) ?_
        refine va_put (D := D) (ci := 0) (v := .int a2) (ty := .int) (C := RX0) (T := TX0) (N := 9) hx hb hts hu0 tyX0 tyX0_ok nmX0 hown hK hP hD hS (pcC ca h ad pa σ (a1.toNatClampNeg)) (wc_aC (isb_Right (cp_r c_2))) rfl 6 (by decide) (hts (.fieldLink RX8 152 "GrazeBook$Claim" "who" "I") (List.mem_cons_of_mem _ mw_371)) (fun _ h9 => h9) rfl (by decide +kernel) rfl rfl (Nat.le_of_ble_eq_true rfl) dX8_sell_64 (fun H locs hP hD hS => ?_)
        rw [wc_sC6 (σ := σ) (isb_Right (cp_r c_2))] at hP hD
        refine lv_iconst (v := (1 : Int32)) hx hb dX8_sell_67 (by decide) ?_
        have hI9 : IX (put σ 6 (a1.toNatClampNeg) a2) := hI
        obtain ⟨rfl, rfl⟩ := Prod.mk.inj (show ((1 : Int32), (put σ 6 (a1.toNatClampNeg) a2)) = (R1, R2) from hR)
        rw [hQ]
        exact W.iret (v := (1 : Int32)) hx hb hr (fun t ht hW => ⟨⟨(1 : Int32), (), rfl, rfl, ⟨by rw [ht]; exact hP, va_K.moved hW.alike hK, by rw [← hAe]; exact hD⟩, hI9⟩, hS.F ht⟩) hS.2.2 dX8_sell_68
      · have hR := (if_pos c_5).symm.trans hR
        refine lv_aload_n hx hb dX8_sell_50 rfl (lv_at hl 0 rfl) ?_
        refine lv_bipush (v := (-3 : Int32)) hx hb dX8_sell_51 (by decide) ?_
        have hF := pw_free hD hS hA
        refine va_calli (va_runV (As := [.int (-3 : Int32)]) (rest := []) ⟨hx, hb, hml, hown, hts⟩ (k_X8_refuse l D ca h ad pa tb σ (-3 : Int32) H.size hI _ _ (Prod.eta _).symm) (cwV 1 hts gX8_sell_X8_refuse rfl rfl rfl (by decide +kernel) ⟨Nat.le_of_ble_eq_true rfl, Nat.le_of_ble_eq_true rfl⟩) ⟨cw_blind, va_recv hK hP (ci := 8) (q0 := 0) rfl wc_0, cw_give hP hK hD hZ hS hF⟩ rfl rfl hl.1 rfl (lv_room (Nat.le_of_ble_eq_true rfl)) dX8_sell_53 ⟨Nat.le_of_ble_eq_true rfl, Nat.le_of_ble_eq_true rfl⟩) hS (fun q _ h => hF q h) hF (fun r_6 u t H1 locs ht hvm hw hB hz1 hk1 hS => ?_)
        rw [hw]
        obtain ⟨hB, hI_7⟩ := hB
        obtain ⟨hP, hD⟩ := pw_back hF ht hB
        clear hB hk1 hz1 hF
        generalize H1 = H at hP hS ⊢
        obtain ⟨τc_8, hτc_8⟩ : ∃ t9, (s_X8_refuse σ (-3 : Int32)).2 = t9 := ⟨_, rfl⟩
        rw [hτc_8] at hP hD hI_7
        (try rw [hτc_8] at hR)
        obtain ⟨vc_9, hvc_9⟩ : ∃ t9, (s_X8_refuse σ (-3 : Int32)).1 = t9 := ⟨_, rfl⟩
        rw [hvc_9]
        (try rw [hvc_9] at hR)
        have hI9 : IX τc_8 := hI_7
        obtain ⟨rfl, rfl⟩ := Prod.mk.inj (show (vc_9, τc_8) = (R1, R2) from hR)
        rw [hQ]
        exact W.iret (v := vc_9) hx hb hr (fun t ht hW => ⟨⟨vc_9, (), rfl, rfl, ⟨by rw [ht]; exact hP, va_K.moved hW.alike hK, by rw [← hAe]; exact hD⟩, hI9⟩, hS.F ht⟩) hS.2.2 dX8_sell_56
    · have hR := (if_neg c_3).symm.trans hR
      refine lv_aload_n hx hb dX8_sell_27 rfl (lv_at hl 0 rfl) ?_
      refine lv_bipush (v := (-2 : Int32)) hx hb dX8_sell_28 (by decide) ?_
      have hF := pw_free hD hS hA
      refine va_calli (va_runV (As := [.int (-2 : Int32)]) (rest := []) ⟨hx, hb, hml, hown, hts⟩ (k_X8_refuse l D ca h ad pa tb σ (-2 : Int32) H.size hI _ _ (Prod.eta _).symm) (cwV 1 hts gX8_sell_X8_refuse rfl rfl rfl (by decide +kernel) ⟨Nat.le_of_ble_eq_true rfl, Nat.le_of_ble_eq_true rfl⟩) ⟨cw_blind, va_recv hK hP (ci := 8) (q0 := 0) rfl wc_0, cw_give hP hK hD hZ hS hF⟩ rfl rfl hl.1 rfl (lv_room (Nat.le_of_ble_eq_true rfl)) dX8_sell_30 ⟨Nat.le_of_ble_eq_true rfl, Nat.le_of_ble_eq_true rfl⟩) hS (fun q _ h => hF q h) hF (fun r_10 u t H1 locs ht hvm hw hB hz1 hk1 hS => ?_)
      rw [hw]
      obtain ⟨hB, hI_11⟩ := hB
      obtain ⟨hP, hD⟩ := pw_back hF ht hB
      clear hB hk1 hz1 hF
      generalize H1 = H at hP hS ⊢
      obtain ⟨τc_12, hτc_12⟩ : ∃ t9, (s_X8_refuse σ (-2 : Int32)).2 = t9 := ⟨_, rfl⟩
      rw [hτc_12] at hP hD hI_11
      (try rw [hτc_12] at hR)
      obtain ⟨vc_13, hvc_13⟩ : ∃ t9, (s_X8_refuse σ (-2 : Int32)).1 = t9 := ⟨_, rfl⟩
      rw [hvc_13]
      (try rw [hvc_13] at hR)
      have hI9 : IX τc_12 := hI_11
      obtain ⟨rfl, rfl⟩ := Prod.mk.inj (show (vc_13, τc_12) = (R1, R2) from hR)
      rw [hQ]
      exact W.iret (v := vc_13) hx hb hr (fun t ht hW => ⟨⟨vc_13, (), rfl, rfl, ⟨by rw [ht]; exact hP, va_K.moved hW.alike hK, by rw [← hAe]; exact hD⟩, hI9⟩, hS.F ht⟩) hS.2.2 dX8_sell_33
  · have hR := (if_pos c_2).symm.trans hR
    refine lv_aload_n hx hb dX8_sell_9 rfl (lv_at hl 0 rfl) ?_
    refine lv_iconst (v := (-1 : Int32)) hx hb dX8_sell_10 (by decide) ?_
    have hF := pw_free hD hS hA
    refine va_calli (va_runV (As := [.int (-1 : Int32)]) (rest := []) ⟨hx, hb, hml, hown, hts⟩ (k_X8_refuse l D ca h ad pa tb σ (-1 : Int32) H.size hI _ _ (Prod.eta _).symm) (cwV 1 hts gX8_sell_X8_refuse rfl rfl rfl (by decide +kernel) ⟨Nat.le_of_ble_eq_true rfl, Nat.le_of_ble_eq_true rfl⟩) ⟨cw_blind, va_recv hK hP (ci := 8) (q0 := 0) rfl wc_0, cw_give hP hK hD hZ hS hF⟩ rfl rfl hl.1 rfl (lv_room (Nat.le_of_ble_eq_true rfl)) dX8_sell_11 ⟨Nat.le_of_ble_eq_true rfl, Nat.le_of_ble_eq_true rfl⟩) hS (fun q _ h => hF q h) hF (fun r_14 u t H1 locs ht hvm hw hB hz1 hk1 hS => ?_)
    rw [hw]
    obtain ⟨hB, hI_15⟩ := hB
    obtain ⟨hP, hD⟩ := pw_back hF ht hB
    clear hB hk1 hz1 hF
    generalize H1 = H at hP hS ⊢
    obtain ⟨τc_16, hτc_16⟩ : ∃ t9, (s_X8_refuse σ (-1 : Int32)).2 = t9 := ⟨_, rfl⟩
    rw [hτc_16] at hP hD hI_15
    (try rw [hτc_16] at hR)
    obtain ⟨vc_17, hvc_17⟩ : ∃ t9, (s_X8_refuse σ (-1 : Int32)).1 = t9 := ⟨_, rfl⟩
    rw [hvc_17]
    (try rw [hvc_17] at hR)
    have hI9 : IX τc_16 := hI_15
    obtain ⟨rfl, rfl⟩ := Prod.mk.inj (show (vc_17, τc_16) = (R1, R2) from hR)
    rw [hQ]
    exact W.iret (v := vc_17) hx hb hr (fun t ht hW => ⟨⟨vc_17, (), rfl, rfl, ⟨by rw [ht]; exact hP, va_K.moved hW.alike hK, by rw [← hAe]; exact hD⟩, hI9⟩, hS.F ht⟩) hS.2.2 dX8_sell_14

def s_X8_move (σ : St) (a1 : Int32) (a2 : Int32) : Int32 × St := (if (s_X8_isHouse σ a1) = (0 : Int32) then (((s_X8_refuse σ (-1 : Int32)).1), ((s_X8_refuse σ (-1 : Int32)).2)) else (if (s_X8_isOwner σ a2) = (0 : Int32) then (((s_X8_refuse σ (-1 : Int32)).1), ((s_X8_refuse σ (-1 : Int32)).2)) else (if (σ 803 (a1.toNatClampNeg)) = a2 then (((s_X8_refuse σ (-1 : Int32)).1), ((s_X8_refuse σ (-1 : Int32)).2)) else ((1 : Int32), (put σ 803 (a1.toNatClampNeg) a2)))))
theorem fr_s_X8_move (σ : St) (a1 : Int32) (a2 : Int32) {f : Nat} (h803 : f ≠ 803) (h810 : f ≠ 810) : (s_X8_move σ a1 a2 ).2 f = σ f := by
  unfold s_X8_move
  all_goals ((try dsimp only) <;> ((repeat' split) <;> (try simp only [put_fr, ne_eq, not_false_eq_true, h803, h810, fr_s_X8_refuse])))
set_option maxHeartbeats 1000000 in
set_option maxRecDepth 100000 in
theorem k_X8_move (l : Launch) (D : va_G) (ca : Nat → ClassId) (h : Nat) (ad : Nat → Nat) (pa : Nat → Nat → Nat) (tb : Nat) (σ : St) (a1 : Int32) (a2 : Int32) (sz : Nat) (hI : IX σ)  (R1 : Int32) (R2 : St) (hR : s_X8_move σ a1 a2 = (R1, R2)) : Met l yX8_move wsX8_move ({ frames := 1, cells := 0, slots := 0, locals := 21 }) (va_Pc [.ref h, .int a1, .int a2] (cw_pre D ca (WC ca h ad pa σ) sz tb)) (va_Qi (fun (r : Int32) (_ : Unit) => r = R1) (fun (_ : Unit) (t : State) => pw_post D ca (WC ca h ad pa σ) sz (WC ca h ad pa R2) t ∧ IX R2) (va_A (WC ca h ad pa σ) sz)) 0 0 (va_A (WC ca h ad pa σ) sz) := by
  refine Met.ofW (cc := cX8_move) (maxL := 3) (ret := (some .int)) (by decide) rfl ?_
  intro p e s m args below meth c s₁ B hml hv
  obtain ⟨rfl, ⟨hsz, hP, hK, hD0⟩, hZ⟩ := hv
  have hx := B.exec
  have hb := B.bytes
  have hr := B.returns
  have hts := atoms_spec (ws := wsX8_move) B.pre
  have hown : s.vm.findClass RX8 = some m.cls := findClass_of_methodNamed B.named
  have hlocks := B.notSynchronized
  have hu8 : ∀ w ∈ u_ws RX8 TX8 19, w ∈ wsX8_move := fun w h => List.mem_cons_of_mem _ (uw8 w h)
  subst hsz
  have hD := hD0.self (sz := s.heap.size)
  obtain ⟨A, hAe⟩ : ∃ A, A = va_A (WC ca h ad pa σ) s.heap.size := ⟨_, rfl⟩
  rw [← hAe] at hD hZ ⊢
  have hA : ∀ q : Nat, s.heap.size ≤ q → A q := fun q h => by rw [hAe]; exact Or.inr h
  have hS : va_S A s.heap s.heap [] := va_S.rf
  have hl := lv_entry ([.ref h, .int a1, .int a2]) (n := 3) (Nat.le_of_ble_eq_true rfl)
  rw [lg_entry_eq]
  generalize (lg_sl ([.ref h, .int a1, .int a2]) ++ List.replicate (3 - (lg_sl ([.ref h, .int a1, .int a2])).length) Slot.unset).toArray = ls at hl ⊢
  have hl : lv_has ls 3 [(0, .ref h), (1, .int a1), (2, .int a2)] := hl
  obtain ⟨H, hH⟩ : ∃ H, H = s.heap := ⟨_, rfl⟩
  have hP : va_P D vwCl (WC ca h ad pa σ) H := by rw [hH]; exact hP
  have hS : va_S A s.heap H [] := by rw [hH]; exact hS
  obtain ⟨QQ, hQ⟩ : ∃ Q9, Q9 = MQ below (va_Qi (fun (r : Int32) (_ : Unit) => r = R1) (fun (_ : Unit) (t : State) => pw_post D ca (WC ca h ad pa σ) s.heap.size (WC ca h ad pa R2) t ∧ IX R2) A) ([.ref h, .int a1, .int a2] : List Value).toArray s 0 0 A := ⟨_, rfl⟩
  rw [← hQ]
  show W _ _ _ _ _ _ _ _ _ _ s.heap _ _ _ _ _
  rw [← hH]
  have hR : (if (s_X8_isHouse σ a1) = (0 : Int32) then (((s_X8_refuse σ (-1 : Int32)).1), ((s_X8_refuse σ (-1 : Int32)).2)) else (if (s_X8_isOwner σ a2) = (0 : Int32) then (((s_X8_refuse σ (-1 : Int32)).1), ((s_X8_refuse σ (-1 : Int32)).2)) else (if (σ 803 (a1.toNatClampNeg)) = a2 then (((s_X8_refuse σ (-1 : Int32)).1), ((s_X8_refuse σ (-1 : Int32)).2)) else ((1 : Int32), (put σ 803 (a1.toNatClampNeg) a2))))) = (R1, R2) := hR
  refine lv_aload_n hx hb dX8_move_0 rfl (lv_at hl 0 rfl) ?_
  refine lv_iload_n hx hb dX8_move_1 rfl (lv_at hl 1 rfl) ?_
  have hF := pw_free hD hS hA
  refine va_calli (va_runV (As := [.int a1]) (rest := []) ⟨hx, hb, hml, hown, hts⟩ (k_X8_isHouse l D ca h ad pa tb σ a1 H.size hI _ rfl) (cwV 1 hts gX8_move_X8_isHouse rfl rfl rfl (by decide +kernel) ⟨Nat.le_of_ble_eq_true rfl, Nat.le_of_ble_eq_true rfl⟩) ⟨cw_blind, va_recv hK hP (ci := 8) (q0 := 0) rfl wc_0, cw_give hP hK hD hZ hS hF⟩ rfl rfl hl.1 rfl (lv_room (Nat.le_of_ble_eq_true rfl)) dX8_move_2 ⟨Nat.le_of_ble_eq_true rfl, Nat.le_of_ble_eq_true rfl⟩) hS (fun q _ h => hF q h) hF (fun r_1 u t H1 locs ht hvm hw hB hz1 hk1 hS => ?_)
  rw [hw]
  obtain ⟨hP, hD⟩ := pw_back hF ht hB
  clear hB hk1 hz1 hF
  generalize H1 = H at hP hS ⊢
  refine lv_if_eq (tgt := 26) hx hb dX8_move_5 (by decide) (fun c_2 => ?_) (fun c_2 => ?_)
  · have hR := (if_pos c_2).symm.trans hR
    refine lv_aload_n hx hb dX8_move_26 rfl (lv_at hl 0 rfl) ?_
    refine lv_iconst (v := (-1 : Int32)) hx hb dX8_move_27 (by decide) ?_
    have hF := pw_free hD hS hA
    refine va_calli (va_runV (As := [.int (-1 : Int32)]) (rest := []) ⟨hx, hb, hml, hown, hts⟩ (k_X8_refuse l D ca h ad pa tb σ (-1 : Int32) H.size hI _ _ (Prod.eta _).symm) (cwV 1 hts gX8_move_X8_refuse rfl rfl rfl (by decide +kernel) ⟨Nat.le_of_ble_eq_true rfl, Nat.le_of_ble_eq_true rfl⟩) ⟨cw_blind, va_recv hK hP (ci := 8) (q0 := 0) rfl wc_0, cw_give hP hK hD hZ hS hF⟩ rfl rfl hl.1 rfl (lv_room (Nat.le_of_ble_eq_true rfl)) dX8_move_28 ⟨Nat.le_of_ble_eq_true rfl, Nat.le_of_ble_eq_true rfl⟩) hS (fun q _ h => hF q h) hF (fun r_3 u t H1 locs ht hvm hw hB hz1 hk1 hS => ?_)
    rw [hw]
    obtain ⟨hB, hI_4⟩ := hB
    obtain ⟨hP, hD⟩ := pw_back hF ht hB
    clear hB hk1 hz1 hF
    generalize H1 = H at hP hS ⊢
    obtain ⟨τc_5, hτc_5⟩ : ∃ t9, (s_X8_refuse σ (-1 : Int32)).2 = t9 := ⟨_, rfl⟩
    rw [hτc_5] at hP hD hI_4
    (try rw [hτc_5] at hR)
    obtain ⟨vc_6, hvc_6⟩ : ∃ t9, (s_X8_refuse σ (-1 : Int32)).1 = t9 := ⟨_, rfl⟩
    rw [hvc_6]
    (try rw [hvc_6] at hR)
    have hI9 : IX τc_5 := hI_4
    obtain ⟨rfl, rfl⟩ := Prod.mk.inj (show (vc_6, τc_5) = (R1, R2) from hR)
    rw [hQ]
    exact W.iret (v := vc_6) hx hb hr (fun t ht hW => ⟨⟨vc_6, (), rfl, rfl, ⟨by rw [ht]; exact hP, va_K.moved hW.alike hK, by rw [← hAe]; exact hD⟩, hI9⟩, hS.F ht⟩) hS.2.2 dX8_move_31
  · have hR := (if_neg c_2).symm.trans hR
    refine lv_aload_n hx hb dX8_move_8 rfl (lv_at hl 0 rfl) ?_
    refine lv_iload_n hx hb dX8_move_9 rfl (lv_at hl 2 rfl) ?_
    have hF := pw_free hD hS hA
    refine va_calli (va_runV (As := [.int a2]) (rest := []) ⟨hx, hb, hml, hown, hts⟩ (k_X8_isOwner l D ca h ad pa tb σ a2 H.size hI _ rfl) (cwV 1 hts gX8_move_X8_isOwner rfl rfl rfl (by decide +kernel) ⟨Nat.le_of_ble_eq_true rfl, Nat.le_of_ble_eq_true rfl⟩) ⟨cw_blind, va_recv hK hP (ci := 8) (q0 := 0) rfl wc_0, cw_give hP hK hD hZ hS hF⟩ rfl rfl hl.1 rfl (lv_room (Nat.le_of_ble_eq_true rfl)) dX8_move_10 ⟨Nat.le_of_ble_eq_true rfl, Nat.le_of_ble_eq_true rfl⟩) hS (fun q _ h => hF q h) hF (fun r_7 u t H1 locs ht hvm hw hB hz1 hk1 hS => ?_)
    rw [hw]
    obtain ⟨hP, hD⟩ := pw_back hF ht hB
    clear hB hk1 hz1 hF
    generalize H1 = H at hP hS ⊢
    refine lv_if_eq (tgt := 26) hx hb dX8_move_13 (by decide) (fun c_8 => ?_) (fun c_8 => ?_)
    · have hR := (if_pos c_8).symm.trans hR
      refine lv_aload_n hx hb dX8_move_26 rfl (lv_at hl 0 rfl) ?_
      refine lv_iconst (v := (-1 : Int32)) hx hb dX8_move_27 (by decide) ?_
      have hF := pw_free hD hS hA
      refine va_calli (va_runV (As := [.int (-1 : Int32)]) (rest := []) ⟨hx, hb, hml, hown, hts⟩ (k_X8_refuse l D ca h ad pa tb σ (-1 : Int32) H.size hI _ _ (Prod.eta _).symm) (cwV 1 hts gX8_move_X8_refuse rfl rfl rfl (by decide +kernel) ⟨Nat.le_of_ble_eq_true rfl, Nat.le_of_ble_eq_true rfl⟩) ⟨cw_blind, va_recv hK hP (ci := 8) (q0 := 0) rfl wc_0, cw_give hP hK hD hZ hS hF⟩ rfl rfl hl.1 rfl (lv_room (Nat.le_of_ble_eq_true rfl)) dX8_move_28 ⟨Nat.le_of_ble_eq_true rfl, Nat.le_of_ble_eq_true rfl⟩) hS (fun q _ h => hF q h) hF (fun r_9 u t H1 locs ht hvm hw hB hz1 hk1 hS => ?_)
      rw [hw]
      obtain ⟨hB, hI_10⟩ := hB
      obtain ⟨hP, hD⟩ := pw_back hF ht hB
      clear hB hk1 hz1 hF
      generalize H1 = H at hP hS ⊢
      obtain ⟨τc_11, hτc_11⟩ : ∃ t9, (s_X8_refuse σ (-1 : Int32)).2 = t9 := ⟨_, rfl⟩
      rw [hτc_11] at hP hD hI_10
      (try rw [hτc_11] at hR)
      obtain ⟨vc_12, hvc_12⟩ : ∃ t9, (s_X8_refuse σ (-1 : Int32)).1 = t9 := ⟨_, rfl⟩
      rw [hvc_12]
      (try rw [hvc_12] at hR)
      have hI9 : IX τc_11 := hI_10
      obtain ⟨rfl, rfl⟩ := Prod.mk.inj (show (vc_12, τc_11) = (R1, R2) from hR)
      rw [hQ]
      exact W.iret (v := vc_12) hx hb hr (fun t ht hW => ⟨⟨vc_12, (), rfl, rfl, ⟨by rw [ht]; exact hP, va_K.moved hW.alike hK, by rw [← hAe]; exact hD⟩, hI9⟩, hS.F ht⟩) hS.2.2 dX8_move_31
    · have hR := (if_neg c_8).symm.trans hR
      refine lv_aload_n hx hb dX8_move_16 rfl (lv_at hl 0 rfl) ?_
      refine va_get (D := D) (ci := 8) (v := .ref (ad 803)) (C := RX8) (T := TX8) (N := 19) hx hb hts hu8 hown hK hP 0 wc_0 rfl 3 (by decide) (hts (.fieldLink RX8 28 "GrazeBook" "houses" "[I") (List.mem_cons_of_mem _ mw_213)) (fun _ h9 => h9) rfl dX8_move_17 ?_
      refine lv_iload_n hx hb dX8_move_20 rfl (lv_at hl 1 rfl) ?_
      refine va_iald_k (k := (a1.toNatClampNeg)) (v := (σ 803 (a1.toNatClampNeg))) hx hb hK hP 10 0 wc_10 rfl rfl rfl (isx_House c_2 hI) dX8_move_21 ?_
      refine lv_iload_n hx hb dX8_move_22 rfl (lv_at hl 2 rfl) ?_
      refine lv_icmp_ne (tgt := 32) hx hb dX8_move_23 (by decide) (fun c_13 => ?_) (fun c_13 => ?_)
      · have hR := (if_neg c_13).symm.trans hR
        refine lv_aload_n hx hb dX8_move_32 rfl (lv_at hl 0 rfl) ?_
        refine va_get (D := D) (ci := 8) (v := .ref (ad 803)) (C := RX8) (T := TX8) (N := 19) hx hb hts hu8 hown hK hP 0 wc_0 rfl 3 (by decide) (hts (.fieldLink RX8 28 "GrazeBook" "houses" "[I") (List.mem_cons_of_mem _ mw_213)) (fun _ h9 => h9) rfl dX8_move_33 ?_
        refine lv_iload_n hx hb dX8_move_36 rfl (lv_at hl 1 rfl) ?_
        refine lv_iload_n hx hb dX8_move_37 rfl (lv_at hl 2 rfl) ?_
        refine va_iast_k (k := (a1.toNatClampNeg)) hx hb hK hP hD hS 10 0 wc_10 rfl rfl (isx_House c_2 hI) dX8_move_38 (fun H locs hP hD hS => ?_)
        rw [wc_s803] at hP hD
        refine lv_iconst (v := (1 : Int32)) hx hb dX8_move_39 (by decide) ?_
        have hI9 : IX (put σ 803 (a1.toNatClampNeg) a2) := hI
        obtain ⟨rfl, rfl⟩ := Prod.mk.inj (show ((1 : Int32), (put σ 803 (a1.toNatClampNeg) a2)) = (R1, R2) from hR)
        rw [hQ]
        exact W.iret (v := (1 : Int32)) hx hb hr (fun t ht hW => ⟨⟨(1 : Int32), (), rfl, rfl, ⟨by rw [ht]; exact hP, va_K.moved hW.alike hK, by rw [← hAe]; exact hD⟩, hI9⟩, hS.F ht⟩) hS.2.2 dX8_move_40
      · have hR := (if_pos c_13).symm.trans hR
        refine lv_aload_n hx hb dX8_move_26 rfl (lv_at hl 0 rfl) ?_
        refine lv_iconst (v := (-1 : Int32)) hx hb dX8_move_27 (by decide) ?_
        have hF := pw_free hD hS hA
        refine va_calli (va_runV (As := [.int (-1 : Int32)]) (rest := []) ⟨hx, hb, hml, hown, hts⟩ (k_X8_refuse l D ca h ad pa tb σ (-1 : Int32) H.size hI _ _ (Prod.eta _).symm) (cwV 1 hts gX8_move_X8_refuse rfl rfl rfl (by decide +kernel) ⟨Nat.le_of_ble_eq_true rfl, Nat.le_of_ble_eq_true rfl⟩) ⟨cw_blind, va_recv hK hP (ci := 8) (q0 := 0) rfl wc_0, cw_give hP hK hD hZ hS hF⟩ rfl rfl hl.1 rfl (lv_room (Nat.le_of_ble_eq_true rfl)) dX8_move_28 ⟨Nat.le_of_ble_eq_true rfl, Nat.le_of_ble_eq_true rfl⟩) hS (fun q _ h => hF q h) hF (fun r_14 u t H1 locs ht hvm hw hB hz1 hk1 hS => ?_)
        rw [hw]
        obtain ⟨hB, hI_15⟩ := hB
        obtain ⟨hP, hD⟩ := pw_back hF ht hB
        clear hB hk1 hz1 hF
        generalize H1 = H at hP hS ⊢
        obtain ⟨τc_16, hτc_16⟩ : ∃ t9, (s_X8_refuse σ (-1 : Int32)).2 = t9 := ⟨_, rfl⟩
        rw [hτc_16] at hP hD hI_15
        (try rw [hτc_16] at hR)
        obtain ⟨vc_17, hvc_17⟩ : ∃ t9, (s_X8_refuse σ (-1 : Int32)).1 = t9 := ⟨_, rfl⟩
        rw [hvc_17]
        (try rw [hvc_17] at hR)
        have hI9 : IX τc_16 := hI_15
        obtain ⟨rfl, rfl⟩ := Prod.mk.inj (show (vc_17, τc_16) = (R1, R2) from hR)
        rw [hQ]
        exact W.iret (v := vc_17) hx hb hr (fun t ht hW => ⟨⟨vc_17, (), rfl, rfl, ⟨by rw [ht]; exact hP, va_K.moved hW.alike hK, by rw [← hAe]; exact hD⟩, hI9⟩, hS.F ht⟩) hS.2.2 dX8_move_31

def s_X8_put (σ : St) (a1 : Int32) (a2 : Int32) : Int32 × St := (if (s_X8_isHerd σ a1) = (0 : Int32) then (((s_X8_refuse σ (-1 : Int32)).1), ((s_X8_refuse σ (-1 : Int32)).2)) else (if (s_X8_isPiece σ a2) = (0 : Int32) then (((s_X8_refuse σ (-1 : Int32)).1), ((s_X8_refuse σ (-1 : Int32)).2)) else (if (σ 206 (a1.toNatClampNeg)) = (0 : Int32) then (if (σ 203 (a1.toNatClampNeg)) = (-1 : Int32) then (if (s_X4_restsOn σ (a2.toNatClampNeg) (σ 816 0)) = (0 : Int32) then (if ((s_X8_lackOf (put σ 203 (a1.toNatClampNeg) a2) (σ 200 (a1.toNatClampNeg))).1) ≤ (0 : Int32) then ((1 : Int32), (put (put ((s_X8_lackOf (put σ 203 (a1.toNatClampNeg) a2) (σ 200 (a1.toNatClampNeg))).2) 817 0 ((((s_X8_lackOf (put σ 203 (a1.toNatClampNeg) a2) (σ 200 (a1.toNatClampNeg))).2) 817 0) + (1 : Int32))) 204 (a1.toNatClampNeg) ((((s_X8_lackOf (put σ 203 (a1.toNatClampNeg) a2) (σ 200 (a1.toNatClampNeg))).2) 817 0) + (1 : Int32)))) else (((s_X8_refuse (put ((s_X8_lackOf (put σ 203 (a1.toNatClampNeg) a2) (σ 200 (a1.toNatClampNeg))).2) 203 (a1.toNatClampNeg) (-1 : Int32)) (-5 : Int32)).1), ((s_X8_refuse (put ((s_X8_lackOf (put σ 203 (a1.toNatClampNeg) a2) (σ 200 (a1.toNatClampNeg))).2) 203 (a1.toNatClampNeg) (-1 : Int32)) (-5 : Int32)).2))) else (((s_X8_refuse σ (-3 : Int32)).1), ((s_X8_refuse σ (-3 : Int32)).2))) else (((s_X8_refuse σ (-3 : Int32)).1), ((s_X8_refuse σ (-3 : Int32)).2))) else (((s_X8_refuse σ (-3 : Int32)).1), ((s_X8_refuse σ (-3 : Int32)).2)))))
theorem fr_s_X8_put (σ : St) (a1 : Int32) (a2 : Int32) {f : Nat} (h100 : f ≠ 100) (h101 : f ≠ 101) (h102 : f ≠ 102) (h103 : f ≠ 103) (h104 : f ≠ 104) (h203 : f ≠ 203) (h204 : f ≠ 204) (h810 : f ≠ 810) (h817 : f ≠ 817) : (s_X8_put σ a1 a2 ).2 f = σ f := by
  unfold s_X8_put
  all_goals ((try dsimp only) <;> ((repeat' split) <;> (try simp only [put_fr, ne_eq, not_false_eq_true, h100, h101, h102, h103, h104, h203, h204, h810, h817, fr_s_X8_refuse, fr_s_X8_lackOf])))
set_option maxHeartbeats 1000000 in
set_option maxRecDepth 100000 in
theorem k_X8_put (l : Launch) (D : va_G) (ca : Nat → ClassId) (h : Nat) (ad : Nat → Nat) (pa : Nat → Nat → Nat) (tb : Nat) (σ : St) (a1 : Int32) (a2 : Int32) (sz : Nat) (hI : IX σ)  (R1 : Int32) (R2 : St) (hR : s_X8_put σ a1 a2 = (R1, R2)) : Met l yX8_put wsX8_put ({ frames := 4, cells := 0, slots := 0, locals := 87 }) (va_Pc [.ref h, .int a1, .int a2] (cw_pre D ca (WC ca h ad pa σ) sz tb)) (va_Qi (fun (r : Int32) (_ : Unit) => r = R1) (fun (_ : Unit) (t : State) => pw_post D ca (WC ca h ad pa σ) sz (WC ca h ad pa R2) t ∧ IX R2) (va_A (WC ca h ad pa σ) sz)) 0 0 (va_A (WC ca h ad pa σ) sz) := by
  refine Met.ofW (cc := cX8_put) (maxL := 4) (ret := (some .int)) (by decide) rfl ?_
  intro p e s m args below meth c s₁ B hml hv
  obtain ⟨rfl, ⟨hsz, hP, hK, hD0⟩, hZ⟩ := hv
  have hx := B.exec
  have hb := B.bytes
  have hr := B.returns
  have hts := atoms_spec (ws := wsX8_put) B.pre
  have hown : s.vm.findClass RX8 = some m.cls := findClass_of_methodNamed B.named
  have hlocks := B.notSynchronized
  have hu2 : ∀ w ∈ u_ws RX2 TX2 8, w ∈ wsX8_put := fun w h => List.mem_cons_of_mem _ (uw2 w h)
  have hu8 : ∀ w ∈ u_ws RX8 TX8 19, w ∈ wsX8_put := fun w h => List.mem_cons_of_mem _ (uw8 w h)
  subst hsz
  have hD := hD0.self (sz := s.heap.size)
  obtain ⟨A, hAe⟩ : ∃ A, A = va_A (WC ca h ad pa σ) s.heap.size := ⟨_, rfl⟩
  rw [← hAe] at hD hZ ⊢
  have hA : ∀ q : Nat, s.heap.size ≤ q → A q := fun q h => by rw [hAe]; exact Or.inr h
  have hS : va_S A s.heap s.heap [] := va_S.rf
  have hl := lv_entry ([.ref h, .int a1, .int a2]) (n := 4) (Nat.le_of_ble_eq_true rfl)
  rw [lg_entry_eq]
  generalize (lg_sl ([.ref h, .int a1, .int a2]) ++ List.replicate (4 - (lg_sl ([.ref h, .int a1, .int a2])).length) Slot.unset).toArray = ls at hl ⊢
  have hl : lv_has ls 4 [(0, .ref h), (1, .int a1), (2, .int a2)] := hl
  obtain ⟨H, hH⟩ : ∃ H, H = s.heap := ⟨_, rfl⟩
  have hP : va_P D vwCl (WC ca h ad pa σ) H := by rw [hH]; exact hP
  have hS : va_S A s.heap H [] := by rw [hH]; exact hS
  obtain ⟨QQ, hQ⟩ : ∃ Q9, Q9 = MQ below (va_Qi (fun (r : Int32) (_ : Unit) => r = R1) (fun (_ : Unit) (t : State) => pw_post D ca (WC ca h ad pa σ) s.heap.size (WC ca h ad pa R2) t ∧ IX R2) A) ([.ref h, .int a1, .int a2] : List Value).toArray s 0 0 A := ⟨_, rfl⟩
  rw [← hQ]
  show W _ _ _ _ _ _ _ _ _ _ s.heap _ _ _ _ _
  rw [← hH]
  have hR : (if (s_X8_isHerd σ a1) = (0 : Int32) then (((s_X8_refuse σ (-1 : Int32)).1), ((s_X8_refuse σ (-1 : Int32)).2)) else (if (s_X8_isPiece σ a2) = (0 : Int32) then (((s_X8_refuse σ (-1 : Int32)).1), ((s_X8_refuse σ (-1 : Int32)).2)) else (if (σ 206 (a1.toNatClampNeg)) = (0 : Int32) then (if (σ 203 (a1.toNatClampNeg)) = (-1 : Int32) then (if (s_X4_restsOn σ (a2.toNatClampNeg) (σ 816 0)) = (0 : Int32) then (if ((s_X8_lackOf (put σ 203 (a1.toNatClampNeg) a2) (σ 200 (a1.toNatClampNeg))).1) ≤ (0 : Int32) then ((1 : Int32), (put (put ((s_X8_lackOf (put σ 203 (a1.toNatClampNeg) a2) (σ 200 (a1.toNatClampNeg))).2) 817 0 ((((s_X8_lackOf (put σ 203 (a1.toNatClampNeg) a2) (σ 200 (a1.toNatClampNeg))).2) 817 0) + (1 : Int32))) 204 (a1.toNatClampNeg) ((((s_X8_lackOf (put σ 203 (a1.toNatClampNeg) a2) (σ 200 (a1.toNatClampNeg))).2) 817 0) + (1 : Int32)))) else (((s_X8_refuse (put ((s_X8_lackOf (put σ 203 (a1.toNatClampNeg) a2) (σ 200 (a1.toNatClampNeg))).2) 203 (a1.toNatClampNeg) (-1 : Int32)) (-5 : Int32)).1), ((s_X8_refuse (put ((s_X8_lackOf (put σ 203 (a1.toNatClampNeg) a2) (σ 200 (a1.toNatClampNeg))).2) 203 (a1.toNatClampNeg) (-1 : Int32)) (-5 : Int32)).2))) else (((s_X8_refuse σ (-3 : Int32)).1), ((s_X8_refuse σ (-3 : Int32)).2))) else (((s_X8_refuse σ (-3 : Int32)).1), ((s_X8_refuse σ (-3 : Int32)).2))) else (((s_X8_refuse σ (-3 : Int32)).1), ((s_X8_refuse σ (-3 : Int32)).2))))) = (R1, R2) := hR
  refine lv_aload_n hx hb dX8_put_0 rfl (lv_at hl 0 rfl) ?_
  refine lv_iload_n hx hb dX8_put_1 rfl (lv_at hl 1 rfl) ?_
  have hF := pw_free hD hS hA
  refine va_calli (va_runV (As := [.int a1]) (rest := []) ⟨hx, hb, hml, hown, hts⟩ (k_X8_isHerd l D ca h ad pa tb σ a1 H.size hI _ rfl) (cwV 1 hts gX8_put_X8_isHerd rfl rfl rfl (by decide +kernel) ⟨Nat.le_of_ble_eq_true rfl, Nat.le_of_ble_eq_true rfl⟩) ⟨cw_blind, va_recv hK hP (ci := 8) (q0 := 0) rfl wc_0, cw_give hP hK hD hZ hS hF⟩ rfl rfl hl.1 rfl (lv_room (Nat.le_of_ble_eq_true rfl)) dX8_put_2 ⟨Nat.le_of_ble_eq_true rfl, Nat.le_of_ble_eq_true rfl⟩) hS (fun q _ h => hF q h) hF (fun r_1 u t H1 locs ht hvm hw hB hz1 hk1 hS => ?_)
  rw [hw]
  obtain ⟨hP, hD⟩ := pw_back hF ht hB
  clear hB hk1 hz1 hF
  generalize H1 = H at hP hS ⊢
  refine lv_if_eq (tgt := 16) hx hb dX8_put_5 (by decide) (fun c_2 => ?_) (fun c_2 => ?_)
  · have hR := (if_pos c_2).symm.trans hR
    refine lv_aload_n hx hb dX8_put_16 rfl (lv_at hl 0 rfl) ?_
    refine lv_iconst (v := (-1 : Int32)) hx hb dX8_put_17 (by decide) ?_
    have hF := pw_free hD hS hA
    refine va_calli (va_runV (As := [.int (-1 : Int32)]) (rest := []) ⟨hx, hb, hml, hown, hts⟩ (k_X8_refuse l D ca h ad pa tb σ (-1 : Int32) H.size hI _ _ (Prod.eta _).symm) (cwV 1 hts gX8_put_X8_refuse rfl rfl rfl (by decide +kernel) ⟨Nat.le_of_ble_eq_true rfl, Nat.le_of_ble_eq_true rfl⟩) ⟨cw_blind, va_recv hK hP (ci := 8) (q0 := 0) rfl wc_0, cw_give hP hK hD hZ hS hF⟩ rfl rfl hl.1 rfl (lv_room (Nat.le_of_ble_eq_true rfl)) dX8_put_18 ⟨Nat.le_of_ble_eq_true rfl, Nat.le_of_ble_eq_true rfl⟩) hS (fun q _ h => hF q h) hF (fun r_3 u t H1 locs ht hvm hw hB hz1 hk1 hS => ?_)
    rw [hw]
    obtain ⟨hB, hI_4⟩ := hB
    obtain ⟨hP, hD⟩ := pw_back hF ht hB
    clear hB hk1 hz1 hF
    generalize H1 = H at hP hS ⊢
    obtain ⟨τc_5, hτc_5⟩ : ∃ t9, (s_X8_refuse σ (-1 : Int32)).2 = t9 := ⟨_, rfl⟩
    rw [hτc_5] at hP hD hI_4
    (try rw [hτc_5] at hR)
    obtain ⟨vc_6, hvc_6⟩ : ∃ t9, (s_X8_refuse σ (-1 : Int32)).1 = t9 := ⟨_, rfl⟩
    rw [hvc_6]
    (try rw [hvc_6] at hR)
    have hI9 : IX τc_5 := hI_4
    obtain ⟨rfl, rfl⟩ := Prod.mk.inj (show (vc_6, τc_5) = (R1, R2) from hR)
    rw [hQ]
    exact W.iret (v := vc_6) hx hb hr (fun t ht hW => ⟨⟨vc_6, (), rfl, rfl, ⟨by rw [ht]; exact hP, va_K.moved hW.alike hK, by rw [← hAe]; exact hD⟩, hI9⟩, hS.F ht⟩) hS.2.2 dX8_put_21
  · have hR := (if_neg c_2).symm.trans hR
    refine lv_aload_n hx hb dX8_put_8 rfl (lv_at hl 0 rfl) ?_
    refine lv_iload_n hx hb dX8_put_9 rfl (lv_at hl 2 rfl) ?_
    have hF := pw_free hD hS hA
    refine va_calli (va_runV (As := [.int a2]) (rest := []) ⟨hx, hb, hml, hown, hts⟩ (k_X8_isPiece l D ca h ad pa tb σ a2 H.size hI _ rfl) (cwV 1 hts gX8_put_X8_isPiece rfl rfl rfl (by decide +kernel) ⟨Nat.le_of_ble_eq_true rfl, Nat.le_of_ble_eq_true rfl⟩) ⟨cw_blind, va_recv hK hP (ci := 8) (q0 := 0) rfl wc_0, cw_give hP hK hD hZ hS hF⟩ rfl rfl hl.1 rfl (lv_room (Nat.le_of_ble_eq_true rfl)) dX8_put_10 ⟨Nat.le_of_ble_eq_true rfl, Nat.le_of_ble_eq_true rfl⟩) hS (fun q _ h => hF q h) hF (fun r_7 u t H1 locs ht hvm hw hB hz1 hk1 hS => ?_)
    rw [hw]
    obtain ⟨hP, hD⟩ := pw_back hF ht hB
    clear hB hk1 hz1 hF
    generalize H1 = H at hP hS ⊢
    refine lv_if_ne (tgt := 22) hx hb dX8_put_13 (by decide) (fun c_8 => ?_) (fun c_8 => ?_)
    · have hR := (if_neg c_8).symm.trans hR
      refine lv_aload_n hx hb dX8_put_22 rfl (lv_at hl 0 rfl) ?_
      refine va_get (D := D) (ci := 8) (v := .ref (ad 805)) (C := RX8) (T := TX8) (N := 19) hx hb hts hu8 hown hK hP 0 wc_0 rfl 5 (by decide) (hts (.fieldLink RX8 40 "GrazeBook" "herds" "[LGrazeBook$Drove;") (List.mem_cons_of_mem _ mw_215)) (fun _ h9 => h9) rfl dX8_put_23 ?_
      refine lv_iload_n hx hb dX8_put_26 rfl (lv_at hl 1 rfl) ?_
      refine va_aldq_k (k := (a1.toNatClampNeg)) (b := pa 3 (a1.toNatClampNeg)) hx hb hK hP 9 5 wc_9 rfl rfl (rf_at (isb_Herd c_2)) (isx_Herd c_2 hI) dX8_put_27 ?_
      refine lv_astore_n (lv' := [(3, .ref (pa 3 (a1.toNatClampNeg))), (0, .ref h), (1, .int a1), (2, .int a2)]) hx hb dX8_put_28 rfl hl (by decide) rfl (fun ls hl => ?_)
      refine lv_aload_n hx hb dX8_put_29 rfl (lv_at hl 0 rfl) ?_
      refine va_get (D := D) (ci := 2) (v := .int (σ 206 (a1.toNatClampNeg))) (C := RX2) (T := TX2) (N := 8) hx hb hts hu2 hown hK hP (pcD ca h ad pa σ (a1.toNatClampNeg)) (wc_aD (isb_Herd c_2)) rfl 6 (by decide) (hts (.fieldLink RX8 160 "GrazeBook$Drove" "state" "I") (List.mem_cons_of_mem _ mw_457)) (fun _ h9 => h9) rfl dX8_put_30 ?_
      refine lv_if_ne (tgt := 60) hx hb dX8_put_33 (by decide) (fun c_9 => ?_) (fun c_9 => ?_)
      · have hR := (if_neg c_9).symm.trans hR
        refine lv_aload_n hx hb dX8_put_60 rfl (lv_at hl 1 rfl) ?_
        refine lv_bipush (v := (-3 : Int32)) hx hb dX8_put_61 (by decide) ?_
        have hF := pw_free hD hS hA
        refine va_calli (va_runV (As := [.int (-3 : Int32)]) (rest := []) ⟨hx, hb, hml, hown, hts⟩ (k_X8_refuse l D ca h ad pa tb σ (-3 : Int32) H.size hI _ _ (Prod.eta _).symm) (cwV 1 hts gX8_put_X8_refuse rfl rfl rfl (by decide +kernel) ⟨Nat.le_of_ble_eq_true rfl, Nat.le_of_ble_eq_true rfl⟩) ⟨cw_blind, va_recv hK hP (ci := 8) (q0 := 0) rfl wc_0, cw_give hP hK hD hZ hS hF⟩ rfl rfl hl.1 rfl (lv_room (Nat.le_of_ble_eq_true rfl)) dX8_put_63 ⟨Nat.le_of_ble_eq_true rfl, Nat.le_of_ble_eq_true rfl⟩) hS (fun q _ h => hF q h) hF (fun r_10 u t H1 locs ht hvm hw hB hz1 hk1 hS => ?_)
        rw [hw]
        obtain ⟨hB, hI_11⟩ := hB
        obtain ⟨hP, hD⟩ := pw_back hF ht hB
        clear hB hk1 hz1 hF
        generalize H1 = H at hP hS ⊢
        obtain ⟨τc_12, hτc_12⟩ : ∃ t9, (s_X8_refuse σ (-3 : Int32)).2 = t9 := ⟨_, rfl⟩
        rw [hτc_12] at hP hD hI_11
        (try rw [hτc_12] at hR)
        obtain ⟨vc_13, hvc_13⟩ : ∃ t9, (s_X8_refuse σ (-3 : Int32)).1 = t9 := ⟨_, rfl⟩
        rw [hvc_13]
        (try rw [hvc_13] at hR)
        have hI9 : IX τc_12 := hI_11
        obtain ⟨rfl, rfl⟩ := Prod.mk.inj (show (vc_13, τc_12) = (R1, R2) from hR)
        rw [hQ]
        exact W.iret (v := vc_13) hx hb hr (fun t ht hW => ⟨⟨vc_13, (), rfl, rfl, ⟨by rw [ht]; exact hP, va_K.moved hW.alike hK, by rw [← hAe]; exact hD⟩, hI9⟩, hS.F ht⟩) hS.2.2 dX8_put_66
      · have hR := (if_pos c_9).symm.trans hR
        refine lv_aload_n hx hb dX8_put_36 rfl (lv_at hl 0 rfl) ?_
        refine va_get (D := D) (ci := 2) (v := .int (σ 203 (a1.toNatClampNeg))) (C := RX2) (T := TX2) (N := 8) hx hb hts hu2 hown hK hP (pcD ca h ad pa σ (a1.toNatClampNeg)) (wc_aD (isb_Herd c_2)) rfl 3 (by decide) (hts (.fieldLink RX8 163 "GrazeBook$Drove" "piece" "I") (List.mem_cons_of_mem _ mw_451)) (fun _ h9 => h9) rfl dX8_put_37 ?_
        refine lv_iconst (v := (-1 : Int32)) hx hb dX8_put_40 (by decide) ?_
        refine lv_icmp_ne (tgt := 60) hx hb dX8_put_41 (by decide) (fun c_14 => ?_) (fun c_14 => ?_)
        · have hR := (if_neg c_14).symm.trans hR
          refine lv_aload_n hx hb dX8_put_60 rfl (lv_at hl 1 rfl) ?_
          refine lv_bipush (v := (-3 : Int32)) hx hb dX8_put_61 (by decide) ?_
          have hF := pw_free hD hS hA
          refine va_calli (va_runV (As := [.int (-3 : Int32)]) (rest := []) ⟨hx, hb, hml, hown, hts⟩ (k_X8_refuse l D ca h ad pa tb σ (-3 : Int32) H.size hI _ _ (Prod.eta _).symm) (cwV 1 hts gX8_put_X8_refuse rfl rfl rfl (by decide +kernel) ⟨Nat.le_of_ble_eq_true rfl, Nat.le_of_ble_eq_true rfl⟩) ⟨cw_blind, va_recv hK hP (ci := 8) (q0 := 0) rfl wc_0, cw_give hP hK hD hZ hS hF⟩ rfl rfl hl.1 rfl (lv_room (Nat.le_of_ble_eq_true rfl)) dX8_put_63 ⟨Nat.le_of_ble_eq_true rfl, Nat.le_of_ble_eq_true rfl⟩) hS (fun q _ h => hF q h) hF (fun r_15 u t H1 locs ht hvm hw hB hz1 hk1 hS => ?_)
          rw [hw]
          obtain ⟨hB, hI_16⟩ := hB
          obtain ⟨hP, hD⟩ := pw_back hF ht hB
          clear hB hk1 hz1 hF
          generalize H1 = H at hP hS ⊢
          obtain ⟨τc_17, hτc_17⟩ : ∃ t9, (s_X8_refuse σ (-3 : Int32)).2 = t9 := ⟨_, rfl⟩
          rw [hτc_17] at hP hD hI_16
          (try rw [hτc_17] at hR)
          obtain ⟨vc_18, hvc_18⟩ : ∃ t9, (s_X8_refuse σ (-3 : Int32)).1 = t9 := ⟨_, rfl⟩
          rw [hvc_18]
          (try rw [hvc_18] at hR)
          have hI9 : IX τc_17 := hI_16
          obtain ⟨rfl, rfl⟩ := Prod.mk.inj (show (vc_18, τc_17) = (R1, R2) from hR)
          rw [hQ]
          exact W.iret (v := vc_18) hx hb hr (fun t ht hW => ⟨⟨vc_18, (), rfl, rfl, ⟨by rw [ht]; exact hP, va_K.moved hW.alike hK, by rw [← hAe]; exact hD⟩, hI9⟩, hS.F ht⟩) hS.2.2 dX8_put_66
        · have hR := (if_pos c_14).symm.trans hR
          refine lv_aload_n hx hb dX8_put_44 rfl (lv_at hl 1 rfl) ?_
          refine va_get (D := D) (ci := 8) (v := .ref (ad 800)) (C := RX8) (T := TX8) (N := 19) hx hb hts hu8 hown hK hP 0 wc_0 rfl 0 (by decide) (hts (.fieldLink RX8 11 "GrazeBook" "pieces" "[LGrazeBook$Ground;") (List.mem_cons_of_mem _ mw_210)) (fun _ h9 => h9) rfl dX8_put_45 ?_
          refine lv_iload_n hx hb dX8_put_48 rfl (lv_at hl 3 rfl) ?_
          refine va_aldq_k (k := (a2.toNatClampNeg)) (b := pa 0 (a2.toNatClampNeg)) hx hb hK hP 6 2 wc_6 rfl rfl (rf_at (isb_Piece c_8)) (isx_Piece c_8 hI) dX8_put_49 ?_
          refine lv_aload_n hx hb dX8_put_50 rfl (lv_at hl 1 rfl) ?_
          refine va_get (D := D) (ci := 8) (v := .int (σ 816 0)) (C := RX8) (T := TX8) (N := 19) hx hb hts hu8 hown hK hP 0 wc_0 rfl 16 (by decide) (hts (.fieldLink RX8 91 "GrazeBook" "day" "I") (List.mem_cons_of_mem _ mw_226)) (fun _ h9 => h9) rfl dX8_put_51 ?_
          have hF := pw_free hD hS hA
          refine va_calli (va_runV (As := [.int (σ 816 0)]) (rest := []) ⟨hx, hb, hml, hown, hts⟩ (k_X4_restsOn l D ca h ad pa tb σ (a2.toNatClampNeg) (σ 816 0) H.size hI (isb_Piece c_8) _ rfl) (cwV 1 hts gX8_put_X4_restsOn rfl rfl rfl (by decide +kernel) ⟨Nat.le_of_ble_eq_true rfl, Nat.le_of_ble_eq_true rfl⟩) ⟨cw_blind, va_recv hK hP (ci := 4) (q0 := (pcG ca h ad pa σ (a2.toNatClampNeg))) rfl (wc_aG (isb_Piece c_8)), cw_give hP hK hD hZ hS hF⟩ rfl rfl hl.1 rfl (lv_room (Nat.le_of_ble_eq_true rfl)) dX8_put_54 ⟨Nat.le_of_ble_eq_true rfl, Nat.le_of_ble_eq_true rfl⟩) hS (fun q _ h => hF q h) hF (fun r_19 u t H1 locs ht hvm hw hB hz1 hk1 hS => ?_)
          rw [hw]
          obtain ⟨hP, hD⟩ := pw_back hF ht hB
          clear hB hk1 hz1 hF
          generalize H1 = H at hP hS ⊢
          refine lv_if_eq (tgt := 67) hx hb dX8_put_57 (by decide) (fun c_20 => ?_) (fun c_20 => ?_)
          · have hR := (if_pos c_20).symm.trans hR
            refine lv_aload_n hx hb dX8_put_67 rfl (lv_at hl 0 rfl) ?_
            refine lv_iload_n hx hb dX8_put_68 rfl (lv_at hl 3 rfl) ?_
            refine va_put (D := D) (ci := 2) (v := .int a2) (ty := .int) (C := RX2) (T := TX2) (N := 8) hx hb hts hu2 tyX2 tyX2_ok nmX2 hown hK hP hD hS (pcD ca h ad pa σ (a1.toNatClampNeg)) (wc_aD (isb_Herd c_2)) rfl 3 (by decide) (hts (.fieldLink RX8 163 "GrazeBook$Drove" "piece" "I") (List.mem_cons_of_mem _ mw_451)) (fun _ h9 => h9) rfl (by decide +kernel) rfl rfl (Nat.le_of_ble_eq_true rfl) dX8_put_69 (fun H locs hP hD hS => ?_)
            rw [wc_sD3 (σ := σ) (isb_Herd c_2)] at hP hD
            refine lv_aload_n hx hb dX8_put_72 rfl (lv_at hl 1 rfl) ?_
            refine lv_aload_n hx hb dX8_put_73 rfl (lv_at hl 0 rfl) ?_
            refine va_get (D := D) (ci := 2) (v := .int (σ 200 (a1.toNatClampNeg))) (C := RX2) (T := TX2) (N := 8) hx hb hts hu2 hown hK hP (pcD ca h ad pa (put σ 203 (a1.toNatClampNeg) a2) (a1.toNatClampNeg)) (wc_aD (isb_Herd c_2)) rfl 0 (by decide) (hts (.fieldLink RX8 169 "GrazeBook$Drove" "owner" "I") (List.mem_cons_of_mem _ mw_441)) (fun _ h9 => h9) rfl dX8_put_74 ?_
            have hF := pw_free hD hS hA
            refine va_calli (va_runV (As := [.int (σ 200 (a1.toNatClampNeg))]) (rest := []) ⟨hx, hb, hml, hown, hts⟩ (k_X8_lackOf l D ca h ad pa tb (put σ 203 (a1.toNatClampNeg) a2) (σ 200 (a1.toNatClampNeg)) H.size hI _ _ (Prod.eta _).symm) (cwV 1 hts gX8_put_X8_lackOf rfl rfl rfl (by decide +kernel) ⟨Nat.le_of_ble_eq_true rfl, Nat.le_of_ble_eq_true rfl⟩) ⟨cw_blind, va_recv hK hP (ci := 8) (q0 := 0) rfl wc_0, cw_give hP hK hD hZ hS hF⟩ rfl rfl hl.1 rfl (lv_room (Nat.le_of_ble_eq_true rfl)) dX8_put_77 ⟨Nat.le_of_ble_eq_true rfl, Nat.le_of_ble_eq_true rfl⟩) hS (fun q _ h => hF q h) hF (fun r_21 u t H1 locs ht hvm hw hB hz1 hk1 hS => ?_)
            rw [hw]
            obtain ⟨hB, hI_22⟩ := hB
            obtain ⟨hP, hD⟩ := pw_back hF ht hB
            clear hB hk1 hz1 hF
            generalize H1 = H at hP hS ⊢
            obtain ⟨τc_23, hτc_23⟩ : ∃ t9, (s_X8_lackOf (put σ 203 (a1.toNatClampNeg) a2) (σ 200 (a1.toNatClampNeg))).2 = t9 := ⟨_, rfl⟩
            rw [hτc_23] at hP hD hI_22
            (try rw [hτc_23] at hR)
            obtain ⟨vc_24, hvc_24⟩ : ∃ t9, (s_X8_lackOf (put σ 203 (a1.toNatClampNeg) a2) (σ 200 (a1.toNatClampNeg))).1 = t9 := ⟨_, rfl⟩
            rw [hvc_24]
            (try rw [hvc_24] at hR)
            refine lv_if_le (tgt := 95) hx hb dX8_put_80 (by decide) (fun c_25 => ?_) (fun c_25 => ?_)
            · have hR := (if_pos c_25).symm.trans hR
              refine lv_aload_n hx hb dX8_put_95 rfl (lv_at hl 1 rfl) ?_
              refine lv_dup hx hb dX8_put_96 rfl ?_
              refine va_get (D := D) (ci := 8) (v := .int (τc_23 817 0)) (C := RX8) (T := TX8) (N := 19) hx hb hts hu8 hown hK hP 0 wc_0 rfl 17 (by decide) (hts (.fieldLink RX8 94 "GrazeBook" "latestOrder" "I") (List.mem_cons_of_mem _ mw_227)) (fun _ h9 => h9) rfl dX8_put_97 ?_
              refine lv_iconst (v := (1 : Int32)) hx hb dX8_put_100 (by decide) ?_
              refine lv_iadd hx hb dX8_put_101 ?_
              refine va_put (D := D) (ci := 8) (v := .int ((τc_23 817 0) + (1 : Int32))) (ty := .int) (C := RX8) (T := TX8) (N := 19) hx hb hts hu8 tyX8 tyX8_ok nmX8 hown hK hP hD hS 0 wc_0 rfl 17 (by decide) (hts (.fieldLink RX8 94 "GrazeBook" "latestOrder" "I") (List.mem_cons_of_mem _ mw_227)) (fun _ h9 => h9) rfl (by decide +kernel) rfl rfl (Nat.le_of_ble_eq_true rfl) dX8_put_102 (fun H locs hP hD hS => ?_)
              rw [wc_p817] at hP hD
              refine lv_aload_n hx hb dX8_put_105 rfl (lv_at hl 0 rfl) ?_
              refine lv_aload_n hx hb dX8_put_106 rfl (lv_at hl 1 rfl) ?_
              refine va_get (D := D) (ci := 8) (v := .int ((τc_23 817 0) + (1 : Int32))) (C := RX8) (T := TX8) (N := 19) hx hb hts hu8 hown hK hP 0 wc_0 rfl 17 (by decide) (hts (.fieldLink RX8 94 "GrazeBook" "latestOrder" "I") (List.mem_cons_of_mem _ mw_227)) (fun _ h9 => h9) rfl dX8_put_107 ?_
              refine va_put (D := D) (ci := 2) (v := .int ((τc_23 817 0) + (1 : Int32))) (ty := .int) (C := RX2) (T := TX2) (N := 8) hx hb hts hu2 tyX2 tyX2_ok nmX2 hown hK hP hD hS (pcD ca h ad pa (put τc_23 817 0 ((τc_23 817 0) + (1 : Int32))) (a1.toNatClampNeg)) (wc_aD (cnt_cast (congrFun ((show τc_23 815 = (put σ 203 (a1.toNatClampNeg) a2) 815 by rw [← hτc_23]; exact fr_s_X8_lackOf (put σ 203 (a1.toNatClampNeg) a2) (σ 200 (a1.toNatClampNeg)) (f := 815) (by decide) (by decide) (by decide) (by decide) (by decide)).trans rfl) 0) (isb_Herd c_2))) rfl 4 (by decide) (hts (.fieldLink RX8 175 "GrazeBook$Drove" "order" "I") (List.mem_cons_of_mem _ mw_453)) (fun _ h9 => h9) rfl (by decide +kernel) rfl rfl (Nat.le_of_ble_eq_true rfl) dX8_put_110 (fun H locs hP hD hS => ?_)
              rw [wc_sD4 (σ := (put τc_23 817 0 ((τc_23 817 0) + (1 : Int32)))) (cnt_cast (congrFun ((show τc_23 815 = (put σ 203 (a1.toNatClampNeg) a2) 815 by rw [← hτc_23]; exact fr_s_X8_lackOf (put σ 203 (a1.toNatClampNeg) a2) (σ 200 (a1.toNatClampNeg)) (f := 815) (by decide) (by decide) (by decide) (by decide) (by decide)).trans rfl) 0) (isb_Herd c_2))] at hP hD
              refine lv_iconst (v := (1 : Int32)) hx hb dX8_put_113 (by decide) ?_
              have hI9 : IX (put (put τc_23 817 0 ((τc_23 817 0) + (1 : Int32))) 204 (a1.toNatClampNeg) ((τc_23 817 0) + (1 : Int32))) := hI_22
              obtain ⟨rfl, rfl⟩ := Prod.mk.inj (show ((1 : Int32), (put (put τc_23 817 0 ((τc_23 817 0) + (1 : Int32))) 204 (a1.toNatClampNeg) ((τc_23 817 0) + (1 : Int32)))) = (R1, R2) from hR)
              rw [hQ]
              exact W.iret (v := (1 : Int32)) hx hb hr (fun t ht hW => ⟨⟨(1 : Int32), (), rfl, rfl, ⟨by rw [ht]; exact hP, va_K.moved hW.alike hK, by rw [← hAe]; exact hD⟩, hI9⟩, hS.F ht⟩) hS.2.2 dX8_put_114
            · have hR := (if_neg c_25).symm.trans hR
              refine lv_aload_n hx hb dX8_put_83 rfl (lv_at hl 0 rfl) ?_
              refine lv_iconst (v := (-1 : Int32)) hx hb dX8_put_84 (by decide) ?_
              refine va_put (D := D) (ci := 2) (v := .int (-1 : Int32)) (ty := .int) (C := RX2) (T := TX2) (N := 8) hx hb hts hu2 tyX2 tyX2_ok nmX2 hown hK hP hD hS (pcD ca h ad pa τc_23 (a1.toNatClampNeg)) (wc_aD (cnt_cast (congrFun ((show τc_23 815 = (put σ 203 (a1.toNatClampNeg) a2) 815 by rw [← hτc_23]; exact fr_s_X8_lackOf (put σ 203 (a1.toNatClampNeg) a2) (σ 200 (a1.toNatClampNeg)) (f := 815) (by decide) (by decide) (by decide) (by decide) (by decide)).trans rfl) 0) (isb_Herd c_2))) rfl 3 (by decide) (hts (.fieldLink RX8 163 "GrazeBook$Drove" "piece" "I") (List.mem_cons_of_mem _ mw_451)) (fun _ h9 => h9) rfl (by decide +kernel) rfl rfl (Nat.le_of_ble_eq_true rfl) dX8_put_85 (fun H locs hP hD hS => ?_)
              rw [wc_sD3 (σ := τc_23) (cnt_cast (congrFun ((show τc_23 815 = (put σ 203 (a1.toNatClampNeg) a2) 815 by rw [← hτc_23]; exact fr_s_X8_lackOf (put σ 203 (a1.toNatClampNeg) a2) (σ 200 (a1.toNatClampNeg)) (f := 815) (by decide) (by decide) (by decide) (by decide) (by decide)).trans rfl) 0) (isb_Herd c_2))] at hP hD
              refine lv_aload_n hx hb dX8_put_88 rfl (lv_at hl 1 rfl) ?_
              refine lv_bipush (v := (-5 : Int32)) hx hb dX8_put_89 (by decide) ?_
              have hF := pw_free hD hS hA
              refine va_calli (va_runV (As := [.int (-5 : Int32)]) (rest := []) ⟨hx, hb, hml, hown, hts⟩ (k_X8_refuse l D ca h ad pa tb (put τc_23 203 (a1.toNatClampNeg) (-1 : Int32)) (-5 : Int32) H.size hI_22 _ _ (Prod.eta _).symm) (cwV 1 hts gX8_put_X8_refuse rfl rfl rfl (by decide +kernel) ⟨Nat.le_of_ble_eq_true rfl, Nat.le_of_ble_eq_true rfl⟩) ⟨cw_blind, va_recv hK hP (ci := 8) (q0 := 0) rfl wc_0, cw_give hP hK hD hZ hS hF⟩ rfl rfl hl.1 rfl (lv_room (Nat.le_of_ble_eq_true rfl)) dX8_put_91 ⟨Nat.le_of_ble_eq_true rfl, Nat.le_of_ble_eq_true rfl⟩) hS (fun q _ h => hF q h) hF (fun r_26 u t H1 locs ht hvm hw hB hz1 hk1 hS => ?_)
              rw [hw]
              obtain ⟨hB, hI_27⟩ := hB
              obtain ⟨hP, hD⟩ := pw_back hF ht hB
              clear hB hk1 hz1 hF
              generalize H1 = H at hP hS ⊢
              obtain ⟨τc_28, hτc_28⟩ : ∃ t9, (s_X8_refuse (put τc_23 203 (a1.toNatClampNeg) (-1 : Int32)) (-5 : Int32)).2 = t9 := ⟨_, rfl⟩
              rw [hτc_28] at hP hD hI_27
              (try rw [hτc_28] at hR)
              obtain ⟨vc_29, hvc_29⟩ : ∃ t9, (s_X8_refuse (put τc_23 203 (a1.toNatClampNeg) (-1 : Int32)) (-5 : Int32)).1 = t9 := ⟨_, rfl⟩
              rw [hvc_29]
              (try rw [hvc_29] at hR)
              have hI9 : IX τc_28 := hI_27
              obtain ⟨rfl, rfl⟩ := Prod.mk.inj (show (vc_29, τc_28) = (R1, R2) from hR)
              rw [hQ]
              exact W.iret (v := vc_29) hx hb hr (fun t ht hW => ⟨⟨vc_29, (), rfl, rfl, ⟨by rw [ht]; exact hP, va_K.moved hW.alike hK, by rw [← hAe]; exact hD⟩, hI9⟩, hS.F ht⟩) hS.2.2 dX8_put_94
          · have hR := (if_neg c_20).symm.trans hR
            refine lv_aload_n hx hb dX8_put_60 rfl (lv_at hl 1 rfl) ?_
            refine lv_bipush (v := (-3 : Int32)) hx hb dX8_put_61 (by decide) ?_
            have hF := pw_free hD hS hA
            refine va_calli (va_runV (As := [.int (-3 : Int32)]) (rest := []) ⟨hx, hb, hml, hown, hts⟩ (k_X8_refuse l D ca h ad pa tb σ (-3 : Int32) H.size hI _ _ (Prod.eta _).symm) (cwV 1 hts gX8_put_X8_refuse rfl rfl rfl (by decide +kernel) ⟨Nat.le_of_ble_eq_true rfl, Nat.le_of_ble_eq_true rfl⟩) ⟨cw_blind, va_recv hK hP (ci := 8) (q0 := 0) rfl wc_0, cw_give hP hK hD hZ hS hF⟩ rfl rfl hl.1 rfl (lv_room (Nat.le_of_ble_eq_true rfl)) dX8_put_63 ⟨Nat.le_of_ble_eq_true rfl, Nat.le_of_ble_eq_true rfl⟩) hS (fun q _ h => hF q h) hF (fun r_30 u t H1 locs ht hvm hw hB hz1 hk1 hS => ?_)
            rw [hw]
            obtain ⟨hB, hI_31⟩ := hB
            obtain ⟨hP, hD⟩ := pw_back hF ht hB
            clear hB hk1 hz1 hF
            generalize H1 = H at hP hS ⊢
            obtain ⟨τc_32, hτc_32⟩ : ∃ t9, (s_X8_refuse σ (-3 : Int32)).2 = t9 := ⟨_, rfl⟩
            rw [hτc_32] at hP hD hI_31
            (try rw [hτc_32] at hR)
            obtain ⟨vc_33, hvc_33⟩ : ∃ t9, (s_X8_refuse σ (-3 : Int32)).1 = t9 := ⟨_, rfl⟩
            rw [hvc_33]
            (try rw [hvc_33] at hR)
            have hI9 : IX τc_32 := hI_31
            obtain ⟨rfl, rfl⟩ := Prod.mk.inj (show (vc_33, τc_32) = (R1, R2) from hR)
            rw [hQ]
            exact W.iret (v := vc_33) hx hb hr (fun t ht hW => ⟨⟨vc_33, (), rfl, rfl, ⟨by rw [ht]; exact hP, va_K.moved hW.alike hK, by rw [← hAe]; exact hD⟩, hI9⟩, hS.F ht⟩) hS.2.2 dX8_put_66
    · have hR := (if_pos c_8).symm.trans hR
      refine lv_aload_n hx hb dX8_put_16 rfl (lv_at hl 0 rfl) ?_
      refine lv_iconst (v := (-1 : Int32)) hx hb dX8_put_17 (by decide) ?_
      have hF := pw_free hD hS hA
      refine va_calli (va_runV (As := [.int (-1 : Int32)]) (rest := []) ⟨hx, hb, hml, hown, hts⟩ (k_X8_refuse l D ca h ad pa tb σ (-1 : Int32) H.size hI _ _ (Prod.eta _).symm) (cwV 1 hts gX8_put_X8_refuse rfl rfl rfl (by decide +kernel) ⟨Nat.le_of_ble_eq_true rfl, Nat.le_of_ble_eq_true rfl⟩) ⟨cw_blind, va_recv hK hP (ci := 8) (q0 := 0) rfl wc_0, cw_give hP hK hD hZ hS hF⟩ rfl rfl hl.1 rfl (lv_room (Nat.le_of_ble_eq_true rfl)) dX8_put_18 ⟨Nat.le_of_ble_eq_true rfl, Nat.le_of_ble_eq_true rfl⟩) hS (fun q _ h => hF q h) hF (fun r_34 u t H1 locs ht hvm hw hB hz1 hk1 hS => ?_)
      rw [hw]
      obtain ⟨hB, hI_35⟩ := hB
      obtain ⟨hP, hD⟩ := pw_back hF ht hB
      clear hB hk1 hz1 hF
      generalize H1 = H at hP hS ⊢
      obtain ⟨τc_36, hτc_36⟩ : ∃ t9, (s_X8_refuse σ (-1 : Int32)).2 = t9 := ⟨_, rfl⟩
      rw [hτc_36] at hP hD hI_35
      (try rw [hτc_36] at hR)
      obtain ⟨vc_37, hvc_37⟩ : ∃ t9, (s_X8_refuse σ (-1 : Int32)).1 = t9 := ⟨_, rfl⟩
      rw [hvc_37]
      (try rw [hvc_37] at hR)
      have hI9 : IX τc_36 := hI_35
      obtain ⟨rfl, rfl⟩ := Prod.mk.inj (show (vc_37, τc_36) = (R1, R2) from hR)
      rw [hQ]
      exact W.iret (v := vc_37) hx hb hr (fun t ht hW => ⟨⟨vc_37, (), rfl, rfl, ⟨by rw [ht]; exact hP, va_K.moved hW.alike hK, by rw [← hAe]; exact hD⟩, hI9⟩, hS.F ht⟩) hS.2.2 dX8_put_21

def s_X8_drive (σ : St) (a1 : Int32) (a2 : Int32) : Int32 × St := (if (s_X8_isHerd σ a1) = (0 : Int32) then (((s_X8_refuse σ (-1 : Int32)).1), ((s_X8_refuse σ (-1 : Int32)).2)) else (if a2 = (-1 : Int32) then (if (σ 203 (a1.toNatClampNeg)) = (-1 : Int32) then (((s_X8_refuse σ (-3 : Int32)).1), ((s_X8_refuse σ (-3 : Int32)).2)) else (if (σ 203 (a1.toNatClampNeg)) = a2 then (((s_X8_refuse σ (-3 : Int32)).1), ((s_X8_refuse σ (-3 : Int32)).2)) else ((σ 203 (a1.toNatClampNeg)), (put (put (put σ 203 (a1.toNatClampNeg) a2) 817 0 ((σ 817 0) + (1 : Int32))) 204 (a1.toNatClampNeg) ((σ 817 0) + (1 : Int32)))))) else (if (s_X8_isPiece σ a2) = (0 : Int32) then (((s_X8_refuse σ (-1 : Int32)).1), ((s_X8_refuse σ (-1 : Int32)).2)) else (if (σ 203 (a1.toNatClampNeg)) = (-1 : Int32) then (((s_X8_refuse σ (-3 : Int32)).1), ((s_X8_refuse σ (-3 : Int32)).2)) else (if (σ 203 (a1.toNatClampNeg)) = a2 then (((s_X8_refuse σ (-3 : Int32)).1), ((s_X8_refuse σ (-3 : Int32)).2)) else (if (s_X4_restsOn σ (a2.toNatClampNeg) (σ 816 0)) = (0 : Int32) then ((σ 203 (a1.toNatClampNeg)), (put (put (put σ 203 (a1.toNatClampNeg) a2) 817 0 ((σ 817 0) + (1 : Int32))) 204 (a1.toNatClampNeg) ((σ 817 0) + (1 : Int32)))) else (((s_X8_refuse σ (-3 : Int32)).1), ((s_X8_refuse σ (-3 : Int32)).2))))))))
theorem fr_s_X8_drive (σ : St) (a1 : Int32) (a2 : Int32) {f : Nat} (h203 : f ≠ 203) (h204 : f ≠ 204) (h810 : f ≠ 810) (h817 : f ≠ 817) : (s_X8_drive σ a1 a2 ).2 f = σ f := by
  unfold s_X8_drive
  all_goals ((try dsimp only) <;> ((repeat' split) <;> (try simp only [put_fr, ne_eq, not_false_eq_true, h203, h204, h810, h817, fr_s_X8_refuse])))
set_option maxHeartbeats 1000000 in
set_option maxRecDepth 100000 in
theorem k_X8_drive (l : Launch) (D : va_G) (ca : Nat → ClassId) (h : Nat) (ad : Nat → Nat) (pa : Nat → Nat → Nat) (tb : Nat) (σ : St) (a1 : Int32) (a2 : Int32) (sz : Nat) (hI : IX σ)  (R1 : Int32) (R2 : St) (hR : s_X8_drive σ a1 a2 = (R1, R2)) : Met l yX8_drive wsX8_drive ({ frames := 1, cells := 0, slots := 0, locals := 21 }) (va_Pc [.ref h, .int a1, .int a2] (cw_pre D ca (WC ca h ad pa σ) sz tb)) (va_Qi (fun (r : Int32) (_ : Unit) => r = R1) (fun (_ : Unit) (t : State) => pw_post D ca (WC ca h ad pa σ) sz (WC ca h ad pa R2) t ∧ IX R2) (va_A (WC ca h ad pa σ) sz)) 0 0 (va_A (WC ca h ad pa σ) sz) := by
  refine Met.ofW (cc := cX8_drive) (maxL := 5) (ret := (some .int)) (by decide) rfl ?_
  intro p e s m args below meth c s₁ B hml hv
  obtain ⟨rfl, ⟨hsz, hP, hK, hD0⟩, hZ⟩ := hv
  have hx := B.exec
  have hb := B.bytes
  have hr := B.returns
  have hts := atoms_spec (ws := wsX8_drive) B.pre
  have hown : s.vm.findClass RX8 = some m.cls := findClass_of_methodNamed B.named
  have hlocks := B.notSynchronized
  have hu2 : ∀ w ∈ u_ws RX2 TX2 8, w ∈ wsX8_drive := fun w h => List.mem_cons_of_mem _ (uw2 w h)
  have hu8 : ∀ w ∈ u_ws RX8 TX8 19, w ∈ wsX8_drive := fun w h => List.mem_cons_of_mem _ (uw8 w h)
  subst hsz
  have hD := hD0.self (sz := s.heap.size)
  obtain ⟨A, hAe⟩ : ∃ A, A = va_A (WC ca h ad pa σ) s.heap.size := ⟨_, rfl⟩
  rw [← hAe] at hD hZ ⊢
  have hA : ∀ q : Nat, s.heap.size ≤ q → A q := fun q h => by rw [hAe]; exact Or.inr h
  have hS : va_S A s.heap s.heap [] := va_S.rf
  have hl := lv_entry ([.ref h, .int a1, .int a2]) (n := 5) (Nat.le_of_ble_eq_true rfl)
  rw [lg_entry_eq]
  generalize (lg_sl ([.ref h, .int a1, .int a2]) ++ List.replicate (5 - (lg_sl ([.ref h, .int a1, .int a2])).length) Slot.unset).toArray = ls at hl ⊢
  have hl : lv_has ls 5 [(0, .ref h), (1, .int a1), (2, .int a2)] := hl
  obtain ⟨H, hH⟩ : ∃ H, H = s.heap := ⟨_, rfl⟩
  have hP : va_P D vwCl (WC ca h ad pa σ) H := by rw [hH]; exact hP
  have hS : va_S A s.heap H [] := by rw [hH]; exact hS
  obtain ⟨QQ, hQ⟩ : ∃ Q9, Q9 = MQ below (va_Qi (fun (r : Int32) (_ : Unit) => r = R1) (fun (_ : Unit) (t : State) => pw_post D ca (WC ca h ad pa σ) s.heap.size (WC ca h ad pa R2) t ∧ IX R2) A) ([.ref h, .int a1, .int a2] : List Value).toArray s 0 0 A := ⟨_, rfl⟩
  rw [← hQ]
  show W _ _ _ _ _ _ _ _ _ _ s.heap _ _ _ _ _
  rw [← hH]
  have hR : (if (s_X8_isHerd σ a1) = (0 : Int32) then (((s_X8_refuse σ (-1 : Int32)).1), ((s_X8_refuse σ (-1 : Int32)).2)) else (if a2 = (-1 : Int32) then (if (σ 203 (a1.toNatClampNeg)) = (-1 : Int32) then (((s_X8_refuse σ (-3 : Int32)).1), ((s_X8_refuse σ (-3 : Int32)).2)) else (if (σ 203 (a1.toNatClampNeg)) = a2 then (((s_X8_refuse σ (-3 : Int32)).1), ((s_X8_refuse σ (-3 : Int32)).2)) else ((σ 203 (a1.toNatClampNeg)), (put (put (put σ 203 (a1.toNatClampNeg) a2) 817 0 ((σ 817 0) + (1 : Int32))) 204 (a1.toNatClampNeg) ((σ 817 0) + (1 : Int32)))))) else (if (s_X8_isPiece σ a2) = (0 : Int32) then (((s_X8_refuse σ (-1 : Int32)).1), ((s_X8_refuse σ (-1 : Int32)).2)) else (if (σ 203 (a1.toNatClampNeg)) = (-1 : Int32) then (((s_X8_refuse σ (-3 : Int32)).1), ((s_X8_refuse σ (-3 : Int32)).2)) else (if (σ 203 (a1.toNatClampNeg)) = a2 then (((s_X8_refuse σ (-3 : Int32)).1), ((s_X8_refuse σ (-3 : Int32)).2)) else (if (s_X4_restsOn σ (a2.toNatClampNeg) (σ 816 0)) = (0 : Int32) then ((σ 203 (a1.toNatClampNeg)), (put (put (put σ 203 (a1.toNatClampNeg) a2) 817 0 ((σ 817 0) + (1 : Int32))) 204 (a1.toNatClampNeg) ((σ 817 0) + (1 : Int32)))) else (((s_X8_refuse σ (-3 : Int32)).1), ((s_X8_refuse σ (-3 : Int32)).2)))))))) = (R1, R2) := hR
  refine lv_aload_n hx hb dX8_drive_0 rfl (lv_at hl 0 rfl) ?_
  refine lv_iload_n hx hb dX8_drive_1 rfl (lv_at hl 1 rfl) ?_
  have hF := pw_free hD hS hA
  refine va_calli (va_runV (As := [.int a1]) (rest := []) ⟨hx, hb, hml, hown, hts⟩ (k_X8_isHerd l D ca h ad pa tb σ a1 H.size hI _ rfl) (cwV 1 hts gX8_drive_X8_isHerd rfl rfl rfl (by decide +kernel) ⟨Nat.le_of_ble_eq_true rfl, Nat.le_of_ble_eq_true rfl⟩) ⟨cw_blind, va_recv hK hP (ci := 8) (q0 := 0) rfl wc_0, cw_give hP hK hD hZ hS hF⟩ rfl rfl hl.1 rfl (lv_room (Nat.le_of_ble_eq_true rfl)) dX8_drive_2 ⟨Nat.le_of_ble_eq_true rfl, Nat.le_of_ble_eq_true rfl⟩) hS (fun q _ h => hF q h) hF (fun r_1 u t H1 locs ht hvm hw hB hz1 hk1 hS => ?_)
  rw [hw]
  obtain ⟨hP, hD⟩ := pw_back hF ht hB
  clear hB hk1 hz1 hF
  generalize H1 = H at hP hS ⊢
  refine lv_if_eq (tgt := 21) hx hb dX8_drive_5 (by decide) (fun c_2 => ?_) (fun c_2 => ?_)
  · have hR := (if_pos c_2).symm.trans hR
    refine lv_aload_n hx hb dX8_drive_21 rfl (lv_at hl 0 rfl) ?_
    refine lv_iconst (v := (-1 : Int32)) hx hb dX8_drive_22 (by decide) ?_
    have hF := pw_free hD hS hA
    refine va_calli (va_runV (As := [.int (-1 : Int32)]) (rest := []) ⟨hx, hb, hml, hown, hts⟩ (k_X8_refuse l D ca h ad pa tb σ (-1 : Int32) H.size hI _ _ (Prod.eta _).symm) (cwV 1 hts gX8_drive_X8_refuse rfl rfl rfl (by decide +kernel) ⟨Nat.le_of_ble_eq_true rfl, Nat.le_of_ble_eq_true rfl⟩) ⟨cw_blind, va_recv hK hP (ci := 8) (q0 := 0) rfl wc_0, cw_give hP hK hD hZ hS hF⟩ rfl rfl hl.1 rfl (lv_room (Nat.le_of_ble_eq_true rfl)) dX8_drive_23 ⟨Nat.le_of_ble_eq_true rfl, Nat.le_of_ble_eq_true rfl⟩) hS (fun q _ h => hF q h) hF (fun r_3 u t H1 locs ht hvm hw hB hz1 hk1 hS => ?_)
    rw [hw]
    obtain ⟨hB, hI_4⟩ := hB
    obtain ⟨hP, hD⟩ := pw_back hF ht hB
    clear hB hk1 hz1 hF
    generalize H1 = H at hP hS ⊢
    obtain ⟨τc_5, hτc_5⟩ : ∃ t9, (s_X8_refuse σ (-1 : Int32)).2 = t9 := ⟨_, rfl⟩
    rw [hτc_5] at hP hD hI_4
    (try rw [hτc_5] at hR)
    obtain ⟨vc_6, hvc_6⟩ : ∃ t9, (s_X8_refuse σ (-1 : Int32)).1 = t9 := ⟨_, rfl⟩
    rw [hvc_6]
    (try rw [hvc_6] at hR)
    have hI9 : IX τc_5 := hI_4
    obtain ⟨rfl, rfl⟩ := Prod.mk.inj (show (vc_6, τc_5) = (R1, R2) from hR)
    rw [hQ]
    exact W.iret (v := vc_6) hx hb hr (fun t ht hW => ⟨⟨vc_6, (), rfl, rfl, ⟨by rw [ht]; exact hP, va_K.moved hW.alike hK, by rw [← hAe]; exact hD⟩, hI9⟩, hS.F ht⟩) hS.2.2 dX8_drive_26
  · have hR := (if_neg c_2).symm.trans hR
    refine lv_iload_n hx hb dX8_drive_8 rfl (lv_at hl 2 rfl) ?_
    refine lv_iconst (v := (-1 : Int32)) hx hb dX8_drive_9 (by decide) ?_
    refine lv_icmp_eq (tgt := 27) hx hb dX8_drive_10 (by decide) (fun c_7 => ?_) (fun c_7 => ?_)
    · have hR := (if_pos c_7).symm.trans hR
      refine lv_aload_n hx hb dX8_drive_27 rfl (lv_at hl 0 rfl) ?_
      refine va_get (D := D) (ci := 8) (v := .ref (ad 805)) (C := RX8) (T := TX8) (N := 19) hx hb hts hu8 hown hK hP 0 wc_0 rfl 5 (by decide) (hts (.fieldLink RX8 40 "GrazeBook" "herds" "[LGrazeBook$Drove;") (List.mem_cons_of_mem _ mw_215)) (fun _ h9 => h9) rfl dX8_drive_28 ?_
      refine lv_iload_n hx hb dX8_drive_31 rfl (lv_at hl 1 rfl) ?_
      refine va_aldq_k (k := (a1.toNatClampNeg)) (b := pa 3 (a1.toNatClampNeg)) hx hb hK hP 9 5 wc_9 rfl rfl (rf_at (isb_Herd c_2)) (isx_Herd c_2 hI) dX8_drive_32 ?_
      refine lv_astore_n (lv' := [(3, .ref (pa 3 (a1.toNatClampNeg))), (0, .ref h), (1, .int a1), (2, .int a2)]) hx hb dX8_drive_33 rfl hl (by decide) rfl (fun ls hl => ?_)
      refine lv_aload_n hx hb dX8_drive_34 rfl (lv_at hl 0 rfl) ?_
      refine va_get (D := D) (ci := 2) (v := .int (σ 203 (a1.toNatClampNeg))) (C := RX2) (T := TX2) (N := 8) hx hb hts hu2 hown hK hP (pcD ca h ad pa σ (a1.toNatClampNeg)) (wc_aD (isb_Herd c_2)) rfl 3 (by decide) (hts (.fieldLink RX8 163 "GrazeBook$Drove" "piece" "I") (List.mem_cons_of_mem _ mw_451)) (fun _ h9 => h9) rfl dX8_drive_35 ?_
      refine lv_istore (lv' := [(4, .int (σ 203 (a1.toNatClampNeg))), (3, .ref (pa 3 (a1.toNatClampNeg))), (0, .ref h), (1, .int a1), (2, .int a2)]) hx hb dX8_drive_38 hl (by decide) rfl (fun ls hl => ?_)
      refine lv_iload hx hb dX8_drive_40 (lv_at hl 0 rfl) ?_
      refine lv_iconst (v := (-1 : Int32)) hx hb dX8_drive_42 (by decide) ?_
      refine lv_icmp_eq (tgt := 73) hx hb dX8_drive_43 (by decide) (fun c_8 => ?_) (fun c_8 => ?_)
      · have hR := (if_pos c_8).symm.trans hR
        refine lv_aload_n hx hb dX8_drive_73 rfl (lv_at hl 2 rfl) ?_
        refine lv_bipush (v := (-3 : Int32)) hx hb dX8_drive_74 (by decide) ?_
        have hF := pw_free hD hS hA
        refine va_calli (va_runV (As := [.int (-3 : Int32)]) (rest := []) ⟨hx, hb, hml, hown, hts⟩ (k_X8_refuse l D ca h ad pa tb σ (-3 : Int32) H.size hI _ _ (Prod.eta _).symm) (cwV 1 hts gX8_drive_X8_refuse rfl rfl rfl (by decide +kernel) ⟨Nat.le_of_ble_eq_true rfl, Nat.le_of_ble_eq_true rfl⟩) ⟨cw_blind, va_recv hK hP (ci := 8) (q0 := 0) rfl wc_0, cw_give hP hK hD hZ hS hF⟩ rfl rfl hl.1 rfl (lv_room (Nat.le_of_ble_eq_true rfl)) dX8_drive_76 ⟨Nat.le_of_ble_eq_true rfl, Nat.le_of_ble_eq_true rfl⟩) hS (fun q _ h => hF q h) hF (fun r_9 u t H1 locs ht hvm hw hB hz1 hk1 hS => ?_)
        rw [hw]
        obtain ⟨hB, hI_10⟩ := hB
        obtain ⟨hP, hD⟩ := pw_back hF ht hB
        clear hB hk1 hz1 hF
        generalize H1 = H at hP hS ⊢
        obtain ⟨τc_11, hτc_11⟩ : ∃ t9, (s_X8_refuse σ (-3 : Int32)).2 = t9 := ⟨_, rfl⟩
        rw [hτc_11] at hP hD hI_10
        (try rw [hτc_11] at hR)
        obtain ⟨vc_12, hvc_12⟩ : ∃ t9, (s_X8_refuse σ (-3 : Int32)).1 = t9 := ⟨_, rfl⟩
        rw [hvc_12]
        (try rw [hvc_12] at hR)
        have hI9 : IX τc_11 := hI_10
        obtain ⟨rfl, rfl⟩ := Prod.mk.inj (show (vc_12, τc_11) = (R1, R2) from hR)
        rw [hQ]
        exact W.iret (v := vc_12) hx hb hr (fun t ht hW => ⟨⟨vc_12, (), rfl, rfl, ⟨by rw [ht]; exact hP, va_K.moved hW.alike hK, by rw [← hAe]; exact hD⟩, hI9⟩, hS.F ht⟩) hS.2.2 dX8_drive_79
      · have hR := (if_neg c_8).symm.trans hR
        refine lv_iload hx hb dX8_drive_46 (lv_at hl 0 rfl) ?_
        refine lv_iload_n hx hb dX8_drive_48 rfl (lv_at hl 4 rfl) ?_
        refine lv_icmp_eq (tgt := 73) hx hb dX8_drive_49 (by decide) (fun c_13 => ?_) (fun c_13 => ?_)
        · have hR := (if_pos c_13).symm.trans hR
          refine lv_aload_n hx hb dX8_drive_73 rfl (lv_at hl 2 rfl) ?_
          refine lv_bipush (v := (-3 : Int32)) hx hb dX8_drive_74 (by decide) ?_
          have hF := pw_free hD hS hA
          refine va_calli (va_runV (As := [.int (-3 : Int32)]) (rest := []) ⟨hx, hb, hml, hown, hts⟩ (k_X8_refuse l D ca h ad pa tb σ (-3 : Int32) H.size hI _ _ (Prod.eta _).symm) (cwV 1 hts gX8_drive_X8_refuse rfl rfl rfl (by decide +kernel) ⟨Nat.le_of_ble_eq_true rfl, Nat.le_of_ble_eq_true rfl⟩) ⟨cw_blind, va_recv hK hP (ci := 8) (q0 := 0) rfl wc_0, cw_give hP hK hD hZ hS hF⟩ rfl rfl hl.1 rfl (lv_room (Nat.le_of_ble_eq_true rfl)) dX8_drive_76 ⟨Nat.le_of_ble_eq_true rfl, Nat.le_of_ble_eq_true rfl⟩) hS (fun q _ h => hF q h) hF (fun r_14 u t H1 locs ht hvm hw hB hz1 hk1 hS => ?_)
          rw [hw]
          obtain ⟨hB, hI_15⟩ := hB
          obtain ⟨hP, hD⟩ := pw_back hF ht hB
          clear hB hk1 hz1 hF
          generalize H1 = H at hP hS ⊢
          obtain ⟨τc_16, hτc_16⟩ : ∃ t9, (s_X8_refuse σ (-3 : Int32)).2 = t9 := ⟨_, rfl⟩
          rw [hτc_16] at hP hD hI_15
          (try rw [hτc_16] at hR)
          obtain ⟨vc_17, hvc_17⟩ : ∃ t9, (s_X8_refuse σ (-3 : Int32)).1 = t9 := ⟨_, rfl⟩
          rw [hvc_17]
          (try rw [hvc_17] at hR)
          have hI9 : IX τc_16 := hI_15
          obtain ⟨rfl, rfl⟩ := Prod.mk.inj (show (vc_17, τc_16) = (R1, R2) from hR)
          rw [hQ]
          exact W.iret (v := vc_17) hx hb hr (fun t ht hW => ⟨⟨vc_17, (), rfl, rfl, ⟨by rw [ht]; exact hP, va_K.moved hW.alike hK, by rw [← hAe]; exact hD⟩, hI9⟩, hS.F ht⟩) hS.2.2 dX8_drive_79
        · have hR := (if_neg c_13).symm.trans hR
          refine lv_iload_n hx hb dX8_drive_52 rfl (lv_at hl 4 rfl) ?_
          refine lv_iconst (v := (-1 : Int32)) hx hb dX8_drive_53 (by decide) ?_
          refine lv_icmp_eq (tgt := 80) hx hb dX8_drive_54 (by decide) (fun _ => ?_) (fun c_18 => absurd c_7 c_18)
          refine lv_aload_n hx hb dX8_drive_80 rfl (lv_at hl 1 rfl) ?_
          refine lv_iload_n hx hb dX8_drive_81 rfl (lv_at hl 4 rfl) ?_
          refine va_put (D := D) (ci := 2) (v := .int a2) (ty := .int) (C := RX2) (T := TX2) (N := 8) hx hb hts hu2 tyX2 tyX2_ok nmX2 hown hK hP hD hS (pcD ca h ad pa σ (a1.toNatClampNeg)) (wc_aD (isb_Herd c_2)) rfl 3 (by decide) (hts (.fieldLink RX8 163 "GrazeBook$Drove" "piece" "I") (List.mem_cons_of_mem _ mw_451)) (fun _ h9 => h9) rfl (by decide +kernel) rfl rfl (Nat.le_of_ble_eq_true rfl) dX8_drive_82 (fun H locs hP hD hS => ?_)
          rw [wc_sD3 (σ := σ) (isb_Herd c_2)] at hP hD
          refine lv_aload_n hx hb dX8_drive_85 rfl (lv_at hl 2 rfl) ?_
          refine lv_dup hx hb dX8_drive_86 rfl ?_
          refine va_get (D := D) (ci := 8) (v := .int (σ 817 0)) (C := RX8) (T := TX8) (N := 19) hx hb hts hu8 hown hK hP 0 wc_0 rfl 17 (by decide) (hts (.fieldLink RX8 94 "GrazeBook" "latestOrder" "I") (List.mem_cons_of_mem _ mw_227)) (fun _ h9 => h9) rfl dX8_drive_87 ?_
          refine lv_iconst (v := (1 : Int32)) hx hb dX8_drive_90 (by decide) ?_
          refine lv_iadd hx hb dX8_drive_91 ?_
          refine va_put (D := D) (ci := 8) (v := .int ((σ 817 0) + (1 : Int32))) (ty := .int) (C := RX8) (T := TX8) (N := 19) hx hb hts hu8 tyX8 tyX8_ok nmX8 hown hK hP hD hS 0 wc_0 rfl 17 (by decide) (hts (.fieldLink RX8 94 "GrazeBook" "latestOrder" "I") (List.mem_cons_of_mem _ mw_227)) (fun _ h9 => h9) rfl (by decide +kernel) rfl rfl (Nat.le_of_ble_eq_true rfl) dX8_drive_92 (fun H locs hP hD hS => ?_)
          rw [wc_p817] at hP hD
          refine lv_aload_n hx hb dX8_drive_95 rfl (lv_at hl 1 rfl) ?_
          refine lv_aload_n hx hb dX8_drive_96 rfl (lv_at hl 2 rfl) ?_
          refine va_get (D := D) (ci := 8) (v := .int ((σ 817 0) + (1 : Int32))) (C := RX8) (T := TX8) (N := 19) hx hb hts hu8 hown hK hP 0 wc_0 rfl 17 (by decide) (hts (.fieldLink RX8 94 "GrazeBook" "latestOrder" "I") (List.mem_cons_of_mem _ mw_227)) (fun _ h9 => h9) rfl dX8_drive_97 ?_
          refine va_put (D := D) (ci := 2) (v := .int ((σ 817 0) + (1 : Int32))) (ty := .int) (C := RX2) (T := TX2) (N := 8) hx hb hts hu2 tyX2 tyX2_ok nmX2 hown hK hP hD hS (pcD ca h ad pa (put (put σ 203 (a1.toNatClampNeg) a2) 817 0 ((σ 817 0) + (1 : Int32))) (a1.toNatClampNeg)) (wc_aD (isb_Herd c_2)) rfl 4 (by decide) (hts (.fieldLink RX8 175 "GrazeBook$Drove" "order" "I") (List.mem_cons_of_mem _ mw_453)) (fun _ h9 => h9) rfl (by decide +kernel) rfl rfl (Nat.le_of_ble_eq_true rfl) dX8_drive_100 (fun H locs hP hD hS => ?_)
          rw [wc_sD4 (σ := (put (put σ 203 (a1.toNatClampNeg) a2) 817 0 ((σ 817 0) + (1 : Int32)))) (isb_Herd c_2)] at hP hD
          refine lv_iload hx hb dX8_drive_103 (lv_at hl 0 rfl) ?_
          have hI9 : IX (put (put (put σ 203 (a1.toNatClampNeg) a2) 817 0 ((σ 817 0) + (1 : Int32))) 204 (a1.toNatClampNeg) ((σ 817 0) + (1 : Int32))) := hI
          obtain ⟨rfl, rfl⟩ := Prod.mk.inj (show ((σ 203 (a1.toNatClampNeg)), (put (put (put σ 203 (a1.toNatClampNeg) a2) 817 0 ((σ 817 0) + (1 : Int32))) 204 (a1.toNatClampNeg) ((σ 817 0) + (1 : Int32)))) = (R1, R2) from hR)
          rw [hQ]
          exact W.iret (v := (σ 203 (a1.toNatClampNeg))) hx hb hr (fun t ht hW => ⟨⟨(σ 203 (a1.toNatClampNeg)), (), rfl, rfl, ⟨by rw [ht]; exact hP, va_K.moved hW.alike hK, by rw [← hAe]; exact hD⟩, hI9⟩, hS.F ht⟩) hS.2.2 dX8_drive_105
    · have hR := (if_neg c_7).symm.trans hR
      refine lv_aload_n hx hb dX8_drive_13 rfl (lv_at hl 0 rfl) ?_
      refine lv_iload_n hx hb dX8_drive_14 rfl (lv_at hl 2 rfl) ?_
      have hF := pw_free hD hS hA
      refine va_calli (va_runV (As := [.int a2]) (rest := []) ⟨hx, hb, hml, hown, hts⟩ (k_X8_isPiece l D ca h ad pa tb σ a2 H.size hI _ rfl) (cwV 1 hts gX8_drive_X8_isPiece rfl rfl rfl (by decide +kernel) ⟨Nat.le_of_ble_eq_true rfl, Nat.le_of_ble_eq_true rfl⟩) ⟨cw_blind, va_recv hK hP (ci := 8) (q0 := 0) rfl wc_0, cw_give hP hK hD hZ hS hF⟩ rfl rfl hl.1 rfl (lv_room (Nat.le_of_ble_eq_true rfl)) dX8_drive_15 ⟨Nat.le_of_ble_eq_true rfl, Nat.le_of_ble_eq_true rfl⟩) hS (fun q _ h => hF q h) hF (fun r_19 u t H1 locs ht hvm hw hB hz1 hk1 hS => ?_)
      rw [hw]
      obtain ⟨hP, hD⟩ := pw_back hF ht hB
      clear hB hk1 hz1 hF
      generalize H1 = H at hP hS ⊢
      refine lv_if_ne (tgt := 27) hx hb dX8_drive_18 (by decide) (fun c_20 => ?_) (fun c_20 => ?_)
      · have hR := (if_neg c_20).symm.trans hR
        refine lv_aload_n hx hb dX8_drive_27 rfl (lv_at hl 0 rfl) ?_
        refine va_get (D := D) (ci := 8) (v := .ref (ad 805)) (C := RX8) (T := TX8) (N := 19) hx hb hts hu8 hown hK hP 0 wc_0 rfl 5 (by decide) (hts (.fieldLink RX8 40 "GrazeBook" "herds" "[LGrazeBook$Drove;") (List.mem_cons_of_mem _ mw_215)) (fun _ h9 => h9) rfl dX8_drive_28 ?_
        refine lv_iload_n hx hb dX8_drive_31 rfl (lv_at hl 1 rfl) ?_
        refine va_aldq_k (k := (a1.toNatClampNeg)) (b := pa 3 (a1.toNatClampNeg)) hx hb hK hP 9 5 wc_9 rfl rfl (rf_at (isb_Herd c_2)) (isx_Herd c_2 hI) dX8_drive_32 ?_
        refine lv_astore_n (lv' := [(3, .ref (pa 3 (a1.toNatClampNeg))), (0, .ref h), (1, .int a1), (2, .int a2)]) hx hb dX8_drive_33 rfl hl (by decide) rfl (fun ls hl => ?_)
        refine lv_aload_n hx hb dX8_drive_34 rfl (lv_at hl 0 rfl) ?_
        refine va_get (D := D) (ci := 2) (v := .int (σ 203 (a1.toNatClampNeg))) (C := RX2) (T := TX2) (N := 8) hx hb hts hu2 hown hK hP (pcD ca h ad pa σ (a1.toNatClampNeg)) (wc_aD (isb_Herd c_2)) rfl 3 (by decide) (hts (.fieldLink RX8 163 "GrazeBook$Drove" "piece" "I") (List.mem_cons_of_mem _ mw_451)) (fun _ h9 => h9) rfl dX8_drive_35 ?_
        refine lv_istore (lv' := [(4, .int (σ 203 (a1.toNatClampNeg))), (3, .ref (pa 3 (a1.toNatClampNeg))), (0, .ref h), (1, .int a1), (2, .int a2)]) hx hb dX8_drive_38 hl (by decide) rfl (fun ls hl => ?_)
        refine lv_iload hx hb dX8_drive_40 (lv_at hl 0 rfl) ?_
        refine lv_iconst (v := (-1 : Int32)) hx hb dX8_drive_42 (by decide) ?_
        refine lv_icmp_eq (tgt := 73) hx hb dX8_drive_43 (by decide) (fun c_21 => ?_) (fun c_21 => ?_)
        · have hR := (if_pos c_21).symm.trans hR
          refine lv_aload_n hx hb dX8_drive_73 rfl (lv_at hl 2 rfl) ?_
          refine lv_bipush (v := (-3 : Int32)) hx hb dX8_drive_74 (by decide) ?_
          have hF := pw_free hD hS hA
          refine va_calli (va_runV (As := [.int (-3 : Int32)]) (rest := []) ⟨hx, hb, hml, hown, hts⟩ (k_X8_refuse l D ca h ad pa tb σ (-3 : Int32) H.size hI _ _ (Prod.eta _).symm) (cwV 1 hts gX8_drive_X8_refuse rfl rfl rfl (by decide +kernel) ⟨Nat.le_of_ble_eq_true rfl, Nat.le_of_ble_eq_true rfl⟩) ⟨cw_blind, va_recv hK hP (ci := 8) (q0 := 0) rfl wc_0, cw_give hP hK hD hZ hS hF⟩ rfl rfl hl.1 rfl (lv_room (Nat.le_of_ble_eq_true rfl)) dX8_drive_76 ⟨Nat.le_of_ble_eq_true rfl, Nat.le_of_ble_eq_true rfl⟩) hS (fun q _ h => hF q h) hF (fun r_22 u t H1 locs ht hvm hw hB hz1 hk1 hS => ?_)
          rw [hw]
          obtain ⟨hB, hI_23⟩ := hB
          obtain ⟨hP, hD⟩ := pw_back hF ht hB
          clear hB hk1 hz1 hF
          generalize H1 = H at hP hS ⊢
          obtain ⟨τc_24, hτc_24⟩ : ∃ t9, (s_X8_refuse σ (-3 : Int32)).2 = t9 := ⟨_, rfl⟩
          rw [hτc_24] at hP hD hI_23
          (try rw [hτc_24] at hR)
          obtain ⟨vc_25, hvc_25⟩ : ∃ t9, (s_X8_refuse σ (-3 : Int32)).1 = t9 := ⟨_, rfl⟩
          rw [hvc_25]
          (try rw [hvc_25] at hR)
          have hI9 : IX τc_24 := hI_23
          obtain ⟨rfl, rfl⟩ := Prod.mk.inj (show (vc_25, τc_24) = (R1, R2) from hR)
          rw [hQ]
          exact W.iret (v := vc_25) hx hb hr (fun t ht hW => ⟨⟨vc_25, (), rfl, rfl, ⟨by rw [ht]; exact hP, va_K.moved hW.alike hK, by rw [← hAe]; exact hD⟩, hI9⟩, hS.F ht⟩) hS.2.2 dX8_drive_79
        · have hR := (if_neg c_21).symm.trans hR
          refine lv_iload hx hb dX8_drive_46 (lv_at hl 0 rfl) ?_
          refine lv_iload_n hx hb dX8_drive_48 rfl (lv_at hl 4 rfl) ?_
          refine lv_icmp_eq (tgt := 73) hx hb dX8_drive_49 (by decide) (fun c_26 => ?_) (fun c_26 => ?_)
          · have hR := (if_pos c_26).symm.trans hR
            refine lv_aload_n hx hb dX8_drive_73 rfl (lv_at hl 2 rfl) ?_
            refine lv_bipush (v := (-3 : Int32)) hx hb dX8_drive_74 (by decide) ?_
            have hF := pw_free hD hS hA
            refine va_calli (va_runV (As := [.int (-3 : Int32)]) (rest := []) ⟨hx, hb, hml, hown, hts⟩ (k_X8_refuse l D ca h ad pa tb σ (-3 : Int32) H.size hI _ _ (Prod.eta _).symm) (cwV 1 hts gX8_drive_X8_refuse rfl rfl rfl (by decide +kernel) ⟨Nat.le_of_ble_eq_true rfl, Nat.le_of_ble_eq_true rfl⟩) ⟨cw_blind, va_recv hK hP (ci := 8) (q0 := 0) rfl wc_0, cw_give hP hK hD hZ hS hF⟩ rfl rfl hl.1 rfl (lv_room (Nat.le_of_ble_eq_true rfl)) dX8_drive_76 ⟨Nat.le_of_ble_eq_true rfl, Nat.le_of_ble_eq_true rfl⟩) hS (fun q _ h => hF q h) hF (fun r_27 u t H1 locs ht hvm hw hB hz1 hk1 hS => ?_)
            rw [hw]
            obtain ⟨hB, hI_28⟩ := hB
            obtain ⟨hP, hD⟩ := pw_back hF ht hB
            clear hB hk1 hz1 hF
            generalize H1 = H at hP hS ⊢
            obtain ⟨τc_29, hτc_29⟩ : ∃ t9, (s_X8_refuse σ (-3 : Int32)).2 = t9 := ⟨_, rfl⟩
            rw [hτc_29] at hP hD hI_28
            (try rw [hτc_29] at hR)
            obtain ⟨vc_30, hvc_30⟩ : ∃ t9, (s_X8_refuse σ (-3 : Int32)).1 = t9 := ⟨_, rfl⟩
            rw [hvc_30]
            (try rw [hvc_30] at hR)
            have hI9 : IX τc_29 := hI_28
            obtain ⟨rfl, rfl⟩ := Prod.mk.inj (show (vc_30, τc_29) = (R1, R2) from hR)
            rw [hQ]
            exact W.iret (v := vc_30) hx hb hr (fun t ht hW => ⟨⟨vc_30, (), rfl, rfl, ⟨by rw [ht]; exact hP, va_K.moved hW.alike hK, by rw [← hAe]; exact hD⟩, hI9⟩, hS.F ht⟩) hS.2.2 dX8_drive_79
          · have hR := (if_neg c_26).symm.trans hR
            refine lv_iload_n hx hb dX8_drive_52 rfl (lv_at hl 4 rfl) ?_
            refine lv_iconst (v := (-1 : Int32)) hx hb dX8_drive_53 (by decide) ?_
            refine lv_icmp_eq (tgt := 80) hx hb dX8_drive_54 (by decide) (fun c_31 => absurd c_31 c_7) (fun _ => ?_)
            refine lv_aload_n hx hb dX8_drive_57 rfl (lv_at hl 2 rfl) ?_
            refine va_get (D := D) (ci := 8) (v := .ref (ad 800)) (C := RX8) (T := TX8) (N := 19) hx hb hts hu8 hown hK hP 0 wc_0 rfl 0 (by decide) (hts (.fieldLink RX8 11 "GrazeBook" "pieces" "[LGrazeBook$Ground;") (List.mem_cons_of_mem _ mw_210)) (fun _ h9 => h9) rfl dX8_drive_58 ?_
            refine lv_iload_n hx hb dX8_drive_61 rfl (lv_at hl 4 rfl) ?_
            refine va_aldq_k (k := (a2.toNatClampNeg)) (b := pa 0 (a2.toNatClampNeg)) hx hb hK hP 6 2 wc_6 rfl rfl (rf_at (isb_Piece c_20)) (isx_Piece c_20 hI) dX8_drive_62 ?_
            refine lv_aload_n hx hb dX8_drive_63 rfl (lv_at hl 2 rfl) ?_
            refine va_get (D := D) (ci := 8) (v := .int (σ 816 0)) (C := RX8) (T := TX8) (N := 19) hx hb hts hu8 hown hK hP 0 wc_0 rfl 16 (by decide) (hts (.fieldLink RX8 91 "GrazeBook" "day" "I") (List.mem_cons_of_mem _ mw_226)) (fun _ h9 => h9) rfl dX8_drive_64 ?_
            have hF := pw_free hD hS hA
            refine va_calli (va_runV (As := [.int (σ 816 0)]) (rest := []) ⟨hx, hb, hml, hown, hts⟩ (k_X4_restsOn l D ca h ad pa tb σ (a2.toNatClampNeg) (σ 816 0) H.size hI (isb_Piece c_20) _ rfl) (cwV 1 hts gX8_drive_X4_restsOn rfl rfl rfl (by decide +kernel) ⟨Nat.le_of_ble_eq_true rfl, Nat.le_of_ble_eq_true rfl⟩) ⟨cw_blind, va_recv hK hP (ci := 4) (q0 := (pcG ca h ad pa σ (a2.toNatClampNeg))) rfl (wc_aG (isb_Piece c_20)), cw_give hP hK hD hZ hS hF⟩ rfl rfl hl.1 rfl (lv_room (Nat.le_of_ble_eq_true rfl)) dX8_drive_67 ⟨Nat.le_of_ble_eq_true rfl, Nat.le_of_ble_eq_true rfl⟩) hS (fun q _ h => hF q h) hF (fun r_32 u t H1 locs ht hvm hw hB hz1 hk1 hS => ?_)
            rw [hw]
            obtain ⟨hP, hD⟩ := pw_back hF ht hB
            clear hB hk1 hz1 hF
            generalize H1 = H at hP hS ⊢
            refine lv_if_eq (tgt := 80) hx hb dX8_drive_70 (by decide) (fun c_33 => ?_) (fun c_33 => ?_)
            · have hR := (if_pos c_33).symm.trans hR
              refine lv_aload_n hx hb dX8_drive_80 rfl (lv_at hl 1 rfl) ?_
              refine lv_iload_n hx hb dX8_drive_81 rfl (lv_at hl 4 rfl) ?_
              refine va_put (D := D) (ci := 2) (v := .int a2) (ty := .int) (C := RX2) (T := TX2) (N := 8) hx hb hts hu2 tyX2 tyX2_ok nmX2 hown hK hP hD hS (pcD ca h ad pa σ (a1.toNatClampNeg)) (wc_aD (isb_Herd c_2)) rfl 3 (by decide) (hts (.fieldLink RX8 163 "GrazeBook$Drove" "piece" "I") (List.mem_cons_of_mem _ mw_451)) (fun _ h9 => h9) rfl (by decide +kernel) rfl rfl (Nat.le_of_ble_eq_true rfl) dX8_drive_82 (fun H locs hP hD hS => ?_)
              rw [wc_sD3 (σ := σ) (isb_Herd c_2)] at hP hD
              refine lv_aload_n hx hb dX8_drive_85 rfl (lv_at hl 2 rfl) ?_
              refine lv_dup hx hb dX8_drive_86 rfl ?_
              refine va_get (D := D) (ci := 8) (v := .int (σ 817 0)) (C := RX8) (T := TX8) (N := 19) hx hb hts hu8 hown hK hP 0 wc_0 rfl 17 (by decide) (hts (.fieldLink RX8 94 "GrazeBook" "latestOrder" "I") (List.mem_cons_of_mem _ mw_227)) (fun _ h9 => h9) rfl dX8_drive_87 ?_
              refine lv_iconst (v := (1 : Int32)) hx hb dX8_drive_90 (by decide) ?_
              refine lv_iadd hx hb dX8_drive_91 ?_
              refine va_put (D := D) (ci := 8) (v := .int ((σ 817 0) + (1 : Int32))) (ty := .int) (C := RX8) (T := TX8) (N := 19) hx hb hts hu8 tyX8 tyX8_ok nmX8 hown hK hP hD hS 0 wc_0 rfl 17 (by decide) (hts (.fieldLink RX8 94 "GrazeBook" "latestOrder" "I") (List.mem_cons_of_mem _ mw_227)) (fun _ h9 => h9) rfl (by decide +kernel) rfl rfl (Nat.le_of_ble_eq_true rfl) dX8_drive_92 (fun H locs hP hD hS => ?_)
              rw [wc_p817] at hP hD
              refine lv_aload_n hx hb dX8_drive_95 rfl (lv_at hl 1 rfl) ?_
              refine lv_aload_n hx hb dX8_drive_96 rfl (lv_at hl 2 rfl) ?_
              refine va_get (D := D) (ci := 8) (v := .int ((σ 817 0) + (1 : Int32))) (C := RX8) (T := TX8) (N := 19) hx hb hts hu8 hown hK hP 0 wc_0 rfl 17 (by decide) (hts (.fieldLink RX8 94 "GrazeBook" "latestOrder" "I") (List.mem_cons_of_mem _ mw_227)) (fun _ h9 => h9) rfl dX8_drive_97 ?_
              refine va_put (D := D) (ci := 2) (v := .int ((σ 817 0) + (1 : Int32))) (ty := .int) (C := RX2) (T := TX2) (N := 8) hx hb hts hu2 tyX2 tyX2_ok nmX2 hown hK hP hD hS (pcD ca h ad pa (put (put σ 203 (a1.toNatClampNeg) a2) 817 0 ((σ 817 0) + (1 : Int32))) (a1.toNatClampNeg)) (wc_aD (isb_Herd c_2)) rfl 4 (by decide) (hts (.fieldLink RX8 175 "GrazeBook$Drove" "order" "I") (List.mem_cons_of_mem _ mw_453)) (fun _ h9 => h9) rfl (by decide +kernel) rfl rfl (Nat.le_of_ble_eq_true rfl) dX8_drive_100 (fun H locs hP hD hS => ?_)
              rw [wc_sD4 (σ := (put (put σ 203 (a1.toNatClampNeg) a2) 817 0 ((σ 817 0) + (1 : Int32)))) (isb_Herd c_2)] at hP hD
              refine lv_iload hx hb dX8_drive_103 (lv_at hl 0 rfl) ?_
              have hI9 : IX (put (put (put σ 203 (a1.toNatClampNeg) a2) 817 0 ((σ 817 0) + (1 : Int32))) 204 (a1.toNatClampNeg) ((σ 817 0) + (1 : Int32))) := hI
              obtain ⟨rfl, rfl⟩ := Prod.mk.inj (show ((σ 203 (a1.toNatClampNeg)), (put (put (put σ 203 (a1.toNatClampNeg) a2) 817 0 ((σ 817 0) + (1 : Int32))) 204 (a1.toNatClampNeg) ((σ 817 0) + (1 : Int32)))) = (R1, R2) from hR)
              rw [hQ]
              exact W.iret (v := (σ 203 (a1.toNatClampNeg))) hx hb hr (fun t ht hW => ⟨⟨(σ 203 (a1.toNatClampNeg)), (), rfl, rfl, ⟨by rw [ht]; exact hP, va_K.moved hW.alike hK, by rw [← hAe]; exact hD⟩, hI9⟩, hS.F ht⟩) hS.2.2 dX8_drive_105
            · have hR := (if_neg c_33).symm.trans hR
              refine lv_aload_n hx hb dX8_drive_73 rfl (lv_at hl 2 rfl) ?_
              refine lv_bipush (v := (-3 : Int32)) hx hb dX8_drive_74 (by decide) ?_
              have hF := pw_free hD hS hA
              refine va_calli (va_runV (As := [.int (-3 : Int32)]) (rest := []) ⟨hx, hb, hml, hown, hts⟩ (k_X8_refuse l D ca h ad pa tb σ (-3 : Int32) H.size hI _ _ (Prod.eta _).symm) (cwV 1 hts gX8_drive_X8_refuse rfl rfl rfl (by decide +kernel) ⟨Nat.le_of_ble_eq_true rfl, Nat.le_of_ble_eq_true rfl⟩) ⟨cw_blind, va_recv hK hP (ci := 8) (q0 := 0) rfl wc_0, cw_give hP hK hD hZ hS hF⟩ rfl rfl hl.1 rfl (lv_room (Nat.le_of_ble_eq_true rfl)) dX8_drive_76 ⟨Nat.le_of_ble_eq_true rfl, Nat.le_of_ble_eq_true rfl⟩) hS (fun q _ h => hF q h) hF (fun r_34 u t H1 locs ht hvm hw hB hz1 hk1 hS => ?_)
              rw [hw]
              obtain ⟨hB, hI_35⟩ := hB
              obtain ⟨hP, hD⟩ := pw_back hF ht hB
              clear hB hk1 hz1 hF
              generalize H1 = H at hP hS ⊢
              obtain ⟨τc_36, hτc_36⟩ : ∃ t9, (s_X8_refuse σ (-3 : Int32)).2 = t9 := ⟨_, rfl⟩
              rw [hτc_36] at hP hD hI_35
              (try rw [hτc_36] at hR)
              obtain ⟨vc_37, hvc_37⟩ : ∃ t9, (s_X8_refuse σ (-3 : Int32)).1 = t9 := ⟨_, rfl⟩
              rw [hvc_37]
              (try rw [hvc_37] at hR)
              have hI9 : IX τc_36 := hI_35
              obtain ⟨rfl, rfl⟩ := Prod.mk.inj (show (vc_37, τc_36) = (R1, R2) from hR)
              rw [hQ]
              exact W.iret (v := vc_37) hx hb hr (fun t ht hW => ⟨⟨vc_37, (), rfl, rfl, ⟨by rw [ht]; exact hP, va_K.moved hW.alike hK, by rw [← hAe]; exact hD⟩, hI9⟩, hS.F ht⟩) hS.2.2 dX8_drive_79
      · have hR := (if_pos c_20).symm.trans hR
        refine lv_aload_n hx hb dX8_drive_21 rfl (lv_at hl 0 rfl) ?_
        refine lv_iconst (v := (-1 : Int32)) hx hb dX8_drive_22 (by decide) ?_
        have hF := pw_free hD hS hA
        refine va_calli (va_runV (As := [.int (-1 : Int32)]) (rest := []) ⟨hx, hb, hml, hown, hts⟩ (k_X8_refuse l D ca h ad pa tb σ (-1 : Int32) H.size hI _ _ (Prod.eta _).symm) (cwV 1 hts gX8_drive_X8_refuse rfl rfl rfl (by decide +kernel) ⟨Nat.le_of_ble_eq_true rfl, Nat.le_of_ble_eq_true rfl⟩) ⟨cw_blind, va_recv hK hP (ci := 8) (q0 := 0) rfl wc_0, cw_give hP hK hD hZ hS hF⟩ rfl rfl hl.1 rfl (lv_room (Nat.le_of_ble_eq_true rfl)) dX8_drive_23 ⟨Nat.le_of_ble_eq_true rfl, Nat.le_of_ble_eq_true rfl⟩) hS (fun q _ h => hF q h) hF (fun r_38 u t H1 locs ht hvm hw hB hz1 hk1 hS => ?_)
        rw [hw]
        obtain ⟨hB, hI_39⟩ := hB
        obtain ⟨hP, hD⟩ := pw_back hF ht hB
        clear hB hk1 hz1 hF
        generalize H1 = H at hP hS ⊢
        obtain ⟨τc_40, hτc_40⟩ : ∃ t9, (s_X8_refuse σ (-1 : Int32)).2 = t9 := ⟨_, rfl⟩
        rw [hτc_40] at hP hD hI_39
        (try rw [hτc_40] at hR)
        obtain ⟨vc_41, hvc_41⟩ : ∃ t9, (s_X8_refuse σ (-1 : Int32)).1 = t9 := ⟨_, rfl⟩
        rw [hvc_41]
        (try rw [hvc_41] at hR)
        have hI9 : IX τc_40 := hI_39
        obtain ⟨rfl, rfl⟩ := Prod.mk.inj (show (vc_41, τc_40) = (R1, R2) from hR)
        rw [hQ]
        exact W.iret (v := vc_41) hx hb hr (fun t ht hW => ⟨⟨vc_41, (), rfl, rfl, ⟨by rw [ht]; exact hP, va_K.moved hW.alike hK, by rw [← hAe]; exact hD⟩, hI9⟩, hS.F ht⟩) hS.2.2 dX8_drive_26

def s_X8_covered (σ : St) (a1 : Int32) : Int32 × St := (if (s_X8_isOwner σ a1) = (0 : Int32) then (((s_X8_refuse σ (-1 : Int32)).1), ((s_X8_refuse σ (-1 : Int32)).2)) else (if ((s_X8_lackOf σ a1).1) = (0 : Int32) then ((1 : Int32), ((s_X8_lackOf σ a1).2)) else ((0 : Int32), ((s_X8_lackOf σ a1).2))))
theorem fr_s_X8_covered (σ : St) (a1 : Int32) {f : Nat} (h100 : f ≠ 100) (h101 : f ≠ 101) (h102 : f ≠ 102) (h103 : f ≠ 103) (h104 : f ≠ 104) (h810 : f ≠ 810) : (s_X8_covered σ a1 ).2 f = σ f := by
  unfold s_X8_covered
  all_goals ((try dsimp only) <;> ((repeat' split) <;> (try simp only [put_fr, ne_eq, not_false_eq_true, h100, h101, h102, h103, h104, h810, fr_s_X8_refuse, fr_s_X8_lackOf])))
set_option maxHeartbeats 1000000 in
set_option maxRecDepth 100000 in
theorem k_X8_covered (l : Launch) (D : va_G) (ca : Nat → ClassId) (h : Nat) (ad : Nat → Nat) (pa : Nat → Nat → Nat) (tb : Nat) (σ : St) (a1 : Int32) (sz : Nat) (hI : IX σ)  (R1 : Int32) (R2 : St) (hR : s_X8_covered σ a1 = (R1, R2)) : Met l yX8_covered wsX8_covered ({ frames := 4, cells := 0, slots := 0, locals := 87 }) (va_Pc [.ref h, .int a1] (cw_pre D ca (WC ca h ad pa σ) sz tb)) (va_Qi (fun (r : Int32) (_ : Unit) => r = R1) (fun (_ : Unit) (t : State) => pw_post D ca (WC ca h ad pa σ) sz (WC ca h ad pa R2) t ∧ IX R2) (va_A (WC ca h ad pa σ) sz)) 0 0 (va_A (WC ca h ad pa σ) sz) := by
  refine Met.ofW (cc := cX8_covered) (maxL := 2) (ret := (some .int)) (by decide) rfl ?_
  intro p e s m args below meth c s₁ B hml hv
  obtain ⟨rfl, ⟨hsz, hP, hK, hD0⟩, hZ⟩ := hv
  have hx := B.exec
  have hb := B.bytes
  have hr := B.returns
  have hts := atoms_spec (ws := wsX8_covered) B.pre
  have hown : s.vm.findClass RX8 = some m.cls := findClass_of_methodNamed B.named
  have hlocks := B.notSynchronized
  subst hsz
  have hD := hD0.self (sz := s.heap.size)
  obtain ⟨A, hAe⟩ : ∃ A, A = va_A (WC ca h ad pa σ) s.heap.size := ⟨_, rfl⟩
  rw [← hAe] at hD hZ ⊢
  have hA : ∀ q : Nat, s.heap.size ≤ q → A q := fun q h => by rw [hAe]; exact Or.inr h
  have hS : va_S A s.heap s.heap [] := va_S.rf
  have hl := lv_entry ([.ref h, .int a1]) (n := 2) (Nat.le_of_ble_eq_true rfl)
  rw [lg_entry_eq]
  generalize (lg_sl ([.ref h, .int a1]) ++ List.replicate (2 - (lg_sl ([.ref h, .int a1])).length) Slot.unset).toArray = ls at hl ⊢
  have hl : lv_has ls 2 [(0, .ref h), (1, .int a1)] := hl
  obtain ⟨H, hH⟩ : ∃ H, H = s.heap := ⟨_, rfl⟩
  have hP : va_P D vwCl (WC ca h ad pa σ) H := by rw [hH]; exact hP
  have hS : va_S A s.heap H [] := by rw [hH]; exact hS
  obtain ⟨QQ, hQ⟩ : ∃ Q9, Q9 = MQ below (va_Qi (fun (r : Int32) (_ : Unit) => r = R1) (fun (_ : Unit) (t : State) => pw_post D ca (WC ca h ad pa σ) s.heap.size (WC ca h ad pa R2) t ∧ IX R2) A) ([.ref h, .int a1] : List Value).toArray s 0 0 A := ⟨_, rfl⟩
  rw [← hQ]
  show W _ _ _ _ _ _ _ _ _ _ s.heap _ _ _ _ _
  rw [← hH]
  have hR : (if (s_X8_isOwner σ a1) = (0 : Int32) then (((s_X8_refuse σ (-1 : Int32)).1), ((s_X8_refuse σ (-1 : Int32)).2)) else (if ((s_X8_lackOf σ a1).1) = (0 : Int32) then ((1 : Int32), ((s_X8_lackOf σ a1).2)) else ((0 : Int32), ((s_X8_lackOf σ a1).2)))) = (R1, R2) := hR
  refine lv_aload_n hx hb dX8_covered_0 rfl (lv_at hl 0 rfl) ?_
  refine lv_iload_n hx hb dX8_covered_1 rfl (lv_at hl 1 rfl) ?_
  have hF := pw_free hD hS hA
  refine va_calli (va_runV (As := [.int a1]) (rest := []) ⟨hx, hb, hml, hown, hts⟩ (k_X8_isOwner l D ca h ad pa tb σ a1 H.size hI _ rfl) (cwV 1 hts gX8_covered_X8_isOwner rfl rfl rfl (by decide +kernel) ⟨Nat.le_of_ble_eq_true rfl, Nat.le_of_ble_eq_true rfl⟩) ⟨cw_blind, va_recv hK hP (ci := 8) (q0 := 0) rfl wc_0, cw_give hP hK hD hZ hS hF⟩ rfl rfl hl.1 rfl (lv_room (Nat.le_of_ble_eq_true rfl)) dX8_covered_2 ⟨Nat.le_of_ble_eq_true rfl, Nat.le_of_ble_eq_true rfl⟩) hS (fun q _ h => hF q h) hF (fun r_1 u t H1 locs ht hvm hw hB hz1 hk1 hS => ?_)
  rw [hw]
  obtain ⟨hP, hD⟩ := pw_back hF ht hB
  clear hB hk1 hz1 hF
  generalize H1 = H at hP hS ⊢
  refine lv_if_ne (tgt := 14) hx hb dX8_covered_5 (by decide) (fun c_2 => ?_) (fun c_2 => ?_)
  · have hR := (if_neg c_2).symm.trans hR
    refine lv_aload_n hx hb dX8_covered_14 rfl (lv_at hl 0 rfl) ?_
    refine lv_iload_n hx hb dX8_covered_15 rfl (lv_at hl 1 rfl) ?_
    have hF := pw_free hD hS hA
    refine va_calli (va_runV (As := [.int a1]) (rest := []) ⟨hx, hb, hml, hown, hts⟩ (k_X8_lackOf l D ca h ad pa tb σ a1 H.size hI _ _ (Prod.eta _).symm) (cwV 1 hts gX8_covered_X8_lackOf rfl rfl rfl (by decide +kernel) ⟨Nat.le_of_ble_eq_true rfl, Nat.le_of_ble_eq_true rfl⟩) ⟨cw_blind, va_recv hK hP (ci := 8) (q0 := 0) rfl wc_0, cw_give hP hK hD hZ hS hF⟩ rfl rfl hl.1 rfl (lv_room (Nat.le_of_ble_eq_true rfl)) dX8_covered_16 ⟨Nat.le_of_ble_eq_true rfl, Nat.le_of_ble_eq_true rfl⟩) hS (fun q _ h => hF q h) hF (fun r_3 u t H1 locs ht hvm hw hB hz1 hk1 hS => ?_)
    rw [hw]
    obtain ⟨hB, hI_4⟩ := hB
    obtain ⟨hP, hD⟩ := pw_back hF ht hB
    clear hB hk1 hz1 hF
    generalize H1 = H at hP hS ⊢
    obtain ⟨τc_5, hτc_5⟩ : ∃ t9, (s_X8_lackOf σ a1).2 = t9 := ⟨_, rfl⟩
    rw [hτc_5] at hP hD hI_4
    (try rw [hτc_5] at hR)
    obtain ⟨vc_6, hvc_6⟩ : ∃ t9, (s_X8_lackOf σ a1).1 = t9 := ⟨_, rfl⟩
    rw [hvc_6]
    (try rw [hvc_6] at hR)
    refine lv_if_ne (tgt := 26) hx hb dX8_covered_19 (by decide) (fun c_7 => ?_) (fun c_7 => ?_)
    · have hR := (if_neg c_7).symm.trans hR
      refine lv_iconst (v := (0 : Int32)) hx hb dX8_covered_26 (by decide) ?_
      have hI9 : IX τc_5 := hI_4
      obtain ⟨rfl, rfl⟩ := Prod.mk.inj (show ((0 : Int32), τc_5) = (R1, R2) from hR)
      rw [hQ]
      exact W.iret (v := (0 : Int32)) hx hb hr (fun t ht hW => ⟨⟨(0 : Int32), (), rfl, rfl, ⟨by rw [ht]; exact hP, va_K.moved hW.alike hK, by rw [← hAe]; exact hD⟩, hI9⟩, hS.F ht⟩) hS.2.2 dX8_covered_27
    · have hR := (if_pos c_7).symm.trans hR
      refine lv_iconst (v := (1 : Int32)) hx hb dX8_covered_22 (by decide) ?_
      refine lv_goto (tgt := 27) hx hb dX8_covered_23 (by decide) ?_
      have hI9 : IX τc_5 := hI_4
      obtain ⟨rfl, rfl⟩ := Prod.mk.inj (show ((1 : Int32), τc_5) = (R1, R2) from hR)
      rw [hQ]
      exact W.iret (v := (1 : Int32)) hx hb hr (fun t ht hW => ⟨⟨(1 : Int32), (), rfl, rfl, ⟨by rw [ht]; exact hP, va_K.moved hW.alike hK, by rw [← hAe]; exact hD⟩, hI9⟩, hS.F ht⟩) hS.2.2 dX8_covered_27
  · have hR := (if_pos c_2).symm.trans hR
    refine lv_aload_n hx hb dX8_covered_8 rfl (lv_at hl 0 rfl) ?_
    refine lv_iconst (v := (-1 : Int32)) hx hb dX8_covered_9 (by decide) ?_
    have hF := pw_free hD hS hA
    refine va_calli (va_runV (As := [.int (-1 : Int32)]) (rest := []) ⟨hx, hb, hml, hown, hts⟩ (k_X8_refuse l D ca h ad pa tb σ (-1 : Int32) H.size hI _ _ (Prod.eta _).symm) (cwV 1 hts gX8_covered_X8_refuse rfl rfl rfl (by decide +kernel) ⟨Nat.le_of_ble_eq_true rfl, Nat.le_of_ble_eq_true rfl⟩) ⟨cw_blind, va_recv hK hP (ci := 8) (q0 := 0) rfl wc_0, cw_give hP hK hD hZ hS hF⟩ rfl rfl hl.1 rfl (lv_room (Nat.le_of_ble_eq_true rfl)) dX8_covered_10 ⟨Nat.le_of_ble_eq_true rfl, Nat.le_of_ble_eq_true rfl⟩) hS (fun q _ h => hF q h) hF (fun r_8 u t H1 locs ht hvm hw hB hz1 hk1 hS => ?_)
    rw [hw]
    obtain ⟨hB, hI_9⟩ := hB
    obtain ⟨hP, hD⟩ := pw_back hF ht hB
    clear hB hk1 hz1 hF
    generalize H1 = H at hP hS ⊢
    obtain ⟨τc_10, hτc_10⟩ : ∃ t9, (s_X8_refuse σ (-1 : Int32)).2 = t9 := ⟨_, rfl⟩
    rw [hτc_10] at hP hD hI_9
    (try rw [hτc_10] at hR)
    obtain ⟨vc_11, hvc_11⟩ : ∃ t9, (s_X8_refuse σ (-1 : Int32)).1 = t9 := ⟨_, rfl⟩
    rw [hvc_11]
    (try rw [hvc_11] at hR)
    have hI9 : IX τc_10 := hI_9
    obtain ⟨rfl, rfl⟩ := Prod.mk.inj (show (vc_11, τc_10) = (R1, R2) from hR)
    rw [hQ]
    exact W.iret (v := vc_11) hx hb hr (fun t ht hW => ⟨⟨vc_11, (), rfl, rfl, ⟨by rw [ht]; exact hP, va_K.moved hW.alike hK, by rw [← hAe]; exact hD⟩, hI9⟩, hS.F ht⟩) hS.2.2 dX8_covered_13

def s_X8_lacks (σ : St) (a1 : Int32) : Int32 × St := (if (s_X8_isOwner σ a1) = (0 : Int32) then (((s_X8_refuse σ (-1 : Int32)).1), ((s_X8_refuse σ (-1 : Int32)).2)) else (((s_X8_lackOf σ a1).1), ((s_X8_lackOf σ a1).2)))
theorem fr_s_X8_lacks (σ : St) (a1 : Int32) {f : Nat} (h100 : f ≠ 100) (h101 : f ≠ 101) (h102 : f ≠ 102) (h103 : f ≠ 103) (h104 : f ≠ 104) (h810 : f ≠ 810) : (s_X8_lacks σ a1 ).2 f = σ f := by
  unfold s_X8_lacks
  all_goals ((try dsimp only) <;> ((repeat' split) <;> (try simp only [put_fr, ne_eq, not_false_eq_true, h100, h101, h102, h103, h104, h810, fr_s_X8_refuse, fr_s_X8_lackOf])))
set_option maxHeartbeats 1000000 in
set_option maxRecDepth 100000 in
theorem k_X8_lacks (l : Launch) (D : va_G) (ca : Nat → ClassId) (h : Nat) (ad : Nat → Nat) (pa : Nat → Nat → Nat) (tb : Nat) (σ : St) (a1 : Int32) (sz : Nat) (hI : IX σ)  (R1 : Int32) (R2 : St) (hR : s_X8_lacks σ a1 = (R1, R2)) : Met l yX8_lacks wsX8_lacks ({ frames := 4, cells := 0, slots := 0, locals := 87 }) (va_Pc [.ref h, .int a1] (cw_pre D ca (WC ca h ad pa σ) sz tb)) (va_Qi (fun (r : Int32) (_ : Unit) => r = R1) (fun (_ : Unit) (t : State) => pw_post D ca (WC ca h ad pa σ) sz (WC ca h ad pa R2) t ∧ IX R2) (va_A (WC ca h ad pa σ) sz)) 0 0 (va_A (WC ca h ad pa σ) sz) := by
  refine Met.ofW (cc := cX8_lacks) (maxL := 2) (ret := (some .int)) (by decide) rfl ?_
  intro p e s m args below meth c s₁ B hml hv
  obtain ⟨rfl, ⟨hsz, hP, hK, hD0⟩, hZ⟩ := hv
  have hx := B.exec
  have hb := B.bytes
  have hr := B.returns
  have hts := atoms_spec (ws := wsX8_lacks) B.pre
  have hown : s.vm.findClass RX8 = some m.cls := findClass_of_methodNamed B.named
  have hlocks := B.notSynchronized
  subst hsz
  have hD := hD0.self (sz := s.heap.size)
  obtain ⟨A, hAe⟩ : ∃ A, A = va_A (WC ca h ad pa σ) s.heap.size := ⟨_, rfl⟩
  rw [← hAe] at hD hZ ⊢
  have hA : ∀ q : Nat, s.heap.size ≤ q → A q := fun q h => by rw [hAe]; exact Or.inr h
  have hS : va_S A s.heap s.heap [] := va_S.rf
  have hl := lv_entry ([.ref h, .int a1]) (n := 2) (Nat.le_of_ble_eq_true rfl)
  rw [lg_entry_eq]
  generalize (lg_sl ([.ref h, .int a1]) ++ List.replicate (2 - (lg_sl ([.ref h, .int a1])).length) Slot.unset).toArray = ls at hl ⊢
  have hl : lv_has ls 2 [(0, .ref h), (1, .int a1)] := hl
  obtain ⟨H, hH⟩ : ∃ H, H = s.heap := ⟨_, rfl⟩
  have hP : va_P D vwCl (WC ca h ad pa σ) H := by rw [hH]; exact hP
  have hS : va_S A s.heap H [] := by rw [hH]; exact hS
  obtain ⟨QQ, hQ⟩ : ∃ Q9, Q9 = MQ below (va_Qi (fun (r : Int32) (_ : Unit) => r = R1) (fun (_ : Unit) (t : State) => pw_post D ca (WC ca h ad pa σ) s.heap.size (WC ca h ad pa R2) t ∧ IX R2) A) ([.ref h, .int a1] : List Value).toArray s 0 0 A := ⟨_, rfl⟩
  rw [← hQ]
  show W _ _ _ _ _ _ _ _ _ _ s.heap _ _ _ _ _
  rw [← hH]
  have hR : (if (s_X8_isOwner σ a1) = (0 : Int32) then (((s_X8_refuse σ (-1 : Int32)).1), ((s_X8_refuse σ (-1 : Int32)).2)) else (((s_X8_lackOf σ a1).1), ((s_X8_lackOf σ a1).2))) = (R1, R2) := hR
  refine lv_aload_n hx hb dX8_lacks_0 rfl (lv_at hl 0 rfl) ?_
  refine lv_iload_n hx hb dX8_lacks_1 rfl (lv_at hl 1 rfl) ?_
  have hF := pw_free hD hS hA
  refine va_calli (va_runV (As := [.int a1]) (rest := []) ⟨hx, hb, hml, hown, hts⟩ (k_X8_isOwner l D ca h ad pa tb σ a1 H.size hI _ rfl) (cwV 1 hts gX8_lacks_X8_isOwner rfl rfl rfl (by decide +kernel) ⟨Nat.le_of_ble_eq_true rfl, Nat.le_of_ble_eq_true rfl⟩) ⟨cw_blind, va_recv hK hP (ci := 8) (q0 := 0) rfl wc_0, cw_give hP hK hD hZ hS hF⟩ rfl rfl hl.1 rfl (lv_room (Nat.le_of_ble_eq_true rfl)) dX8_lacks_2 ⟨Nat.le_of_ble_eq_true rfl, Nat.le_of_ble_eq_true rfl⟩) hS (fun q _ h => hF q h) hF (fun r_1 u t H1 locs ht hvm hw hB hz1 hk1 hS => ?_)
  rw [hw]
  obtain ⟨hP, hD⟩ := pw_back hF ht hB
  clear hB hk1 hz1 hF
  generalize H1 = H at hP hS ⊢
  refine lv_if_ne (tgt := 14) hx hb dX8_lacks_5 (by decide) (fun c_2 => ?_) (fun c_2 => ?_)
  · have hR := (if_neg c_2).symm.trans hR
    refine lv_aload_n hx hb dX8_lacks_14 rfl (lv_at hl 0 rfl) ?_
    refine lv_iload_n hx hb dX8_lacks_15 rfl (lv_at hl 1 rfl) ?_
    have hF := pw_free hD hS hA
    refine va_calli (va_runV (As := [.int a1]) (rest := []) ⟨hx, hb, hml, hown, hts⟩ (k_X8_lackOf l D ca h ad pa tb σ a1 H.size hI _ _ (Prod.eta _).symm) (cwV 1 hts gX8_lacks_X8_lackOf rfl rfl rfl (by decide +kernel) ⟨Nat.le_of_ble_eq_true rfl, Nat.le_of_ble_eq_true rfl⟩) ⟨cw_blind, va_recv hK hP (ci := 8) (q0 := 0) rfl wc_0, cw_give hP hK hD hZ hS hF⟩ rfl rfl hl.1 rfl (lv_room (Nat.le_of_ble_eq_true rfl)) dX8_lacks_16 ⟨Nat.le_of_ble_eq_true rfl, Nat.le_of_ble_eq_true rfl⟩) hS (fun q _ h => hF q h) hF (fun r_3 u t H1 locs ht hvm hw hB hz1 hk1 hS => ?_)
    rw [hw]
    obtain ⟨hB, hI_4⟩ := hB
    obtain ⟨hP, hD⟩ := pw_back hF ht hB
    clear hB hk1 hz1 hF
    generalize H1 = H at hP hS ⊢
    obtain ⟨τc_5, hτc_5⟩ : ∃ t9, (s_X8_lackOf σ a1).2 = t9 := ⟨_, rfl⟩
    rw [hτc_5] at hP hD hI_4
    (try rw [hτc_5] at hR)
    obtain ⟨vc_6, hvc_6⟩ : ∃ t9, (s_X8_lackOf σ a1).1 = t9 := ⟨_, rfl⟩
    rw [hvc_6]
    (try rw [hvc_6] at hR)
    have hI9 : IX τc_5 := hI_4
    obtain ⟨rfl, rfl⟩ := Prod.mk.inj (show (vc_6, τc_5) = (R1, R2) from hR)
    rw [hQ]
    exact W.iret (v := vc_6) hx hb hr (fun t ht hW => ⟨⟨vc_6, (), rfl, rfl, ⟨by rw [ht]; exact hP, va_K.moved hW.alike hK, by rw [← hAe]; exact hD⟩, hI9⟩, hS.F ht⟩) hS.2.2 dX8_lacks_19
  · have hR := (if_pos c_2).symm.trans hR
    refine lv_aload_n hx hb dX8_lacks_8 rfl (lv_at hl 0 rfl) ?_
    refine lv_iconst (v := (-1 : Int32)) hx hb dX8_lacks_9 (by decide) ?_
    have hF := pw_free hD hS hA
    refine va_calli (va_runV (As := [.int (-1 : Int32)]) (rest := []) ⟨hx, hb, hml, hown, hts⟩ (k_X8_refuse l D ca h ad pa tb σ (-1 : Int32) H.size hI _ _ (Prod.eta _).symm) (cwV 1 hts gX8_lacks_X8_refuse rfl rfl rfl (by decide +kernel) ⟨Nat.le_of_ble_eq_true rfl, Nat.le_of_ble_eq_true rfl⟩) ⟨cw_blind, va_recv hK hP (ci := 8) (q0 := 0) rfl wc_0, cw_give hP hK hD hZ hS hF⟩ rfl rfl hl.1 rfl (lv_room (Nat.le_of_ble_eq_true rfl)) dX8_lacks_10 ⟨Nat.le_of_ble_eq_true rfl, Nat.le_of_ble_eq_true rfl⟩) hS (fun q _ h => hF q h) hF (fun r_7 u t H1 locs ht hvm hw hB hz1 hk1 hS => ?_)
    rw [hw]
    obtain ⟨hB, hI_8⟩ := hB
    obtain ⟨hP, hD⟩ := pw_back hF ht hB
    clear hB hk1 hz1 hF
    generalize H1 = H at hP hS ⊢
    obtain ⟨τc_9, hτc_9⟩ : ∃ t9, (s_X8_refuse σ (-1 : Int32)).2 = t9 := ⟨_, rfl⟩
    rw [hτc_9] at hP hD hI_8
    (try rw [hτc_9] at hR)
    obtain ⟨vc_10, hvc_10⟩ : ∃ t9, (s_X8_refuse σ (-1 : Int32)).1 = t9 := ⟨_, rfl⟩
    rw [hvc_10]
    (try rw [hvc_10] at hR)
    have hI9 : IX τc_9 := hI_8
    obtain ⟨rfl, rfl⟩ := Prod.mk.inj (show (vc_10, τc_9) = (R1, R2) from hR)
    rw [hQ]
    exact W.iret (v := vc_10) hx hb hr (fun t ht hW => ⟨⟨vc_10, (), rfl, rfl, ⟨by rw [ht]; exact hP, va_K.moved hW.alike hK, by rw [← hAe]; exact hD⟩, hI9⟩, hS.F ht⟩) hS.2.2 dX8_lacks_13

def s_X8_rest (σ : St) (a1 : Int32) (a2 : Int32) : Int32 × St := (if (s_X8_isPiece σ a1) = (0 : Int32) then (((s_X8_refuse σ (-1 : Int32)).1), ((s_X8_refuse σ (-1 : Int32)).2)) else (if (σ 816 0) ≤ a2 then (if a2 ≤ (740 : Int32) then ((σ 404 (a1.toNatClampNeg)), (put σ 404 (a1.toNatClampNeg) a2)) else (((s_X8_refuse σ (-6 : Int32)).1), ((s_X8_refuse σ (-6 : Int32)).2))) else (((s_X8_refuse σ (-4 : Int32)).1), ((s_X8_refuse σ (-4 : Int32)).2))))
theorem fr_s_X8_rest (σ : St) (a1 : Int32) (a2 : Int32) {f : Nat} (h404 : f ≠ 404) (h810 : f ≠ 810) : (s_X8_rest σ a1 a2 ).2 f = σ f := by
  unfold s_X8_rest
  all_goals ((try dsimp only) <;> ((repeat' split) <;> (try simp only [put_fr, ne_eq, not_false_eq_true, h404, h810, fr_s_X8_refuse])))
set_option maxHeartbeats 1000000 in
set_option maxRecDepth 100000 in
theorem k_X8_rest (l : Launch) (D : va_G) (ca : Nat → ClassId) (h : Nat) (ad : Nat → Nat) (pa : Nat → Nat → Nat) (tb : Nat) (σ : St) (a1 : Int32) (a2 : Int32) (sz : Nat) (hI : IX σ)  (R1 : Int32) (R2 : St) (hR : s_X8_rest σ a1 a2 = (R1, R2)) : Met l yX8_rest wsX8_rest ({ frames := 1, cells := 0, slots := 0, locals := 21 }) (va_Pc [.ref h, .int a1, .int a2] (cw_pre D ca (WC ca h ad pa σ) sz tb)) (va_Qi (fun (r : Int32) (_ : Unit) => r = R1) (fun (_ : Unit) (t : State) => pw_post D ca (WC ca h ad pa σ) sz (WC ca h ad pa R2) t ∧ IX R2) (va_A (WC ca h ad pa σ) sz)) 0 0 (va_A (WC ca h ad pa σ) sz) := by
  refine Met.ofW (cc := cX8_rest) (maxL := 4) (ret := (some .int)) (by decide) rfl ?_
  intro p e s m args below meth c s₁ B hml hv
  obtain ⟨rfl, ⟨hsz, hP, hK, hD0⟩, hZ⟩ := hv
  have hx := B.exec
  have hb := B.bytes
  have hr := B.returns
  have hts := atoms_spec (ws := wsX8_rest) B.pre
  have hown : s.vm.findClass RX8 = some m.cls := findClass_of_methodNamed B.named
  have hlocks := B.notSynchronized
  have hu4 : ∀ w ∈ u_ws RX4 TX4 6, w ∈ wsX8_rest := fun w h => List.mem_cons_of_mem _ (uw4 w h)
  have hu8 : ∀ w ∈ u_ws RX8 TX8 19, w ∈ wsX8_rest := fun w h => List.mem_cons_of_mem _ (uw8 w h)
  subst hsz
  have hD := hD0.self (sz := s.heap.size)
  obtain ⟨A, hAe⟩ : ∃ A, A = va_A (WC ca h ad pa σ) s.heap.size := ⟨_, rfl⟩
  rw [← hAe] at hD hZ ⊢
  have hA : ∀ q : Nat, s.heap.size ≤ q → A q := fun q h => by rw [hAe]; exact Or.inr h
  have hS : va_S A s.heap s.heap [] := va_S.rf
  have hl := lv_entry ([.ref h, .int a1, .int a2]) (n := 4) (Nat.le_of_ble_eq_true rfl)
  rw [lg_entry_eq]
  generalize (lg_sl ([.ref h, .int a1, .int a2]) ++ List.replicate (4 - (lg_sl ([.ref h, .int a1, .int a2])).length) Slot.unset).toArray = ls at hl ⊢
  have hl : lv_has ls 4 [(0, .ref h), (1, .int a1), (2, .int a2)] := hl
  obtain ⟨H, hH⟩ : ∃ H, H = s.heap := ⟨_, rfl⟩
  have hP : va_P D vwCl (WC ca h ad pa σ) H := by rw [hH]; exact hP
  have hS : va_S A s.heap H [] := by rw [hH]; exact hS
  obtain ⟨QQ, hQ⟩ : ∃ Q9, Q9 = MQ below (va_Qi (fun (r : Int32) (_ : Unit) => r = R1) (fun (_ : Unit) (t : State) => pw_post D ca (WC ca h ad pa σ) s.heap.size (WC ca h ad pa R2) t ∧ IX R2) A) ([.ref h, .int a1, .int a2] : List Value).toArray s 0 0 A := ⟨_, rfl⟩
  rw [← hQ]
  show W _ _ _ _ _ _ _ _ _ _ s.heap _ _ _ _ _
  rw [← hH]
  have hR : (if (s_X8_isPiece σ a1) = (0 : Int32) then (((s_X8_refuse σ (-1 : Int32)).1), ((s_X8_refuse σ (-1 : Int32)).2)) else (if (σ 816 0) ≤ a2 then (if a2 ≤ (740 : Int32) then ((σ 404 (a1.toNatClampNeg)), (put σ 404 (a1.toNatClampNeg) a2)) else (((s_X8_refuse σ (-6 : Int32)).1), ((s_X8_refuse σ (-6 : Int32)).2))) else (((s_X8_refuse σ (-4 : Int32)).1), ((s_X8_refuse σ (-4 : Int32)).2)))) = (R1, R2) := hR
  refine lv_aload_n hx hb dX8_rest_0 rfl (lv_at hl 0 rfl) ?_
  refine lv_iload_n hx hb dX8_rest_1 rfl (lv_at hl 1 rfl) ?_
  have hF := pw_free hD hS hA
  refine va_calli (va_runV (As := [.int a1]) (rest := []) ⟨hx, hb, hml, hown, hts⟩ (k_X8_isPiece l D ca h ad pa tb σ a1 H.size hI _ rfl) (cwV 1 hts gX8_rest_X8_isPiece rfl rfl rfl (by decide +kernel) ⟨Nat.le_of_ble_eq_true rfl, Nat.le_of_ble_eq_true rfl⟩) ⟨cw_blind, va_recv hK hP (ci := 8) (q0 := 0) rfl wc_0, cw_give hP hK hD hZ hS hF⟩ rfl rfl hl.1 rfl (lv_room (Nat.le_of_ble_eq_true rfl)) dX8_rest_2 ⟨Nat.le_of_ble_eq_true rfl, Nat.le_of_ble_eq_true rfl⟩) hS (fun q _ h => hF q h) hF (fun r_1 u t H1 locs ht hvm hw hB hz1 hk1 hS => ?_)
  rw [hw]
  obtain ⟨hP, hD⟩ := pw_back hF ht hB
  clear hB hk1 hz1 hF
  generalize H1 = H at hP hS ⊢
  refine lv_if_ne (tgt := 14) hx hb dX8_rest_5 (by decide) (fun c_2 => ?_) (fun c_2 => ?_)
  · have hR := (if_neg c_2).symm.trans hR
    refine lv_iload_n hx hb dX8_rest_14 rfl (lv_at hl 2 rfl) ?_
    refine lv_aload_n hx hb dX8_rest_15 rfl (lv_at hl 0 rfl) ?_
    refine va_get (D := D) (ci := 8) (v := .int (σ 816 0)) (C := RX8) (T := TX8) (N := 19) hx hb hts hu8 hown hK hP 0 wc_0 rfl 16 (by decide) (hts (.fieldLink RX8 91 "GrazeBook" "day" "I") (List.mem_cons_of_mem _ mw_226)) (fun _ h9 => h9) rfl dX8_rest_16 ?_
    refine lv_icmp_ge (tgt := 29) hx hb dX8_rest_19 (by decide) (fun c_3 => ?_) (fun c_3 => ?_)
    · have hR := (if_pos c_3).symm.trans hR
      refine lv_iload_n hx hb dX8_rest_29 rfl (lv_at hl 2 rfl) ?_
      refine lv_sipush (v := (740 : Int32)) hx hb dX8_rest_30 (by decide) ?_
      refine lv_icmp_le (tgt := 43) hx hb dX8_rest_33 (by decide) (fun c_4 => ?_) (fun c_4 => ?_)
      · have hR := (if_pos c_4).symm.trans hR
        refine lv_aload_n hx hb dX8_rest_43 rfl (lv_at hl 0 rfl) ?_
        refine va_get (D := D) (ci := 8) (v := .ref (ad 800)) (C := RX8) (T := TX8) (N := 19) hx hb hts hu8 hown hK hP 0 wc_0 rfl 0 (by decide) (hts (.fieldLink RX8 11 "GrazeBook" "pieces" "[LGrazeBook$Ground;") (List.mem_cons_of_mem _ mw_210)) (fun _ h9 => h9) rfl dX8_rest_44 ?_
        refine lv_iload_n hx hb dX8_rest_47 rfl (lv_at hl 1 rfl) ?_
        refine va_aldq_k (k := (a1.toNatClampNeg)) (b := pa 0 (a1.toNatClampNeg)) hx hb hK hP 6 2 wc_6 rfl rfl (rf_at (isb_Piece c_2)) (isx_Piece c_2 hI) dX8_rest_48 ?_
        refine va_get (D := D) (ci := 4) (v := .int (σ 404 (a1.toNatClampNeg))) (C := RX4) (T := TX4) (N := 6) hx hb hts hu4 hown hK hP (pcG ca h ad pa σ (a1.toNatClampNeg)) (wc_aG (isb_Piece c_2)) rfl 4 (by decide) (hts (.fieldLink RX8 204 "GrazeBook$Ground" "rest" "I") (List.mem_cons_of_mem _ mw_292)) (fun _ h9 => h9) rfl dX8_rest_49 ?_
        refine lv_istore_n (lv' := [(3, .int (σ 404 (a1.toNatClampNeg))), (0, .ref h), (1, .int a1), (2, .int a2)]) hx hb dX8_rest_52 rfl hl (by decide) rfl (fun ls hl => ?_)
        refine lv_aload_n hx hb dX8_rest_53 rfl (lv_at hl 1 rfl) ?_
        refine va_get (D := D) (ci := 8) (v := .ref (ad 800)) (C := RX8) (T := TX8) (N := 19) hx hb hts hu8 hown hK hP 0 wc_0 rfl 0 (by decide) (hts (.fieldLink RX8 11 "GrazeBook" "pieces" "[LGrazeBook$Ground;") (List.mem_cons_of_mem _ mw_210)) (fun _ h9 => h9) rfl dX8_rest_54 ?_
        refine lv_iload_n hx hb dX8_rest_57 rfl (lv_at hl 2 rfl) ?_
        refine va_aldq_k (k := (a1.toNatClampNeg)) (b := pa 0 (a1.toNatClampNeg)) hx hb hK hP 6 2 wc_6 rfl rfl (rf_at (isb_Piece c_2)) (isx_Piece c_2 hI) dX8_rest_58 ?_
        refine lv_iload_n hx hb dX8_rest_59 rfl (lv_at hl 3 rfl) ?_
        refine va_put (D := D) (ci := 4) (v := .int a2) (ty := .int) (C := RX4) (T := TX4) (N := 6) hx hb hts hu4 tyX4 tyX4_ok nmX4 hown hK hP hD hS (pcG ca h ad pa σ (a1.toNatClampNeg)) (wc_aG (isb_Piece c_2)) rfl 4 (by decide) (hts (.fieldLink RX8 204 "GrazeBook$Ground" "rest" "I") (List.mem_cons_of_mem _ mw_292)) (fun _ h9 => h9) rfl (by decide +kernel) rfl rfl (Nat.le_of_ble_eq_true rfl) dX8_rest_60 (fun H locs hP hD hS => ?_)
        rw [wc_sG4 (σ := σ) (isb_Piece c_2)] at hP hD
        refine lv_iload_n hx hb dX8_rest_63 rfl (lv_at hl 0 rfl) ?_
        have hI9 : IX (put σ 404 (a1.toNatClampNeg) a2) := hI
        obtain ⟨rfl, rfl⟩ := Prod.mk.inj (show ((σ 404 (a1.toNatClampNeg)), (put σ 404 (a1.toNatClampNeg) a2)) = (R1, R2) from hR)
        rw [hQ]
        exact W.iret (v := (σ 404 (a1.toNatClampNeg))) hx hb hr (fun t ht hW => ⟨⟨(σ 404 (a1.toNatClampNeg)), (), rfl, rfl, ⟨by rw [ht]; exact hP, va_K.moved hW.alike hK, by rw [← hAe]; exact hD⟩, hI9⟩, hS.F ht⟩) hS.2.2 dX8_rest_64
      · have hR := (if_neg c_4).symm.trans hR
        refine lv_aload_n hx hb dX8_rest_36 rfl (lv_at hl 0 rfl) ?_
        refine lv_bipush (v := (-6 : Int32)) hx hb dX8_rest_37 (by decide) ?_
        have hF := pw_free hD hS hA
        refine va_calli (va_runV (As := [.int (-6 : Int32)]) (rest := []) ⟨hx, hb, hml, hown, hts⟩ (k_X8_refuse l D ca h ad pa tb σ (-6 : Int32) H.size hI _ _ (Prod.eta _).symm) (cwV 1 hts gX8_rest_X8_refuse rfl rfl rfl (by decide +kernel) ⟨Nat.le_of_ble_eq_true rfl, Nat.le_of_ble_eq_true rfl⟩) ⟨cw_blind, va_recv hK hP (ci := 8) (q0 := 0) rfl wc_0, cw_give hP hK hD hZ hS hF⟩ rfl rfl hl.1 rfl (lv_room (Nat.le_of_ble_eq_true rfl)) dX8_rest_39 ⟨Nat.le_of_ble_eq_true rfl, Nat.le_of_ble_eq_true rfl⟩) hS (fun q _ h => hF q h) hF (fun r_5 u t H1 locs ht hvm hw hB hz1 hk1 hS => ?_)
        rw [hw]
        obtain ⟨hB, hI_6⟩ := hB
        obtain ⟨hP, hD⟩ := pw_back hF ht hB
        clear hB hk1 hz1 hF
        generalize H1 = H at hP hS ⊢
        obtain ⟨τc_7, hτc_7⟩ : ∃ t9, (s_X8_refuse σ (-6 : Int32)).2 = t9 := ⟨_, rfl⟩
        rw [hτc_7] at hP hD hI_6
        (try rw [hτc_7] at hR)
        obtain ⟨vc_8, hvc_8⟩ : ∃ t9, (s_X8_refuse σ (-6 : Int32)).1 = t9 := ⟨_, rfl⟩
        rw [hvc_8]
        (try rw [hvc_8] at hR)
        have hI9 : IX τc_7 := hI_6
        obtain ⟨rfl, rfl⟩ := Prod.mk.inj (show (vc_8, τc_7) = (R1, R2) from hR)
        rw [hQ]
        exact W.iret (v := vc_8) hx hb hr (fun t ht hW => ⟨⟨vc_8, (), rfl, rfl, ⟨by rw [ht]; exact hP, va_K.moved hW.alike hK, by rw [← hAe]; exact hD⟩, hI9⟩, hS.F ht⟩) hS.2.2 dX8_rest_42
    · have hR := (if_neg c_3).symm.trans hR
      refine lv_aload_n hx hb dX8_rest_22 rfl (lv_at hl 0 rfl) ?_
      refine lv_bipush (v := (-4 : Int32)) hx hb dX8_rest_23 (by decide) ?_
      have hF := pw_free hD hS hA
      refine va_calli (va_runV (As := [.int (-4 : Int32)]) (rest := []) ⟨hx, hb, hml, hown, hts⟩ (k_X8_refuse l D ca h ad pa tb σ (-4 : Int32) H.size hI _ _ (Prod.eta _).symm) (cwV 1 hts gX8_rest_X8_refuse rfl rfl rfl (by decide +kernel) ⟨Nat.le_of_ble_eq_true rfl, Nat.le_of_ble_eq_true rfl⟩) ⟨cw_blind, va_recv hK hP (ci := 8) (q0 := 0) rfl wc_0, cw_give hP hK hD hZ hS hF⟩ rfl rfl hl.1 rfl (lv_room (Nat.le_of_ble_eq_true rfl)) dX8_rest_25 ⟨Nat.le_of_ble_eq_true rfl, Nat.le_of_ble_eq_true rfl⟩) hS (fun q _ h => hF q h) hF (fun r_9 u t H1 locs ht hvm hw hB hz1 hk1 hS => ?_)
      rw [hw]
      obtain ⟨hB, hI_10⟩ := hB
      obtain ⟨hP, hD⟩ := pw_back hF ht hB
      clear hB hk1 hz1 hF
      generalize H1 = H at hP hS ⊢
      obtain ⟨τc_11, hτc_11⟩ : ∃ t9, (s_X8_refuse σ (-4 : Int32)).2 = t9 := ⟨_, rfl⟩
      rw [hτc_11] at hP hD hI_10
      (try rw [hτc_11] at hR)
      obtain ⟨vc_12, hvc_12⟩ : ∃ t9, (s_X8_refuse σ (-4 : Int32)).1 = t9 := ⟨_, rfl⟩
      rw [hvc_12]
      (try rw [hvc_12] at hR)
      have hI9 : IX τc_11 := hI_10
      obtain ⟨rfl, rfl⟩ := Prod.mk.inj (show (vc_12, τc_11) = (R1, R2) from hR)
      rw [hQ]
      exact W.iret (v := vc_12) hx hb hr (fun t ht hW => ⟨⟨vc_12, (), rfl, rfl, ⟨by rw [ht]; exact hP, va_K.moved hW.alike hK, by rw [← hAe]; exact hD⟩, hI9⟩, hS.F ht⟩) hS.2.2 dX8_rest_28
  · have hR := (if_pos c_2).symm.trans hR
    refine lv_aload_n hx hb dX8_rest_8 rfl (lv_at hl 0 rfl) ?_
    refine lv_iconst (v := (-1 : Int32)) hx hb dX8_rest_9 (by decide) ?_
    have hF := pw_free hD hS hA
    refine va_calli (va_runV (As := [.int (-1 : Int32)]) (rest := []) ⟨hx, hb, hml, hown, hts⟩ (k_X8_refuse l D ca h ad pa tb σ (-1 : Int32) H.size hI _ _ (Prod.eta _).symm) (cwV 1 hts gX8_rest_X8_refuse rfl rfl rfl (by decide +kernel) ⟨Nat.le_of_ble_eq_true rfl, Nat.le_of_ble_eq_true rfl⟩) ⟨cw_blind, va_recv hK hP (ci := 8) (q0 := 0) rfl wc_0, cw_give hP hK hD hZ hS hF⟩ rfl rfl hl.1 rfl (lv_room (Nat.le_of_ble_eq_true rfl)) dX8_rest_10 ⟨Nat.le_of_ble_eq_true rfl, Nat.le_of_ble_eq_true rfl⟩) hS (fun q _ h => hF q h) hF (fun r_13 u t H1 locs ht hvm hw hB hz1 hk1 hS => ?_)
    rw [hw]
    obtain ⟨hB, hI_14⟩ := hB
    obtain ⟨hP, hD⟩ := pw_back hF ht hB
    clear hB hk1 hz1 hF
    generalize H1 = H at hP hS ⊢
    obtain ⟨τc_15, hτc_15⟩ : ∃ t9, (s_X8_refuse σ (-1 : Int32)).2 = t9 := ⟨_, rfl⟩
    rw [hτc_15] at hP hD hI_14
    (try rw [hτc_15] at hR)
    obtain ⟨vc_16, hvc_16⟩ : ∃ t9, (s_X8_refuse σ (-1 : Int32)).1 = t9 := ⟨_, rfl⟩
    rw [hvc_16]
    (try rw [hvc_16] at hR)
    have hI9 : IX τc_15 := hI_14
    obtain ⟨rfl, rfl⟩ := Prod.mk.inj (show (vc_16, τc_15) = (R1, R2) from hR)
    rw [hQ]
    exact W.iret (v := vc_16) hx hb hr (fun t ht hW => ⟨⟨vc_16, (), rfl, rfl, ⟨by rw [ht]; exact hP, va_K.moved hW.alike hK, by rw [← hAe]; exact hD⟩, hI9⟩, hS.F ht⟩) hS.2.2 dX8_rest_13

def s_X8_cut (σ : St) (a1 : Int32) : Int32 × St := (if (s_X8_isPiece σ a1) = (0 : Int32) then (((s_X8_refuse σ (-1 : Int32)).1), ((s_X8_refuse σ (-1 : Int32)).2)) else (if (s_X4_restsOn σ (a1.toNatClampNeg) (σ 816 0)) = (0 : Int32) then (if (s_X8_herdsOn σ a1) ≤ (0 : Int32) then ((if (0 : Int32) < ((σ 403 (a1.toNatClampNeg)) - (100 : Int32)) then ((σ 403 (a1.toNatClampNeg)) - (100 : Int32)) else (0 : Int32)), (s_X8_shareHay (put (put σ 403 (a1.toNatClampNeg) ((σ 403 (a1.toNatClampNeg)) - (if (0 : Int32) < ((σ 403 (a1.toNatClampNeg)) - (100 : Int32)) then ((σ 403 (a1.toNatClampNeg)) - (100 : Int32)) else (0 : Int32)))) 404 (a1.toNatClampNeg) ((σ 816 0) + (20 : Int32))) a1 (if (0 : Int32) < ((σ 403 (a1.toNatClampNeg)) - (100 : Int32)) then ((σ 403 (a1.toNatClampNeg)) - (100 : Int32)) else (0 : Int32)))) else (((s_X8_refuse σ (-3 : Int32)).1), ((s_X8_refuse σ (-3 : Int32)).2))) else (((s_X8_refuse σ (-3 : Int32)).1), ((s_X8_refuse σ (-3 : Int32)).2))))
theorem fr_s_X8_cut (σ : St) (a1 : Int32) {f : Nat} (h100 : f ≠ 100) (h101 : f ≠ 101) (h102 : f ≠ 102) (h103 : f ≠ 103) (h104 : f ≠ 104) (h403 : f ≠ 403) (h404 : f ≠ 404) (h501 : f ≠ 501) (h591 : f ≠ 591) (h810 : f ≠ 810) : (s_X8_cut σ a1 ).2 f = σ f := by
  unfold s_X8_cut
  all_goals ((try dsimp only) <;> ((repeat' split) <;> (try simp only [put_fr, ne_eq, not_false_eq_true, h100, h101, h102, h103, h104, h403, h404, h501, h591, h810, fr_s_X8_refuse, fr_s_X8_shareHay])))
set_option maxHeartbeats 1000000 in
set_option maxRecDepth 100000 in
theorem k_X8_cut (l : Launch) (D : va_G) (ca : Nat → ClassId) (h : Nat) (ad : Nat → Nat) (pa : Nat → Nat → Nat) (tb : Nat) (σ : St) (a1 : Int32) (sz : Nat) (hI : IX σ)  (R1 : Int32) (R2 : St) (hR : s_X8_cut σ a1 = (R1, R2)) : Met l yX8_cut wsX8_cut ({ frames := 4, cells := 0, slots := 0, locals := 92 }) (va_Pc [.ref h, .int a1] (cw_pre D ca (WC ca h ad pa σ) sz tb)) (va_Qi (fun (r : Int32) (_ : Unit) => r = R1) (fun (_ : Unit) (t : State) => pw_post D ca (WC ca h ad pa σ) sz (WC ca h ad pa R2) t ∧ IX R2) (va_A (WC ca h ad pa σ) sz)) 0 0 (va_A (WC ca h ad pa σ) sz) := by
  refine Met.ofW (cc := cX8_cut) (maxL := 4) (ret := (some .int)) (by decide) rfl ?_
  intro p e s m args below meth c s₁ B hml hv
  obtain ⟨rfl, ⟨hsz, hP, hK, hD0⟩, hZ⟩ := hv
  have hx := B.exec
  have hb := B.bytes
  have hr := B.returns
  have hts := atoms_spec (ws := wsX8_cut) B.pre
  have hown : s.vm.findClass RX8 = some m.cls := findClass_of_methodNamed B.named
  have hlocks := B.notSynchronized
  have hu4 : ∀ w ∈ u_ws RX4 TX4 6, w ∈ wsX8_cut := fun w h => List.mem_cons_of_mem _ (uw4 w h)
  have hu8 : ∀ w ∈ u_ws RX8 TX8 19, w ∈ wsX8_cut := fun w h => List.mem_cons_of_mem _ (uw8 w h)
  subst hsz
  have hD := hD0.self (sz := s.heap.size)
  obtain ⟨A, hAe⟩ : ∃ A, A = va_A (WC ca h ad pa σ) s.heap.size := ⟨_, rfl⟩
  rw [← hAe] at hD hZ ⊢
  have hA : ∀ q : Nat, s.heap.size ≤ q → A q := fun q h => by rw [hAe]; exact Or.inr h
  have hS : va_S A s.heap s.heap [] := va_S.rf
  have hl := lv_entry ([.ref h, .int a1]) (n := 4) (Nat.le_of_ble_eq_true rfl)
  rw [lg_entry_eq]
  generalize (lg_sl ([.ref h, .int a1]) ++ List.replicate (4 - (lg_sl ([.ref h, .int a1])).length) Slot.unset).toArray = ls at hl ⊢
  have hl : lv_has ls 4 [(0, .ref h), (1, .int a1)] := hl
  obtain ⟨H, hH⟩ : ∃ H, H = s.heap := ⟨_, rfl⟩
  have hP : va_P D vwCl (WC ca h ad pa σ) H := by rw [hH]; exact hP
  have hS : va_S A s.heap H [] := by rw [hH]; exact hS
  obtain ⟨QQ, hQ⟩ : ∃ Q9, Q9 = MQ below (va_Qi (fun (r : Int32) (_ : Unit) => r = R1) (fun (_ : Unit) (t : State) => pw_post D ca (WC ca h ad pa σ) s.heap.size (WC ca h ad pa R2) t ∧ IX R2) A) ([.ref h, .int a1] : List Value).toArray s 0 0 A := ⟨_, rfl⟩
  rw [← hQ]
  show W _ _ _ _ _ _ _ _ _ _ s.heap _ _ _ _ _
  rw [← hH]
  have hR : (if (s_X8_isPiece σ a1) = (0 : Int32) then (((s_X8_refuse σ (-1 : Int32)).1), ((s_X8_refuse σ (-1 : Int32)).2)) else (if (s_X4_restsOn σ (a1.toNatClampNeg) (σ 816 0)) = (0 : Int32) then (if (s_X8_herdsOn σ a1) ≤ (0 : Int32) then ((if (0 : Int32) < ((σ 403 (a1.toNatClampNeg)) - (100 : Int32)) then ((σ 403 (a1.toNatClampNeg)) - (100 : Int32)) else (0 : Int32)), (s_X8_shareHay (put (put σ 403 (a1.toNatClampNeg) ((σ 403 (a1.toNatClampNeg)) - (if (0 : Int32) < ((σ 403 (a1.toNatClampNeg)) - (100 : Int32)) then ((σ 403 (a1.toNatClampNeg)) - (100 : Int32)) else (0 : Int32)))) 404 (a1.toNatClampNeg) ((σ 816 0) + (20 : Int32))) a1 (if (0 : Int32) < ((σ 403 (a1.toNatClampNeg)) - (100 : Int32)) then ((σ 403 (a1.toNatClampNeg)) - (100 : Int32)) else (0 : Int32)))) else (((s_X8_refuse σ (-3 : Int32)).1), ((s_X8_refuse σ (-3 : Int32)).2))) else (((s_X8_refuse σ (-3 : Int32)).1), ((s_X8_refuse σ (-3 : Int32)).2)))) = (R1, R2) := hR
  refine lv_aload_n hx hb dX8_cut_0 rfl (lv_at hl 0 rfl) ?_
  refine lv_iload_n hx hb dX8_cut_1 rfl (lv_at hl 1 rfl) ?_
  have hF := pw_free hD hS hA
  refine va_calli (va_runV (As := [.int a1]) (rest := []) ⟨hx, hb, hml, hown, hts⟩ (k_X8_isPiece l D ca h ad pa tb σ a1 H.size hI _ rfl) (cwV 1 hts gX8_cut_X8_isPiece rfl rfl rfl (by decide +kernel) ⟨Nat.le_of_ble_eq_true rfl, Nat.le_of_ble_eq_true rfl⟩) ⟨cw_blind, va_recv hK hP (ci := 8) (q0 := 0) rfl wc_0, cw_give hP hK hD hZ hS hF⟩ rfl rfl hl.1 rfl (lv_room (Nat.le_of_ble_eq_true rfl)) dX8_cut_2 ⟨Nat.le_of_ble_eq_true rfl, Nat.le_of_ble_eq_true rfl⟩) hS (fun q _ h => hF q h) hF (fun r_1 u t H1 locs ht hvm hw hB hz1 hk1 hS => ?_)
  rw [hw]
  obtain ⟨hP, hD⟩ := pw_back hF ht hB
  clear hB hk1 hz1 hF
  generalize H1 = H at hP hS ⊢
  refine lv_if_ne (tgt := 14) hx hb dX8_cut_5 (by decide) (fun c_2 => ?_) (fun c_2 => ?_)
  · have hR := (if_neg c_2).symm.trans hR
    refine lv_aload_n hx hb dX8_cut_14 rfl (lv_at hl 0 rfl) ?_
    refine va_get (D := D) (ci := 8) (v := .ref (ad 800)) (C := RX8) (T := TX8) (N := 19) hx hb hts hu8 hown hK hP 0 wc_0 rfl 0 (by decide) (hts (.fieldLink RX8 11 "GrazeBook" "pieces" "[LGrazeBook$Ground;") (List.mem_cons_of_mem _ mw_210)) (fun _ h9 => h9) rfl dX8_cut_15 ?_
    refine lv_iload_n hx hb dX8_cut_18 rfl (lv_at hl 1 rfl) ?_
    refine va_aldq_k (k := (a1.toNatClampNeg)) (b := pa 0 (a1.toNatClampNeg)) hx hb hK hP 6 2 wc_6 rfl rfl (rf_at (isb_Piece c_2)) (isx_Piece c_2 hI) dX8_cut_19 ?_
    refine lv_astore_n (lv' := [(2, .ref (pa 0 (a1.toNatClampNeg))), (0, .ref h), (1, .int a1)]) hx hb dX8_cut_20 rfl hl (by decide) rfl (fun ls hl => ?_)
    refine lv_aload_n hx hb dX8_cut_21 rfl (lv_at hl 0 rfl) ?_
    refine lv_aload_n hx hb dX8_cut_22 rfl (lv_at hl 1 rfl) ?_
    refine va_get (D := D) (ci := 8) (v := .int (σ 816 0)) (C := RX8) (T := TX8) (N := 19) hx hb hts hu8 hown hK hP 0 wc_0 rfl 16 (by decide) (hts (.fieldLink RX8 91 "GrazeBook" "day" "I") (List.mem_cons_of_mem _ mw_226)) (fun _ h9 => h9) rfl dX8_cut_23 ?_
    have hF := pw_free hD hS hA
    refine va_calli (va_runV (As := [.int (σ 816 0)]) (rest := []) ⟨hx, hb, hml, hown, hts⟩ (k_X4_restsOn l D ca h ad pa tb σ (a1.toNatClampNeg) (σ 816 0) H.size hI (isb_Piece c_2) _ rfl) (cwV 1 hts gX8_cut_X4_restsOn rfl rfl rfl (by decide +kernel) ⟨Nat.le_of_ble_eq_true rfl, Nat.le_of_ble_eq_true rfl⟩) ⟨cw_blind, va_recv hK hP (ci := 4) (q0 := (pcG ca h ad pa σ (a1.toNatClampNeg))) rfl (wc_aG (isb_Piece c_2)), cw_give hP hK hD hZ hS hF⟩ rfl rfl hl.1 rfl (lv_room (Nat.le_of_ble_eq_true rfl)) dX8_cut_26 ⟨Nat.le_of_ble_eq_true rfl, Nat.le_of_ble_eq_true rfl⟩) hS (fun q _ h => hF q h) hF (fun r_3 u t H1 locs ht hvm hw hB hz1 hk1 hS => ?_)
    rw [hw]
    obtain ⟨hP, hD⟩ := pw_back hF ht hB
    clear hB hk1 hz1 hF
    generalize H1 = H at hP hS ⊢
    refine lv_if_ne (tgt := 40) hx hb dX8_cut_29 (by decide) (fun c_4 => ?_) (fun c_4 => ?_)
    · have hR := (if_neg c_4).symm.trans hR
      refine lv_aload_n hx hb dX8_cut_40 rfl (lv_at hl 1 rfl) ?_
      refine lv_bipush (v := (-3 : Int32)) hx hb dX8_cut_41 (by decide) ?_
      have hF := pw_free hD hS hA
      refine va_calli (va_runV (As := [.int (-3 : Int32)]) (rest := []) ⟨hx, hb, hml, hown, hts⟩ (k_X8_refuse l D ca h ad pa tb σ (-3 : Int32) H.size hI _ _ (Prod.eta _).symm) (cwV 1 hts gX8_cut_X8_refuse rfl rfl rfl (by decide +kernel) ⟨Nat.le_of_ble_eq_true rfl, Nat.le_of_ble_eq_true rfl⟩) ⟨cw_blind, va_recv hK hP (ci := 8) (q0 := 0) rfl wc_0, cw_give hP hK hD hZ hS hF⟩ rfl rfl hl.1 rfl (lv_room (Nat.le_of_ble_eq_true rfl)) dX8_cut_43 ⟨Nat.le_of_ble_eq_true rfl, Nat.le_of_ble_eq_true rfl⟩) hS (fun q _ h => hF q h) hF (fun r_5 u t H1 locs ht hvm hw hB hz1 hk1 hS => ?_)
      rw [hw]
      obtain ⟨hB, hI_6⟩ := hB
      obtain ⟨hP, hD⟩ := pw_back hF ht hB
      clear hB hk1 hz1 hF
      generalize H1 = H at hP hS ⊢
      obtain ⟨τc_7, hτc_7⟩ : ∃ t9, (s_X8_refuse σ (-3 : Int32)).2 = t9 := ⟨_, rfl⟩
      rw [hτc_7] at hP hD hI_6
      (try rw [hτc_7] at hR)
      obtain ⟨vc_8, hvc_8⟩ : ∃ t9, (s_X8_refuse σ (-3 : Int32)).1 = t9 := ⟨_, rfl⟩
      rw [hvc_8]
      (try rw [hvc_8] at hR)
      have hI9 : IX τc_7 := hI_6
      obtain ⟨rfl, rfl⟩ := Prod.mk.inj (show (vc_8, τc_7) = (R1, R2) from hR)
      rw [hQ]
      exact W.iret (v := vc_8) hx hb hr (fun t ht hW => ⟨⟨vc_8, (), rfl, rfl, ⟨by rw [ht]; exact hP, va_K.moved hW.alike hK, by rw [← hAe]; exact hD⟩, hI9⟩, hS.F ht⟩) hS.2.2 dX8_cut_46
    · have hR := (if_pos c_4).symm.trans hR
      refine lv_aload_n hx hb dX8_cut_32 rfl (lv_at hl 1 rfl) ?_
      refine lv_iload_n hx hb dX8_cut_33 rfl (lv_at hl 2 rfl) ?_
      have hF := pw_free hD hS hA
      refine va_calli (va_runV (As := [.int a1]) (rest := []) ⟨hx, hb, hml, hown, hts⟩ (k_X8_herdsOn l D ca h ad pa tb σ a1 H.size hI _ rfl) (cwV 1 hts gX8_cut_X8_herdsOn rfl rfl rfl (by decide +kernel) ⟨Nat.le_of_ble_eq_true rfl, Nat.le_of_ble_eq_true rfl⟩) ⟨cw_blind, va_recv hK hP (ci := 8) (q0 := 0) rfl wc_0, cw_give hP hK hD hZ hS hF⟩ rfl rfl hl.1 rfl (lv_room (Nat.le_of_ble_eq_true rfl)) dX8_cut_34 ⟨Nat.le_of_ble_eq_true rfl, Nat.le_of_ble_eq_true rfl⟩) hS (fun q _ h => hF q h) hF (fun r_9 u t H1 locs ht hvm hw hB hz1 hk1 hS => ?_)
      rw [hw]
      obtain ⟨hP, hD⟩ := pw_back hF ht hB
      clear hB hk1 hz1 hF
      generalize H1 = H at hP hS ⊢
      refine lv_if_le (tgt := 47) hx hb dX8_cut_37 (by decide) (fun c_10 => ?_) (fun c_10 => ?_)
      · have hR := (if_pos c_10).symm.trans hR
        refine lv_iconst (v := (0 : Int32)) hx hb dX8_cut_47 (by decide) ?_
        refine lv_aload_n hx hb dX8_cut_48 rfl (lv_at hl 0 rfl) ?_
        refine va_get (D := D) (ci := 4) (v := .int (σ 403 (a1.toNatClampNeg))) (C := RX4) (T := TX4) (N := 6) hx hb hts hu4 hown hK hP (pcG ca h ad pa σ (a1.toNatClampNeg)) (wc_aG (isb_Piece c_2)) rfl 3 (by decide) (hts (.fieldLink RX8 210 "GrazeBook$Ground" "grass" "I") (List.mem_cons_of_mem _ mw_290)) (fun _ h9 => h9) rfl dX8_cut_49 ?_
        refine lv_bipush (v := (100 : Int32)) hx hb dX8_cut_52 (by decide) ?_
        refine lv_isub hx hb dX8_cut_54 ?_
        refine va_mmax hx hb (hml.trans hl.1.symm) hown (hts (.methodLink RX8 213 Lib.Math.max.name) (List.mem_cons_of_mem _ mw_644)) (hts (.static Lib.Math.max.name) (List.mem_cons_of_mem _ mw_520)) (hts (.initialized "java/lang/Math") (List.mem_cons_of_mem _ mw_68)) (hts (.code Lib.Math.max.name Lib.Math.max.code 2 (some .int)) (List.mem_cons_of_mem _ mw_521)) (Nat.le_of_ble_eq_true rfl) (Nat.le_of_ble_eq_true rfl) (Nat.le_of_ble_eq_true rfl) (Nat.le_of_ble_eq_true rfl) dX8_cut_55 ?_
        refine lv_istore_n (lv' := [(3, .int (if (0 : Int32) < ((σ 403 (a1.toNatClampNeg)) - (100 : Int32)) then ((σ 403 (a1.toNatClampNeg)) - (100 : Int32)) else (0 : Int32))), (2, .ref (pa 0 (a1.toNatClampNeg))), (0, .ref h), (1, .int a1)]) hx hb dX8_cut_58 rfl hl (by decide) rfl (fun ls hl => ?_)
        refine lv_aload_n hx hb dX8_cut_59 rfl (lv_at hl 1 rfl) ?_
        refine lv_dup hx hb dX8_cut_60 rfl ?_
        refine va_get (D := D) (ci := 4) (v := .int (σ 403 (a1.toNatClampNeg))) (C := RX4) (T := TX4) (N := 6) hx hb hts hu4 hown hK hP (pcG ca h ad pa σ (a1.toNatClampNeg)) (wc_aG (isb_Piece c_2)) rfl 3 (by decide) (hts (.fieldLink RX8 210 "GrazeBook$Ground" "grass" "I") (List.mem_cons_of_mem _ mw_290)) (fun _ h9 => h9) rfl dX8_cut_61 ?_
        refine lv_iload_n hx hb dX8_cut_64 rfl (lv_at hl 0 rfl) ?_
        refine lv_isub hx hb dX8_cut_65 ?_
        refine va_put (D := D) (ci := 4) (v := .int ((σ 403 (a1.toNatClampNeg)) - (if (0 : Int32) < ((σ 403 (a1.toNatClampNeg)) - (100 : Int32)) then ((σ 403 (a1.toNatClampNeg)) - (100 : Int32)) else (0 : Int32)))) (ty := .int) (C := RX4) (T := TX4) (N := 6) hx hb hts hu4 tyX4 tyX4_ok nmX4 hown hK hP hD hS (pcG ca h ad pa σ (a1.toNatClampNeg)) (wc_aG (isb_Piece c_2)) rfl 3 (by decide) (hts (.fieldLink RX8 210 "GrazeBook$Ground" "grass" "I") (List.mem_cons_of_mem _ mw_290)) (fun _ h9 => h9) rfl (by decide +kernel) rfl rfl (Nat.le_of_ble_eq_true rfl) dX8_cut_66 (fun H locs hP hD hS => ?_)
        rw [wc_sG3 (σ := σ) (isb_Piece c_2)] at hP hD
        refine lv_aload_n hx hb dX8_cut_69 rfl (lv_at hl 1 rfl) ?_
        refine lv_aload_n hx hb dX8_cut_70 rfl (lv_at hl 2 rfl) ?_
        refine va_get (D := D) (ci := 8) (v := .int (σ 816 0)) (C := RX8) (T := TX8) (N := 19) hx hb hts hu8 hown hK hP 0 wc_0 rfl 16 (by decide) (hts (.fieldLink RX8 91 "GrazeBook" "day" "I") (List.mem_cons_of_mem _ mw_226)) (fun _ h9 => h9) rfl dX8_cut_71 ?_
        refine lv_bipush (v := (20 : Int32)) hx hb dX8_cut_74 (by decide) ?_
        refine lv_iadd hx hb dX8_cut_76 ?_
        refine va_put (D := D) (ci := 4) (v := .int ((σ 816 0) + (20 : Int32))) (ty := .int) (C := RX4) (T := TX4) (N := 6) hx hb hts hu4 tyX4 tyX4_ok nmX4 hown hK hP hD hS (pcG ca h ad pa (put σ 403 (a1.toNatClampNeg) ((σ 403 (a1.toNatClampNeg)) - (if (0 : Int32) < ((σ 403 (a1.toNatClampNeg)) - (100 : Int32)) then ((σ 403 (a1.toNatClampNeg)) - (100 : Int32)) else (0 : Int32)))) (a1.toNatClampNeg)) (wc_aG (isb_Piece c_2)) rfl 4 (by decide) (hts (.fieldLink RX8 204 "GrazeBook$Ground" "rest" "I") (List.mem_cons_of_mem _ mw_292)) (fun _ h9 => h9) rfl (by decide +kernel) rfl rfl (Nat.le_of_ble_eq_true rfl) dX8_cut_77 (fun H locs hP hD hS => ?_)
        rw [wc_sG4 (σ := (put σ 403 (a1.toNatClampNeg) ((σ 403 (a1.toNatClampNeg)) - (if (0 : Int32) < ((σ 403 (a1.toNatClampNeg)) - (100 : Int32)) then ((σ 403 (a1.toNatClampNeg)) - (100 : Int32)) else (0 : Int32))))) (isb_Piece c_2)] at hP hD
        refine lv_aload_n hx hb dX8_cut_80 rfl (lv_at hl 2 rfl) ?_
        refine lv_iload_n hx hb dX8_cut_81 rfl (lv_at hl 3 rfl) ?_
        refine lv_iload_n hx hb dX8_cut_82 rfl (lv_at hl 0 rfl) ?_
        have hF := pw_free hD hS hA
        refine va_callv (va_runV (As := [.int a1, .int (if (0 : Int32) < ((σ 403 (a1.toNatClampNeg)) - (100 : Int32)) then ((σ 403 (a1.toNatClampNeg)) - (100 : Int32)) else (0 : Int32))]) (rest := []) ⟨hx, hb, hml, hown, hts⟩ (k_X8_shareHay l D ca h ad pa tb (put (put σ 403 (a1.toNatClampNeg) ((σ 403 (a1.toNatClampNeg)) - (if (0 : Int32) < ((σ 403 (a1.toNatClampNeg)) - (100 : Int32)) then ((σ 403 (a1.toNatClampNeg)) - (100 : Int32)) else (0 : Int32)))) 404 (a1.toNatClampNeg) ((σ 816 0) + (20 : Int32))) a1 (if (0 : Int32) < ((σ 403 (a1.toNatClampNeg)) - (100 : Int32)) then ((σ 403 (a1.toNatClampNeg)) - (100 : Int32)) else (0 : Int32)) H.size hI _ rfl) (cwV 2 hts gX8_cut_X8_shareHay rfl rfl rfl (by decide +kernel) ⟨Nat.le_of_ble_eq_true rfl, Nat.le_of_ble_eq_true rfl⟩) ⟨cw_blind, va_recv hK hP (ci := 8) (q0 := 0) rfl wc_0, cw_give hP hK hD hZ hS hF⟩ rfl rfl hl.1 rfl (lv_room (Nat.le_of_ble_eq_true rfl)) dX8_cut_83 ⟨Nat.le_of_ble_eq_true rfl, Nat.le_of_ble_eq_true rfl⟩) hS (fun q _ h => hF q h) hF (fun u t H1 locs ht hvm hw hB hz1 hk1 hS => ?_)
        obtain ⟨hB, hI_12⟩ := hB
        obtain ⟨hP, hD⟩ := pw_back hF ht hB
        clear hB hk1 hz1 hF
        generalize H1 = H at hP hS ⊢
        obtain ⟨τc_13, hτc_13⟩ : ∃ t9, (s_X8_shareHay (put (put σ 403 (a1.toNatClampNeg) ((σ 403 (a1.toNatClampNeg)) - (if (0 : Int32) < ((σ 403 (a1.toNatClampNeg)) - (100 : Int32)) then ((σ 403 (a1.toNatClampNeg)) - (100 : Int32)) else (0 : Int32)))) 404 (a1.toNatClampNeg) ((σ 816 0) + (20 : Int32))) a1 (if (0 : Int32) < ((σ 403 (a1.toNatClampNeg)) - (100 : Int32)) then ((σ 403 (a1.toNatClampNeg)) - (100 : Int32)) else (0 : Int32))) = t9 := ⟨_, rfl⟩
        rw [hτc_13] at hP hD hI_12
        (try rw [hτc_13] at hR)
        refine lv_iload_n hx hb dX8_cut_86 rfl (lv_at hl 0 rfl) ?_
        have hI9 : IX τc_13 := hI_12
        obtain ⟨rfl, rfl⟩ := Prod.mk.inj (show ((if (0 : Int32) < ((σ 403 (a1.toNatClampNeg)) - (100 : Int32)) then ((σ 403 (a1.toNatClampNeg)) - (100 : Int32)) else (0 : Int32)), τc_13) = (R1, R2) from hR)
        rw [hQ]
        exact W.iret (v := (if (0 : Int32) < ((σ 403 (a1.toNatClampNeg)) - (100 : Int32)) then ((σ 403 (a1.toNatClampNeg)) - (100 : Int32)) else (0 : Int32))) hx hb hr (fun t ht hW => ⟨⟨(if (0 : Int32) < ((σ 403 (a1.toNatClampNeg)) - (100 : Int32)) then ((σ 403 (a1.toNatClampNeg)) - (100 : Int32)) else (0 : Int32)), (), rfl, rfl, ⟨by rw [ht]; exact hP, va_K.moved hW.alike hK, by rw [← hAe]; exact hD⟩, hI9⟩, hS.F ht⟩) hS.2.2 dX8_cut_87
      · have hR := (if_neg c_10).symm.trans hR
        refine lv_aload_n hx hb dX8_cut_40 rfl (lv_at hl 1 rfl) ?_
        refine lv_bipush (v := (-3 : Int32)) hx hb dX8_cut_41 (by decide) ?_
        have hF := pw_free hD hS hA
        refine va_calli (va_runV (As := [.int (-3 : Int32)]) (rest := []) ⟨hx, hb, hml, hown, hts⟩ (k_X8_refuse l D ca h ad pa tb σ (-3 : Int32) H.size hI _ _ (Prod.eta _).symm) (cwV 1 hts gX8_cut_X8_refuse rfl rfl rfl (by decide +kernel) ⟨Nat.le_of_ble_eq_true rfl, Nat.le_of_ble_eq_true rfl⟩) ⟨cw_blind, va_recv hK hP (ci := 8) (q0 := 0) rfl wc_0, cw_give hP hK hD hZ hS hF⟩ rfl rfl hl.1 rfl (lv_room (Nat.le_of_ble_eq_true rfl)) dX8_cut_43 ⟨Nat.le_of_ble_eq_true rfl, Nat.le_of_ble_eq_true rfl⟩) hS (fun q _ h => hF q h) hF (fun r_14 u t H1 locs ht hvm hw hB hz1 hk1 hS => ?_)
        rw [hw]
        obtain ⟨hB, hI_15⟩ := hB
        obtain ⟨hP, hD⟩ := pw_back hF ht hB
        clear hB hk1 hz1 hF
        generalize H1 = H at hP hS ⊢
        obtain ⟨τc_16, hτc_16⟩ : ∃ t9, (s_X8_refuse σ (-3 : Int32)).2 = t9 := ⟨_, rfl⟩
        rw [hτc_16] at hP hD hI_15
        (try rw [hτc_16] at hR)
        obtain ⟨vc_17, hvc_17⟩ : ∃ t9, (s_X8_refuse σ (-3 : Int32)).1 = t9 := ⟨_, rfl⟩
        rw [hvc_17]
        (try rw [hvc_17] at hR)
        have hI9 : IX τc_16 := hI_15
        obtain ⟨rfl, rfl⟩ := Prod.mk.inj (show (vc_17, τc_16) = (R1, R2) from hR)
        rw [hQ]
        exact W.iret (v := vc_17) hx hb hr (fun t ht hW => ⟨⟨vc_17, (), rfl, rfl, ⟨by rw [ht]; exact hP, va_K.moved hW.alike hK, by rw [← hAe]; exact hD⟩, hI9⟩, hS.F ht⟩) hS.2.2 dX8_cut_46
  · have hR := (if_pos c_2).symm.trans hR
    refine lv_aload_n hx hb dX8_cut_8 rfl (lv_at hl 0 rfl) ?_
    refine lv_iconst (v := (-1 : Int32)) hx hb dX8_cut_9 (by decide) ?_
    have hF := pw_free hD hS hA
    refine va_calli (va_runV (As := [.int (-1 : Int32)]) (rest := []) ⟨hx, hb, hml, hown, hts⟩ (k_X8_refuse l D ca h ad pa tb σ (-1 : Int32) H.size hI _ _ (Prod.eta _).symm) (cwV 1 hts gX8_cut_X8_refuse rfl rfl rfl (by decide +kernel) ⟨Nat.le_of_ble_eq_true rfl, Nat.le_of_ble_eq_true rfl⟩) ⟨cw_blind, va_recv hK hP (ci := 8) (q0 := 0) rfl wc_0, cw_give hP hK hD hZ hS hF⟩ rfl rfl hl.1 rfl (lv_room (Nat.le_of_ble_eq_true rfl)) dX8_cut_10 ⟨Nat.le_of_ble_eq_true rfl, Nat.le_of_ble_eq_true rfl⟩) hS (fun q _ h => hF q h) hF (fun r_18 u t H1 locs ht hvm hw hB hz1 hk1 hS => ?_)
    rw [hw]
    obtain ⟨hB, hI_19⟩ := hB
    obtain ⟨hP, hD⟩ := pw_back hF ht hB
    clear hB hk1 hz1 hF
    generalize H1 = H at hP hS ⊢
    obtain ⟨τc_20, hτc_20⟩ : ∃ t9, (s_X8_refuse σ (-1 : Int32)).2 = t9 := ⟨_, rfl⟩
    rw [hτc_20] at hP hD hI_19
    (try rw [hτc_20] at hR)
    obtain ⟨vc_21, hvc_21⟩ : ∃ t9, (s_X8_refuse σ (-1 : Int32)).1 = t9 := ⟨_, rfl⟩
    rw [hvc_21]
    (try rw [hvc_21] at hR)
    have hI9 : IX τc_20 := hI_19
    obtain ⟨rfl, rfl⟩ := Prod.mk.inj (show (vc_21, τc_20) = (R1, R2) from hR)
    rw [hQ]
    exact W.iret (v := vc_21) hx hb hr (fun t ht hW => ⟨⟨vc_21, (), rfl, rfl, ⟨by rw [ht]; exact hP, va_K.moved hW.alike hK, by rw [← hAe]; exact hD⟩, hI9⟩, hS.F ht⟩) hS.2.2 dX8_cut_13

def s_X8_pound (σ : St) (a1 : Int32) : Int32 × St := (if (s_X8_isHerd σ a1) = (0 : Int32) then (((s_X8_refuse σ (-1 : Int32)).1), ((s_X8_refuse σ (-1 : Int32)).2)) else (if (σ 203 (a1.toNatClampNeg)) = (-1 : Int32) then (((s_X8_refuse σ (-3 : Int32)).1), ((s_X8_refuse σ (-3 : Int32)).2)) else (if ((s_X8_lackOf σ (σ 200 (a1.toNatClampNeg))).1) = (0 : Int32) then (((s_X8_refuse ((s_X8_lackOf σ (σ 200 (a1.toNatClampNeg))).2) (-3 : Int32)).1), ((s_X8_refuse ((s_X8_lackOf σ (σ 200 (a1.toNatClampNeg))).2) (-3 : Int32)).2)) else ((1 : Int32), (put (put (put ((s_X8_lackOf σ (σ 200 (a1.toNatClampNeg))).2) 203 (a1.toNatClampNeg) (-1 : Int32)) 206 (a1.toNatClampNeg) (1 : Int32)) 207 (a1.toNatClampNeg) (((s_X8_lackOf σ (σ 200 (a1.toNatClampNeg))).2) 816 0))))))
theorem fr_s_X8_pound (σ : St) (a1 : Int32) {f : Nat} (h100 : f ≠ 100) (h101 : f ≠ 101) (h102 : f ≠ 102) (h103 : f ≠ 103) (h104 : f ≠ 104) (h203 : f ≠ 203) (h206 : f ≠ 206) (h207 : f ≠ 207) (h810 : f ≠ 810) : (s_X8_pound σ a1 ).2 f = σ f := by
  unfold s_X8_pound
  all_goals ((try dsimp only) <;> ((repeat' split) <;> (try simp only [put_fr, ne_eq, not_false_eq_true, h100, h101, h102, h103, h104, h203, h206, h207, h810, fr_s_X8_refuse, fr_s_X8_lackOf])))
set_option maxHeartbeats 1000000 in
set_option maxRecDepth 100000 in
theorem k_X8_pound (l : Launch) (D : va_G) (ca : Nat → ClassId) (h : Nat) (ad : Nat → Nat) (pa : Nat → Nat → Nat) (tb : Nat) (σ : St) (a1 : Int32) (sz : Nat) (hI : IX σ)  (R1 : Int32) (R2 : St) (hR : s_X8_pound σ a1 = (R1, R2)) : Met l yX8_pound wsX8_pound ({ frames := 4, cells := 0, slots := 0, locals := 87 }) (va_Pc [.ref h, .int a1] (cw_pre D ca (WC ca h ad pa σ) sz tb)) (va_Qi (fun (r : Int32) (_ : Unit) => r = R1) (fun (_ : Unit) (t : State) => pw_post D ca (WC ca h ad pa σ) sz (WC ca h ad pa R2) t ∧ IX R2) (va_A (WC ca h ad pa σ) sz)) 0 0 (va_A (WC ca h ad pa σ) sz) := by
  refine Met.ofW (cc := cX8_pound) (maxL := 3) (ret := (some .int)) (by decide) rfl ?_
  intro p e s m args below meth c s₁ B hml hv
  obtain ⟨rfl, ⟨hsz, hP, hK, hD0⟩, hZ⟩ := hv
  have hx := B.exec
  have hb := B.bytes
  have hr := B.returns
  have hts := atoms_spec (ws := wsX8_pound) B.pre
  have hown : s.vm.findClass RX8 = some m.cls := findClass_of_methodNamed B.named
  have hlocks := B.notSynchronized
  have hu2 : ∀ w ∈ u_ws RX2 TX2 8, w ∈ wsX8_pound := fun w h => List.mem_cons_of_mem _ (uw2 w h)
  have hu8 : ∀ w ∈ u_ws RX8 TX8 19, w ∈ wsX8_pound := fun w h => List.mem_cons_of_mem _ (uw8 w h)
  subst hsz
  have hD := hD0.self (sz := s.heap.size)
  obtain ⟨A, hAe⟩ : ∃ A, A = va_A (WC ca h ad pa σ) s.heap.size := ⟨_, rfl⟩
  rw [← hAe] at hD hZ ⊢
  have hA : ∀ q : Nat, s.heap.size ≤ q → A q := fun q h => by rw [hAe]; exact Or.inr h
  have hS : va_S A s.heap s.heap [] := va_S.rf
  have hl := lv_entry ([.ref h, .int a1]) (n := 3) (Nat.le_of_ble_eq_true rfl)
  rw [lg_entry_eq]
  generalize (lg_sl ([.ref h, .int a1]) ++ List.replicate (3 - (lg_sl ([.ref h, .int a1])).length) Slot.unset).toArray = ls at hl ⊢
  have hl : lv_has ls 3 [(0, .ref h), (1, .int a1)] := hl
  obtain ⟨H, hH⟩ : ∃ H, H = s.heap := ⟨_, rfl⟩
  have hP : va_P D vwCl (WC ca h ad pa σ) H := by rw [hH]; exact hP
  have hS : va_S A s.heap H [] := by rw [hH]; exact hS
  obtain ⟨QQ, hQ⟩ : ∃ Q9, Q9 = MQ below (va_Qi (fun (r : Int32) (_ : Unit) => r = R1) (fun (_ : Unit) (t : State) => pw_post D ca (WC ca h ad pa σ) s.heap.size (WC ca h ad pa R2) t ∧ IX R2) A) ([.ref h, .int a1] : List Value).toArray s 0 0 A := ⟨_, rfl⟩
  rw [← hQ]
  show W _ _ _ _ _ _ _ _ _ _ s.heap _ _ _ _ _
  rw [← hH]
  have hR : (if (s_X8_isHerd σ a1) = (0 : Int32) then (((s_X8_refuse σ (-1 : Int32)).1), ((s_X8_refuse σ (-1 : Int32)).2)) else (if (σ 203 (a1.toNatClampNeg)) = (-1 : Int32) then (((s_X8_refuse σ (-3 : Int32)).1), ((s_X8_refuse σ (-3 : Int32)).2)) else (if ((s_X8_lackOf σ (σ 200 (a1.toNatClampNeg))).1) = (0 : Int32) then (((s_X8_refuse ((s_X8_lackOf σ (σ 200 (a1.toNatClampNeg))).2) (-3 : Int32)).1), ((s_X8_refuse ((s_X8_lackOf σ (σ 200 (a1.toNatClampNeg))).2) (-3 : Int32)).2)) else ((1 : Int32), (put (put (put ((s_X8_lackOf σ (σ 200 (a1.toNatClampNeg))).2) 203 (a1.toNatClampNeg) (-1 : Int32)) 206 (a1.toNatClampNeg) (1 : Int32)) 207 (a1.toNatClampNeg) (((s_X8_lackOf σ (σ 200 (a1.toNatClampNeg))).2) 816 0)))))) = (R1, R2) := hR
  refine lv_aload_n hx hb dX8_pound_0 rfl (lv_at hl 0 rfl) ?_
  refine lv_iload_n hx hb dX8_pound_1 rfl (lv_at hl 1 rfl) ?_
  have hF := pw_free hD hS hA
  refine va_calli (va_runV (As := [.int a1]) (rest := []) ⟨hx, hb, hml, hown, hts⟩ (k_X8_isHerd l D ca h ad pa tb σ a1 H.size hI _ rfl) (cwV 1 hts gX8_pound_X8_isHerd rfl rfl rfl (by decide +kernel) ⟨Nat.le_of_ble_eq_true rfl, Nat.le_of_ble_eq_true rfl⟩) ⟨cw_blind, va_recv hK hP (ci := 8) (q0 := 0) rfl wc_0, cw_give hP hK hD hZ hS hF⟩ rfl rfl hl.1 rfl (lv_room (Nat.le_of_ble_eq_true rfl)) dX8_pound_2 ⟨Nat.le_of_ble_eq_true rfl, Nat.le_of_ble_eq_true rfl⟩) hS (fun q _ h => hF q h) hF (fun r_1 u t H1 locs ht hvm hw hB hz1 hk1 hS => ?_)
  rw [hw]
  obtain ⟨hP, hD⟩ := pw_back hF ht hB
  clear hB hk1 hz1 hF
  generalize H1 = H at hP hS ⊢
  refine lv_if_ne (tgt := 14) hx hb dX8_pound_5 (by decide) (fun c_2 => ?_) (fun c_2 => ?_)
  · have hR := (if_neg c_2).symm.trans hR
    refine lv_aload_n hx hb dX8_pound_14 rfl (lv_at hl 0 rfl) ?_
    refine va_get (D := D) (ci := 8) (v := .ref (ad 805)) (C := RX8) (T := TX8) (N := 19) hx hb hts hu8 hown hK hP 0 wc_0 rfl 5 (by decide) (hts (.fieldLink RX8 40 "GrazeBook" "herds" "[LGrazeBook$Drove;") (List.mem_cons_of_mem _ mw_215)) (fun _ h9 => h9) rfl dX8_pound_15 ?_
    refine lv_iload_n hx hb dX8_pound_18 rfl (lv_at hl 1 rfl) ?_
    refine va_aldq_k (k := (a1.toNatClampNeg)) (b := pa 3 (a1.toNatClampNeg)) hx hb hK hP 9 5 wc_9 rfl rfl (rf_at (isb_Herd c_2)) (isx_Herd c_2 hI) dX8_pound_19 ?_
    refine lv_astore_n (lv' := [(2, .ref (pa 3 (a1.toNatClampNeg))), (0, .ref h), (1, .int a1)]) hx hb dX8_pound_20 rfl hl (by decide) rfl (fun ls hl => ?_)
    refine lv_aload_n hx hb dX8_pound_21 rfl (lv_at hl 0 rfl) ?_
    refine va_get (D := D) (ci := 2) (v := .int (σ 203 (a1.toNatClampNeg))) (C := RX2) (T := TX2) (N := 8) hx hb hts hu2 hown hK hP (pcD ca h ad pa σ (a1.toNatClampNeg)) (wc_aD (isb_Herd c_2)) rfl 3 (by decide) (hts (.fieldLink RX8 163 "GrazeBook$Drove" "piece" "I") (List.mem_cons_of_mem _ mw_451)) (fun _ h9 => h9) rfl dX8_pound_22 ?_
    refine lv_iconst (v := (-1 : Int32)) hx hb dX8_pound_25 (by decide) ?_
    refine lv_icmp_eq (tgt := 40) hx hb dX8_pound_26 (by decide) (fun c_3 => ?_) (fun c_3 => ?_)
    · have hR := (if_pos c_3).symm.trans hR
      refine lv_aload_n hx hb dX8_pound_40 rfl (lv_at hl 1 rfl) ?_
      refine lv_bipush (v := (-3 : Int32)) hx hb dX8_pound_41 (by decide) ?_
      have hF := pw_free hD hS hA
      refine va_calli (va_runV (As := [.int (-3 : Int32)]) (rest := []) ⟨hx, hb, hml, hown, hts⟩ (k_X8_refuse l D ca h ad pa tb σ (-3 : Int32) H.size hI _ _ (Prod.eta _).symm) (cwV 1 hts gX8_pound_X8_refuse rfl rfl rfl (by decide +kernel) ⟨Nat.le_of_ble_eq_true rfl, Nat.le_of_ble_eq_true rfl⟩) ⟨cw_blind, va_recv hK hP (ci := 8) (q0 := 0) rfl wc_0, cw_give hP hK hD hZ hS hF⟩ rfl rfl hl.1 rfl (lv_room (Nat.le_of_ble_eq_true rfl)) dX8_pound_43 ⟨Nat.le_of_ble_eq_true rfl, Nat.le_of_ble_eq_true rfl⟩) hS (fun q _ h => hF q h) hF (fun r_4 u t H1 locs ht hvm hw hB hz1 hk1 hS => ?_)
      rw [hw]
      obtain ⟨hB, hI_5⟩ := hB
      obtain ⟨hP, hD⟩ := pw_back hF ht hB
      clear hB hk1 hz1 hF
      generalize H1 = H at hP hS ⊢
      obtain ⟨τc_6, hτc_6⟩ : ∃ t9, (s_X8_refuse σ (-3 : Int32)).2 = t9 := ⟨_, rfl⟩
      rw [hτc_6] at hP hD hI_5
      (try rw [hτc_6] at hR)
      obtain ⟨vc_7, hvc_7⟩ : ∃ t9, (s_X8_refuse σ (-3 : Int32)).1 = t9 := ⟨_, rfl⟩
      rw [hvc_7]
      (try rw [hvc_7] at hR)
      have hI9 : IX τc_6 := hI_5
      obtain ⟨rfl, rfl⟩ := Prod.mk.inj (show (vc_7, τc_6) = (R1, R2) from hR)
      rw [hQ]
      exact W.iret (v := vc_7) hx hb hr (fun t ht hW => ⟨⟨vc_7, (), rfl, rfl, ⟨by rw [ht]; exact hP, va_K.moved hW.alike hK, by rw [← hAe]; exact hD⟩, hI9⟩, hS.F ht⟩) hS.2.2 dX8_pound_46
    · have hR := (if_neg c_3).symm.trans hR
      refine lv_aload_n hx hb dX8_pound_29 rfl (lv_at hl 1 rfl) ?_
      refine lv_aload_n hx hb dX8_pound_30 rfl (lv_at hl 0 rfl) ?_
      refine va_get (D := D) (ci := 2) (v := .int (σ 200 (a1.toNatClampNeg))) (C := RX2) (T := TX2) (N := 8) hx hb hts hu2 hown hK hP (pcD ca h ad pa σ (a1.toNatClampNeg)) (wc_aD (isb_Herd c_2)) rfl 0 (by decide) (hts (.fieldLink RX8 169 "GrazeBook$Drove" "owner" "I") (List.mem_cons_of_mem _ mw_441)) (fun _ h9 => h9) rfl dX8_pound_31 ?_
      have hF := pw_free hD hS hA
      refine va_calli (va_runV (As := [.int (σ 200 (a1.toNatClampNeg))]) (rest := []) ⟨hx, hb, hml, hown, hts⟩ (k_X8_lackOf l D ca h ad pa tb σ (σ 200 (a1.toNatClampNeg)) H.size hI _ _ (Prod.eta _).symm) (cwV 1 hts gX8_pound_X8_lackOf rfl rfl rfl (by decide +kernel) ⟨Nat.le_of_ble_eq_true rfl, Nat.le_of_ble_eq_true rfl⟩) ⟨cw_blind, va_recv hK hP (ci := 8) (q0 := 0) rfl wc_0, cw_give hP hK hD hZ hS hF⟩ rfl rfl hl.1 rfl (lv_room (Nat.le_of_ble_eq_true rfl)) dX8_pound_34 ⟨Nat.le_of_ble_eq_true rfl, Nat.le_of_ble_eq_true rfl⟩) hS (fun q _ h => hF q h) hF (fun r_8 u t H1 locs ht hvm hw hB hz1 hk1 hS => ?_)
      rw [hw]
      obtain ⟨hB, hI_9⟩ := hB
      obtain ⟨hP, hD⟩ := pw_back hF ht hB
      clear hB hk1 hz1 hF
      generalize H1 = H at hP hS ⊢
      obtain ⟨τc_10, hτc_10⟩ : ∃ t9, (s_X8_lackOf σ (σ 200 (a1.toNatClampNeg))).2 = t9 := ⟨_, rfl⟩
      rw [hτc_10] at hP hD hI_9
      (try rw [hτc_10] at hR)
      obtain ⟨vc_11, hvc_11⟩ : ∃ t9, (s_X8_lackOf σ (σ 200 (a1.toNatClampNeg))).1 = t9 := ⟨_, rfl⟩
      rw [hvc_11]
      (try rw [hvc_11] at hR)
      refine lv_if_ne (tgt := 47) hx hb dX8_pound_37 (by decide) (fun c_12 => ?_) (fun c_12 => ?_)
      · have hR := (if_neg c_12).symm.trans hR
        refine lv_aload_n hx hb dX8_pound_47 rfl (lv_at hl 0 rfl) ?_
        refine lv_iconst (v := (-1 : Int32)) hx hb dX8_pound_48 (by decide) ?_
        refine va_put (D := D) (ci := 2) (v := .int (-1 : Int32)) (ty := .int) (C := RX2) (T := TX2) (N := 8) hx hb hts hu2 tyX2 tyX2_ok nmX2 hown hK hP hD hS (pcD ca h ad pa τc_10 (a1.toNatClampNeg)) (wc_aD (cnt_cast (congrFun ((show τc_10 815 = σ 815 by rw [← hτc_10]; exact fr_s_X8_lackOf σ (σ 200 (a1.toNatClampNeg)) (f := 815) (by decide) (by decide) (by decide) (by decide) (by decide)).trans rfl) 0) (isb_Herd c_2))) rfl 3 (by decide) (hts (.fieldLink RX8 163 "GrazeBook$Drove" "piece" "I") (List.mem_cons_of_mem _ mw_451)) (fun _ h9 => h9) rfl (by decide +kernel) rfl rfl (Nat.le_of_ble_eq_true rfl) dX8_pound_49 (fun H locs hP hD hS => ?_)
        rw [wc_sD3 (σ := τc_10) (cnt_cast (congrFun ((show τc_10 815 = σ 815 by rw [← hτc_10]; exact fr_s_X8_lackOf σ (σ 200 (a1.toNatClampNeg)) (f := 815) (by decide) (by decide) (by decide) (by decide) (by decide)).trans rfl) 0) (isb_Herd c_2))] at hP hD
        refine lv_aload_n hx hb dX8_pound_52 rfl (lv_at hl 0 rfl) ?_
        refine lv_iconst (v := (1 : Int32)) hx hb dX8_pound_53 (by decide) ?_
        refine va_put (D := D) (ci := 2) (v := .int (1 : Int32)) (ty := .int) (C := RX2) (T := TX2) (N := 8) hx hb hts hu2 tyX2 tyX2_ok nmX2 hown hK hP hD hS (pcD ca h ad pa (put τc_10 203 (a1.toNatClampNeg) (-1 : Int32)) (a1.toNatClampNeg)) (wc_aD (cnt_cast (congrFun ((show τc_10 815 = σ 815 by rw [← hτc_10]; exact fr_s_X8_lackOf σ (σ 200 (a1.toNatClampNeg)) (f := 815) (by decide) (by decide) (by decide) (by decide) (by decide)).trans rfl) 0) (isb_Herd c_2))) rfl 6 (by decide) (hts (.fieldLink RX8 160 "GrazeBook$Drove" "state" "I") (List.mem_cons_of_mem _ mw_457)) (fun _ h9 => h9) rfl (by decide +kernel) rfl rfl (Nat.le_of_ble_eq_true rfl) dX8_pound_54 (fun H locs hP hD hS => ?_)
        rw [wc_sD6 (σ := (put τc_10 203 (a1.toNatClampNeg) (-1 : Int32))) (cnt_cast (congrFun ((show τc_10 815 = σ 815 by rw [← hτc_10]; exact fr_s_X8_lackOf σ (σ 200 (a1.toNatClampNeg)) (f := 815) (by decide) (by decide) (by decide) (by decide) (by decide)).trans rfl) 0) (isb_Herd c_2))] at hP hD
        refine lv_aload_n hx hb dX8_pound_57 rfl (lv_at hl 0 rfl) ?_
        refine lv_aload_n hx hb dX8_pound_58 rfl (lv_at hl 1 rfl) ?_
        refine va_get (D := D) (ci := 8) (v := .int (τc_10 816 0)) (C := RX8) (T := TX8) (N := 19) hx hb hts hu8 hown hK hP 0 wc_0 rfl 16 (by decide) (hts (.fieldLink RX8 91 "GrazeBook" "day" "I") (List.mem_cons_of_mem _ mw_226)) (fun _ h9 => h9) rfl dX8_pound_59 ?_
        refine va_put (D := D) (ci := 2) (v := .int (τc_10 816 0)) (ty := .int) (C := RX2) (T := TX2) (N := 8) hx hb hts hu2 tyX2 tyX2_ok nmX2 hown hK hP hD hS (pcD ca h ad pa (put (put τc_10 203 (a1.toNatClampNeg) (-1 : Int32)) 206 (a1.toNatClampNeg) (1 : Int32)) (a1.toNatClampNeg)) (wc_aD (cnt_cast (congrFun ((show τc_10 815 = σ 815 by rw [← hτc_10]; exact fr_s_X8_lackOf σ (σ 200 (a1.toNatClampNeg)) (f := 815) (by decide) (by decide) (by decide) (by decide) (by decide)).trans rfl) 0) (isb_Herd c_2))) rfl 7 (by decide) (hts (.fieldLink RX8 222 "GrazeBook$Drove" "poundedOn" "I") (List.mem_cons_of_mem _ mw_459)) (fun _ h9 => h9) rfl (by decide +kernel) rfl rfl (Nat.le_of_ble_eq_true rfl) dX8_pound_62 (fun H locs hP hD hS => ?_)
        rw [wc_sD7 (σ := (put (put τc_10 203 (a1.toNatClampNeg) (-1 : Int32)) 206 (a1.toNatClampNeg) (1 : Int32))) (cnt_cast (congrFun ((show τc_10 815 = σ 815 by rw [← hτc_10]; exact fr_s_X8_lackOf σ (σ 200 (a1.toNatClampNeg)) (f := 815) (by decide) (by decide) (by decide) (by decide) (by decide)).trans rfl) 0) (isb_Herd c_2))] at hP hD
        refine lv_iconst (v := (1 : Int32)) hx hb dX8_pound_65 (by decide) ?_
        have hI9 : IX (put (put (put τc_10 203 (a1.toNatClampNeg) (-1 : Int32)) 206 (a1.toNatClampNeg) (1 : Int32)) 207 (a1.toNatClampNeg) (τc_10 816 0)) := hI_9
        obtain ⟨rfl, rfl⟩ := Prod.mk.inj (show ((1 : Int32), (put (put (put τc_10 203 (a1.toNatClampNeg) (-1 : Int32)) 206 (a1.toNatClampNeg) (1 : Int32)) 207 (a1.toNatClampNeg) (τc_10 816 0))) = (R1, R2) from hR)
        rw [hQ]
        exact W.iret (v := (1 : Int32)) hx hb hr (fun t ht hW => ⟨⟨(1 : Int32), (), rfl, rfl, ⟨by rw [ht]; exact hP, va_K.moved hW.alike hK, by rw [← hAe]; exact hD⟩, hI9⟩, hS.F ht⟩) hS.2.2 dX8_pound_66
      · have hR := (if_pos c_12).symm.trans hR
        refine lv_aload_n hx hb dX8_pound_40 rfl (lv_at hl 1 rfl) ?_
        refine lv_bipush (v := (-3 : Int32)) hx hb dX8_pound_41 (by decide) ?_
        have hF := pw_free hD hS hA
        refine va_calli (va_runV (As := [.int (-3 : Int32)]) (rest := []) ⟨hx, hb, hml, hown, hts⟩ (k_X8_refuse l D ca h ad pa tb τc_10 (-3 : Int32) H.size hI_9 _ _ (Prod.eta _).symm) (cwV 1 hts gX8_pound_X8_refuse rfl rfl rfl (by decide +kernel) ⟨Nat.le_of_ble_eq_true rfl, Nat.le_of_ble_eq_true rfl⟩) ⟨cw_blind, va_recv hK hP (ci := 8) (q0 := 0) rfl wc_0, cw_give hP hK hD hZ hS hF⟩ rfl rfl hl.1 rfl (lv_room (Nat.le_of_ble_eq_true rfl)) dX8_pound_43 ⟨Nat.le_of_ble_eq_true rfl, Nat.le_of_ble_eq_true rfl⟩) hS (fun q _ h => hF q h) hF (fun r_13 u t H1 locs ht hvm hw hB hz1 hk1 hS => ?_)
        rw [hw]
        obtain ⟨hB, hI_14⟩ := hB
        obtain ⟨hP, hD⟩ := pw_back hF ht hB
        clear hB hk1 hz1 hF
        generalize H1 = H at hP hS ⊢
        obtain ⟨τc_15, hτc_15⟩ : ∃ t9, (s_X8_refuse τc_10 (-3 : Int32)).2 = t9 := ⟨_, rfl⟩
        rw [hτc_15] at hP hD hI_14
        (try rw [hτc_15] at hR)
        obtain ⟨vc_16, hvc_16⟩ : ∃ t9, (s_X8_refuse τc_10 (-3 : Int32)).1 = t9 := ⟨_, rfl⟩
        rw [hvc_16]
        (try rw [hvc_16] at hR)
        have hI9 : IX τc_15 := hI_14
        obtain ⟨rfl, rfl⟩ := Prod.mk.inj (show (vc_16, τc_15) = (R1, R2) from hR)
        rw [hQ]
        exact W.iret (v := vc_16) hx hb hr (fun t ht hW => ⟨⟨vc_16, (), rfl, rfl, ⟨by rw [ht]; exact hP, va_K.moved hW.alike hK, by rw [← hAe]; exact hD⟩, hI9⟩, hS.F ht⟩) hS.2.2 dX8_pound_46
  · have hR := (if_pos c_2).symm.trans hR
    refine lv_aload_n hx hb dX8_pound_8 rfl (lv_at hl 0 rfl) ?_
    refine lv_iconst (v := (-1 : Int32)) hx hb dX8_pound_9 (by decide) ?_
    have hF := pw_free hD hS hA
    refine va_calli (va_runV (As := [.int (-1 : Int32)]) (rest := []) ⟨hx, hb, hml, hown, hts⟩ (k_X8_refuse l D ca h ad pa tb σ (-1 : Int32) H.size hI _ _ (Prod.eta _).symm) (cwV 1 hts gX8_pound_X8_refuse rfl rfl rfl (by decide +kernel) ⟨Nat.le_of_ble_eq_true rfl, Nat.le_of_ble_eq_true rfl⟩) ⟨cw_blind, va_recv hK hP (ci := 8) (q0 := 0) rfl wc_0, cw_give hP hK hD hZ hS hF⟩ rfl rfl hl.1 rfl (lv_room (Nat.le_of_ble_eq_true rfl)) dX8_pound_10 ⟨Nat.le_of_ble_eq_true rfl, Nat.le_of_ble_eq_true rfl⟩) hS (fun q _ h => hF q h) hF (fun r_17 u t H1 locs ht hvm hw hB hz1 hk1 hS => ?_)
    rw [hw]
    obtain ⟨hB, hI_18⟩ := hB
    obtain ⟨hP, hD⟩ := pw_back hF ht hB
    clear hB hk1 hz1 hF
    generalize H1 = H at hP hS ⊢
    obtain ⟨τc_19, hτc_19⟩ : ∃ t9, (s_X8_refuse σ (-1 : Int32)).2 = t9 := ⟨_, rfl⟩
    rw [hτc_19] at hP hD hI_18
    (try rw [hτc_19] at hR)
    obtain ⟨vc_20, hvc_20⟩ : ∃ t9, (s_X8_refuse σ (-1 : Int32)).1 = t9 := ⟨_, rfl⟩
    rw [hvc_20]
    (try rw [hvc_20] at hR)
    have hI9 : IX τc_19 := hI_18
    obtain ⟨rfl, rfl⟩ := Prod.mk.inj (show (vc_20, τc_19) = (R1, R2) from hR)
    rw [hQ]
    exact W.iret (v := vc_20) hx hb hr (fun t ht hW => ⟨⟨vc_20, (), rfl, rfl, ⟨by rw [ht]; exact hP, va_K.moved hW.alike hK, by rw [← hAe]; exact hD⟩, hI9⟩, hS.F ht⟩) hS.2.2 dX8_pound_13

def s_X8_free (σ : St) (a1 : Int32) : Int32 × St := (if (s_X8_isHerd σ a1) = (0 : Int32) then (((s_X8_refuse σ (-1 : Int32)).1), ((s_X8_refuse σ (-1 : Int32)).2)) else (if (σ 206 (a1.toNatClampNeg)) = (1 : Int32) then (if (s_X2_fee σ (a1.toNatClampNeg) (σ 816 0)) ≤ (σ 500 ((σ 200 (a1.toNatClampNeg)).toNatClampNeg)) then ((s_X2_fee σ (a1.toNatClampNeg) (σ 816 0)), (put (put (put σ 500 ((σ 200 (a1.toNatClampNeg)).toNatClampNeg) ((σ 500 ((σ 200 (a1.toNatClampNeg)).toNatClampNeg)) - (s_X2_fee σ (a1.toNatClampNeg) (σ 816 0)))) 590 0 ((σ 590 0) + (s_X2_fee σ (a1.toNatClampNeg) (σ 816 0)))) 206 (a1.toNatClampNeg) (0 : Int32))) else (((s_X8_refuse σ (-5 : Int32)).1), ((s_X8_refuse σ (-5 : Int32)).2))) else (((s_X8_refuse σ (-3 : Int32)).1), ((s_X8_refuse σ (-3 : Int32)).2))))
theorem fr_s_X8_free (σ : St) (a1 : Int32) {f : Nat} (h206 : f ≠ 206) (h500 : f ≠ 500) (h590 : f ≠ 590) (h810 : f ≠ 810) : (s_X8_free σ a1 ).2 f = σ f := by
  unfold s_X8_free
  all_goals ((try dsimp only) <;> ((repeat' split) <;> (try simp only [put_fr, ne_eq, not_false_eq_true, h206, h500, h590, h810, fr_s_X8_refuse])))
set_option maxHeartbeats 1000000 in
set_option maxRecDepth 100000 in
theorem k_X8_free (l : Launch) (D : va_G) (ca : Nat → ClassId) (h : Nat) (ad : Nat → Nat) (pa : Nat → Nat → Nat) (tb : Nat) (σ : St) (a1 : Int32) (sz : Nat) (hI : IX σ)  (R1 : Int32) (R2 : St) (hR : s_X8_free σ a1 = (R1, R2)) : Met l yX8_free wsX8_free ({ frames := 2, cells := 0, slots := 0, locals := 42 }) (va_Pc [.ref h, .int a1] (cw_pre D ca (WC ca h ad pa σ) sz tb)) (va_Qi (fun (r : Int32) (_ : Unit) => r = R1) (fun (_ : Unit) (t : State) => pw_post D ca (WC ca h ad pa σ) sz (WC ca h ad pa R2) t ∧ IX R2) (va_A (WC ca h ad pa σ) sz)) 0 0 (va_A (WC ca h ad pa σ) sz) := by
  refine Met.ofW (cc := cX8_free) (maxL := 5) (ret := (some .int)) (by decide) rfl ?_
  intro p e s m args below meth c s₁ B hml hv
  obtain ⟨rfl, ⟨hsz, hP, hK, hD0⟩, hZ⟩ := hv
  have hx := B.exec
  have hb := B.bytes
  have hr := B.returns
  have hts := atoms_spec (ws := wsX8_free) B.pre
  have hown : s.vm.findClass RX8 = some m.cls := findClass_of_methodNamed B.named
  have hlocks := B.notSynchronized
  have hu2 : ∀ w ∈ u_ws RX2 TX2 8, w ∈ wsX8_free := fun w h => List.mem_cons_of_mem _ (uw2 w h)
  have hu5 : ∀ w ∈ u_ws RX5 TX5 2, w ∈ wsX8_free := fun w h => List.mem_cons_of_mem _ (uw5 w h)
  have hu8 : ∀ w ∈ u_ws RX8 TX8 19, w ∈ wsX8_free := fun w h => List.mem_cons_of_mem _ (uw8 w h)
  subst hsz
  have hD := hD0.self (sz := s.heap.size)
  obtain ⟨A, hAe⟩ : ∃ A, A = va_A (WC ca h ad pa σ) s.heap.size := ⟨_, rfl⟩
  rw [← hAe] at hD hZ ⊢
  have hA : ∀ q : Nat, s.heap.size ≤ q → A q := fun q h => by rw [hAe]; exact Or.inr h
  have hS : va_S A s.heap s.heap [] := va_S.rf
  have hl := lv_entry ([.ref h, .int a1]) (n := 5) (Nat.le_of_ble_eq_true rfl)
  rw [lg_entry_eq]
  generalize (lg_sl ([.ref h, .int a1]) ++ List.replicate (5 - (lg_sl ([.ref h, .int a1])).length) Slot.unset).toArray = ls at hl ⊢
  have hl : lv_has ls 5 [(0, .ref h), (1, .int a1)] := hl
  obtain ⟨H, hH⟩ : ∃ H, H = s.heap := ⟨_, rfl⟩
  have hP : va_P D vwCl (WC ca h ad pa σ) H := by rw [hH]; exact hP
  have hS : va_S A s.heap H [] := by rw [hH]; exact hS
  obtain ⟨QQ, hQ⟩ : ∃ Q9, Q9 = MQ below (va_Qi (fun (r : Int32) (_ : Unit) => r = R1) (fun (_ : Unit) (t : State) => pw_post D ca (WC ca h ad pa σ) s.heap.size (WC ca h ad pa R2) t ∧ IX R2) A) ([.ref h, .int a1] : List Value).toArray s 0 0 A := ⟨_, rfl⟩
  rw [← hQ]
  show W _ _ _ _ _ _ _ _ _ _ s.heap _ _ _ _ _
  rw [← hH]
  have hR : (if (s_X8_isHerd σ a1) = (0 : Int32) then (((s_X8_refuse σ (-1 : Int32)).1), ((s_X8_refuse σ (-1 : Int32)).2)) else (if (σ 206 (a1.toNatClampNeg)) = (1 : Int32) then (if (s_X2_fee σ (a1.toNatClampNeg) (σ 816 0)) ≤ (σ 500 ((σ 200 (a1.toNatClampNeg)).toNatClampNeg)) then ((s_X2_fee σ (a1.toNatClampNeg) (σ 816 0)), (put (put (put σ 500 ((σ 200 (a1.toNatClampNeg)).toNatClampNeg) ((σ 500 ((σ 200 (a1.toNatClampNeg)).toNatClampNeg)) - (s_X2_fee σ (a1.toNatClampNeg) (σ 816 0)))) 590 0 ((σ 590 0) + (s_X2_fee σ (a1.toNatClampNeg) (σ 816 0)))) 206 (a1.toNatClampNeg) (0 : Int32))) else (((s_X8_refuse σ (-5 : Int32)).1), ((s_X8_refuse σ (-5 : Int32)).2))) else (((s_X8_refuse σ (-3 : Int32)).1), ((s_X8_refuse σ (-3 : Int32)).2)))) = (R1, R2) := hR
  refine lv_aload_n hx hb dX8_free_0 rfl (lv_at hl 0 rfl) ?_
  refine lv_iload_n hx hb dX8_free_1 rfl (lv_at hl 1 rfl) ?_
  have hF := pw_free hD hS hA
  refine va_calli (va_runV (As := [.int a1]) (rest := []) ⟨hx, hb, hml, hown, hts⟩ (k_X8_isHerd l D ca h ad pa tb σ a1 H.size hI _ rfl) (cwV 1 hts gX8_free_X8_isHerd rfl rfl rfl (by decide +kernel) ⟨Nat.le_of_ble_eq_true rfl, Nat.le_of_ble_eq_true rfl⟩) ⟨cw_blind, va_recv hK hP (ci := 8) (q0 := 0) rfl wc_0, cw_give hP hK hD hZ hS hF⟩ rfl rfl hl.1 rfl (lv_room (Nat.le_of_ble_eq_true rfl)) dX8_free_2 ⟨Nat.le_of_ble_eq_true rfl, Nat.le_of_ble_eq_true rfl⟩) hS (fun q _ h => hF q h) hF (fun r_1 u t H1 locs ht hvm hw hB hz1 hk1 hS => ?_)
  rw [hw]
  obtain ⟨hP, hD⟩ := pw_back hF ht hB
  clear hB hk1 hz1 hF
  generalize H1 = H at hP hS ⊢
  refine lv_if_ne (tgt := 14) hx hb dX8_free_5 (by decide) (fun c_2 => ?_) (fun c_2 => ?_)
  · have hR := (if_neg c_2).symm.trans hR
    refine lv_aload_n hx hb dX8_free_14 rfl (lv_at hl 0 rfl) ?_
    refine va_get (D := D) (ci := 8) (v := .ref (ad 805)) (C := RX8) (T := TX8) (N := 19) hx hb hts hu8 hown hK hP 0 wc_0 rfl 5 (by decide) (hts (.fieldLink RX8 40 "GrazeBook" "herds" "[LGrazeBook$Drove;") (List.mem_cons_of_mem _ mw_215)) (fun _ h9 => h9) rfl dX8_free_15 ?_
    refine lv_iload_n hx hb dX8_free_18 rfl (lv_at hl 1 rfl) ?_
    refine va_aldq_k (k := (a1.toNatClampNeg)) (b := pa 3 (a1.toNatClampNeg)) hx hb hK hP 9 5 wc_9 rfl rfl (rf_at (isb_Herd c_2)) (isx_Herd c_2 hI) dX8_free_19 ?_
    refine lv_astore_n (lv' := [(2, .ref (pa 3 (a1.toNatClampNeg))), (0, .ref h), (1, .int a1)]) hx hb dX8_free_20 rfl hl (by decide) rfl (fun ls hl => ?_)
    refine lv_aload_n hx hb dX8_free_21 rfl (lv_at hl 0 rfl) ?_
    refine va_get (D := D) (ci := 2) (v := .int (σ 206 (a1.toNatClampNeg))) (C := RX2) (T := TX2) (N := 8) hx hb hts hu2 hown hK hP (pcD ca h ad pa σ (a1.toNatClampNeg)) (wc_aD (isb_Herd c_2)) rfl 6 (by decide) (hts (.fieldLink RX8 160 "GrazeBook$Drove" "state" "I") (List.mem_cons_of_mem _ mw_457)) (fun _ h9 => h9) rfl dX8_free_22 ?_
    refine lv_iconst (v := (1 : Int32)) hx hb dX8_free_25 (by decide) ?_
    refine lv_icmp_eq (tgt := 36) hx hb dX8_free_26 (by decide) (fun c_3 => ?_) (fun c_3 => ?_)
    · have hR := (if_pos c_3).symm.trans hR
      refine lv_aload_n hx hb dX8_free_36 rfl (lv_at hl 0 rfl) ?_
      refine lv_aload_n hx hb dX8_free_37 rfl (lv_at hl 1 rfl) ?_
      refine va_get (D := D) (ci := 8) (v := .int (σ 816 0)) (C := RX8) (T := TX8) (N := 19) hx hb hts hu8 hown hK hP 0 wc_0 rfl 16 (by decide) (hts (.fieldLink RX8 91 "GrazeBook" "day" "I") (List.mem_cons_of_mem _ mw_226)) (fun _ h9 => h9) rfl dX8_free_38 ?_
      have hF := pw_free hD hS hA
      refine va_calli (va_runV (As := [.int (σ 816 0)]) (rest := []) ⟨hx, hb, hml, hown, hts⟩ (k_X2_fee l D ca h ad pa tb σ (a1.toNatClampNeg) (σ 816 0) H.size hI (isb_Herd c_2) _ rfl) (cwV 1 hts gX8_free_X2_fee rfl rfl rfl (by decide +kernel) ⟨Nat.le_of_ble_eq_true rfl, Nat.le_of_ble_eq_true rfl⟩) ⟨cw_blind, va_recv hK hP (ci := 2) (q0 := (pcD ca h ad pa σ (a1.toNatClampNeg))) rfl (wc_aD (isb_Herd c_2)), cw_give hP hK hD hZ hS hF⟩ rfl rfl hl.1 rfl (lv_room (Nat.le_of_ble_eq_true rfl)) dX8_free_41 ⟨Nat.le_of_ble_eq_true rfl, Nat.le_of_ble_eq_true rfl⟩) hS (fun q _ h => hF q h) hF (fun r_4 u t H1 locs ht hvm hw hB hz1 hk1 hS => ?_)
      rw [hw]
      obtain ⟨hP, hD⟩ := pw_back hF ht hB
      clear hB hk1 hz1 hF
      generalize H1 = H at hP hS ⊢
      refine lv_istore_n (lv' := [(3, .int (s_X2_fee σ (a1.toNatClampNeg) (σ 816 0))), (2, .ref (pa 3 (a1.toNatClampNeg))), (0, .ref h), (1, .int a1)]) hx hb dX8_free_44 rfl hl (by decide) rfl (fun ls hl => ?_)
      refine lv_aload_n hx hb dX8_free_45 rfl (lv_at hl 2 rfl) ?_
      refine va_get (D := D) (ci := 8) (v := .ref (ad 801)) (C := RX8) (T := TX8) (N := 19) hx hb hts hu8 hown hK hP 0 wc_0 rfl 1 (by decide) (hts (.fieldLink RX8 17 "GrazeBook" "owners" "[LGrazeBook$Purse;") (List.mem_cons_of_mem _ mw_211)) (fun _ h9 => h9) rfl dX8_free_46 ?_
      refine lv_aload_n hx hb dX8_free_49 rfl (lv_at hl 1 rfl) ?_
      refine va_get (D := D) (ci := 2) (v := .int (σ 200 (a1.toNatClampNeg))) (C := RX2) (T := TX2) (N := 8) hx hb hts hu2 hown hK hP (pcD ca h ad pa σ (a1.toNatClampNeg)) (wc_aD (isb_Herd c_2)) rfl 0 (by decide) (hts (.fieldLink RX8 169 "GrazeBook$Drove" "owner" "I") (List.mem_cons_of_mem _ mw_441)) (fun _ h9 => h9) rfl dX8_free_50 ?_
      refine va_aldq_k (k := ((σ 200 (a1.toNatClampNeg)).toNatClampNeg)) (b := pa 1 ((σ 200 (a1.toNatClampNeg)).toNatClampNeg)) hx hb hK hP 7 3 wc_7 rfl rfl (rf_at (own_inb (ix_200 hI (isb_Herd c_2)))) (own_rng (ix_200 hI (isb_Herd c_2)) (ix_812 hI)) dX8_free_53 ?_
      refine lv_astore (lv' := [(4, .ref (pa 1 ((σ 200 (a1.toNatClampNeg)).toNatClampNeg))), (3, .int (s_X2_fee σ (a1.toNatClampNeg) (σ 816 0))), (2, .ref (pa 3 (a1.toNatClampNeg))), (0, .ref h), (1, .int a1)]) hx hb dX8_free_54 hl (by decide) rfl (fun ls hl => ?_)
      refine lv_aload hx hb dX8_free_56 (lv_at hl 0 rfl) ?_
      refine va_get (D := D) (ci := 5) (v := .int (σ 500 ((σ 200 (a1.toNatClampNeg)).toNatClampNeg))) (C := RX5) (T := TX5) (N := 2) hx hb hts hu5 hown hK hP (pcU ca h ad pa σ ((σ 200 (a1.toNatClampNeg)).toNatClampNeg)) (wc_aU (own_inb (ix_200 hI (isb_Herd c_2)))) rfl 0 (by decide) (hts (.fieldLink RX8 228 "GrazeBook$Purse" "coins" "I") (List.mem_cons_of_mem _ mw_88)) (fun _ h9 => h9) rfl dX8_free_58 ?_
      refine lv_iload_n hx hb dX8_free_61 rfl (lv_at hl 1 rfl) ?_
      refine lv_icmp_ge (tgt := 72) hx hb dX8_free_62 (by decide) (fun c_5 => ?_) (fun c_5 => ?_)
      · have hR := (if_pos c_5).symm.trans hR
        refine lv_aload hx hb dX8_free_72 (lv_at hl 0 rfl) ?_
        refine lv_dup hx hb dX8_free_74 rfl ?_
        refine va_get (D := D) (ci := 5) (v := .int (σ 500 ((σ 200 (a1.toNatClampNeg)).toNatClampNeg))) (C := RX5) (T := TX5) (N := 2) hx hb hts hu5 hown hK hP (pcU ca h ad pa σ ((σ 200 (a1.toNatClampNeg)).toNatClampNeg)) (wc_aU (own_inb (ix_200 hI (isb_Herd c_2)))) rfl 0 (by decide) (hts (.fieldLink RX8 228 "GrazeBook$Purse" "coins" "I") (List.mem_cons_of_mem _ mw_88)) (fun _ h9 => h9) rfl dX8_free_75 ?_
        refine lv_iload_n hx hb dX8_free_78 rfl (lv_at hl 1 rfl) ?_
        refine lv_isub hx hb dX8_free_79 ?_
        refine va_put (D := D) (ci := 5) (v := .int ((σ 500 ((σ 200 (a1.toNatClampNeg)).toNatClampNeg)) - (s_X2_fee σ (a1.toNatClampNeg) (σ 816 0)))) (ty := .int) (C := RX5) (T := TX5) (N := 2) hx hb hts hu5 tyX5 tyX5_ok nmX5 hown hK hP hD hS (pcU ca h ad pa σ ((σ 200 (a1.toNatClampNeg)).toNatClampNeg)) (wc_aU (own_inb (ix_200 hI (isb_Herd c_2)))) rfl 0 (by decide) (hts (.fieldLink RX8 228 "GrazeBook$Purse" "coins" "I") (List.mem_cons_of_mem _ mw_88)) (fun _ h9 => h9) rfl (by decide +kernel) rfl rfl (Nat.le_of_ble_eq_true rfl) dX8_free_80 (fun H locs hP hD hS => ?_)
        rw [wc_sU0 (σ := σ) (own_inb (ix_200 hI (isb_Herd c_2)))] at hP hD
        refine lv_aload_n hx hb dX8_free_83 rfl (lv_at hl 3 rfl) ?_
        refine va_get (D := D) (ci := 8) (v := .ref (ad 802)) (C := RX8) (T := TX8) (N := 19) hx hb hts hu8 hown hK hP 0 wc_0 rfl 2 (by decide) (hts (.fieldLink RX8 24 "GrazeBook" "reeve" "LGrazeBook$Purse;") (List.mem_cons_of_mem _ mw_212)) (fun _ h9 => h9) rfl dX8_free_84 ?_
        refine lv_dup hx hb dX8_free_87 rfl ?_
        refine va_get (D := D) (ci := 5) (v := .int (σ 590 0)) (C := RX5) (T := TX5) (N := 2) hx hb hts hu5 hown hK hP 1 wc_1 rfl 0 (by decide) (hts (.fieldLink RX8 228 "GrazeBook$Purse" "coins" "I") (List.mem_cons_of_mem _ mw_88)) (fun _ h9 => h9) rfl dX8_free_88 ?_
        refine lv_iload_n hx hb dX8_free_91 rfl (lv_at hl 1 rfl) ?_
        refine lv_iadd hx hb dX8_free_92 ?_
        refine va_put (D := D) (ci := 5) (v := .int ((σ 590 0) + (s_X2_fee σ (a1.toNatClampNeg) (σ 816 0)))) (ty := .int) (C := RX5) (T := TX5) (N := 2) hx hb hts hu5 tyX5 tyX5_ok nmX5 hown hK hP hD hS 1 wc_1 rfl 0 (by decide) (hts (.fieldLink RX8 228 "GrazeBook$Purse" "coins" "I") (List.mem_cons_of_mem _ mw_88)) (fun _ h9 => h9) rfl (by decide +kernel) rfl rfl (Nat.le_of_ble_eq_true rfl) dX8_free_93 (fun H locs hP hD hS => ?_)
        rw [wc_p590] at hP hD
        refine lv_aload_n hx hb dX8_free_96 rfl (lv_at hl 2 rfl) ?_
        refine lv_iconst (v := (0 : Int32)) hx hb dX8_free_97 (by decide) ?_
        refine va_put (D := D) (ci := 2) (v := .int (0 : Int32)) (ty := .int) (C := RX2) (T := TX2) (N := 8) hx hb hts hu2 tyX2 tyX2_ok nmX2 hown hK hP hD hS (pcD ca h ad pa (put (put σ 500 ((σ 200 (a1.toNatClampNeg)).toNatClampNeg) ((σ 500 ((σ 200 (a1.toNatClampNeg)).toNatClampNeg)) - (s_X2_fee σ (a1.toNatClampNeg) (σ 816 0)))) 590 0 ((σ 590 0) + (s_X2_fee σ (a1.toNatClampNeg) (σ 816 0)))) (a1.toNatClampNeg)) (wc_aD (isb_Herd c_2)) rfl 6 (by decide) (hts (.fieldLink RX8 160 "GrazeBook$Drove" "state" "I") (List.mem_cons_of_mem _ mw_457)) (fun _ h9 => h9) rfl (by decide +kernel) rfl rfl (Nat.le_of_ble_eq_true rfl) dX8_free_98 (fun H locs hP hD hS => ?_)
        rw [wc_sD6 (σ := (put (put σ 500 ((σ 200 (a1.toNatClampNeg)).toNatClampNeg) ((σ 500 ((σ 200 (a1.toNatClampNeg)).toNatClampNeg)) - (s_X2_fee σ (a1.toNatClampNeg) (σ 816 0)))) 590 0 ((σ 590 0) + (s_X2_fee σ (a1.toNatClampNeg) (σ 816 0))))) (isb_Herd c_2)] at hP hD
        refine lv_iload_n hx hb dX8_free_101 rfl (lv_at hl 1 rfl) ?_
        have hI9 : IX (put (put (put σ 500 ((σ 200 (a1.toNatClampNeg)).toNatClampNeg) ((σ 500 ((σ 200 (a1.toNatClampNeg)).toNatClampNeg)) - (s_X2_fee σ (a1.toNatClampNeg) (σ 816 0)))) 590 0 ((σ 590 0) + (s_X2_fee σ (a1.toNatClampNeg) (σ 816 0)))) 206 (a1.toNatClampNeg) (0 : Int32)) := hI
        obtain ⟨rfl, rfl⟩ := Prod.mk.inj (show ((s_X2_fee σ (a1.toNatClampNeg) (σ 816 0)), (put (put (put σ 500 ((σ 200 (a1.toNatClampNeg)).toNatClampNeg) ((σ 500 ((σ 200 (a1.toNatClampNeg)).toNatClampNeg)) - (s_X2_fee σ (a1.toNatClampNeg) (σ 816 0)))) 590 0 ((σ 590 0) + (s_X2_fee σ (a1.toNatClampNeg) (σ 816 0)))) 206 (a1.toNatClampNeg) (0 : Int32))) = (R1, R2) from hR)
        rw [hQ]
        exact W.iret (v := (s_X2_fee σ (a1.toNatClampNeg) (σ 816 0))) hx hb hr (fun t ht hW => ⟨⟨(s_X2_fee σ (a1.toNatClampNeg) (σ 816 0)), (), rfl, rfl, ⟨by rw [ht]; exact hP, va_K.moved hW.alike hK, by rw [← hAe]; exact hD⟩, hI9⟩, hS.F ht⟩) hS.2.2 dX8_free_102
      · have hR := (if_neg c_5).symm.trans hR
        refine lv_aload_n hx hb dX8_free_65 rfl (lv_at hl 3 rfl) ?_
        refine lv_bipush (v := (-5 : Int32)) hx hb dX8_free_66 (by decide) ?_
        have hF := pw_free hD hS hA
        refine va_calli (va_runV (As := [.int (-5 : Int32)]) (rest := []) ⟨hx, hb, hml, hown, hts⟩ (k_X8_refuse l D ca h ad pa tb σ (-5 : Int32) H.size hI _ _ (Prod.eta _).symm) (cwV 1 hts gX8_free_X8_refuse rfl rfl rfl (by decide +kernel) ⟨Nat.le_of_ble_eq_true rfl, Nat.le_of_ble_eq_true rfl⟩) ⟨cw_blind, va_recv hK hP (ci := 8) (q0 := 0) rfl wc_0, cw_give hP hK hD hZ hS hF⟩ rfl rfl hl.1 rfl (lv_room (Nat.le_of_ble_eq_true rfl)) dX8_free_68 ⟨Nat.le_of_ble_eq_true rfl, Nat.le_of_ble_eq_true rfl⟩) hS (fun q _ h => hF q h) hF (fun r_6 u t H1 locs ht hvm hw hB hz1 hk1 hS => ?_)
        rw [hw]
        obtain ⟨hB, hI_7⟩ := hB
        obtain ⟨hP, hD⟩ := pw_back hF ht hB
        clear hB hk1 hz1 hF
        generalize H1 = H at hP hS ⊢
        obtain ⟨τc_8, hτc_8⟩ : ∃ t9, (s_X8_refuse σ (-5 : Int32)).2 = t9 := ⟨_, rfl⟩
        rw [hτc_8] at hP hD hI_7
        (try rw [hτc_8] at hR)
        obtain ⟨vc_9, hvc_9⟩ : ∃ t9, (s_X8_refuse σ (-5 : Int32)).1 = t9 := ⟨_, rfl⟩
        rw [hvc_9]
        (try rw [hvc_9] at hR)
        have hI9 : IX τc_8 := hI_7
        obtain ⟨rfl, rfl⟩ := Prod.mk.inj (show (vc_9, τc_8) = (R1, R2) from hR)
        rw [hQ]
        exact W.iret (v := vc_9) hx hb hr (fun t ht hW => ⟨⟨vc_9, (), rfl, rfl, ⟨by rw [ht]; exact hP, va_K.moved hW.alike hK, by rw [← hAe]; exact hD⟩, hI9⟩, hS.F ht⟩) hS.2.2 dX8_free_71
    · have hR := (if_neg c_3).symm.trans hR
      refine lv_aload_n hx hb dX8_free_29 rfl (lv_at hl 1 rfl) ?_
      refine lv_bipush (v := (-3 : Int32)) hx hb dX8_free_30 (by decide) ?_
      have hF := pw_free hD hS hA
      refine va_calli (va_runV (As := [.int (-3 : Int32)]) (rest := []) ⟨hx, hb, hml, hown, hts⟩ (k_X8_refuse l D ca h ad pa tb σ (-3 : Int32) H.size hI _ _ (Prod.eta _).symm) (cwV 1 hts gX8_free_X8_refuse rfl rfl rfl (by decide +kernel) ⟨Nat.le_of_ble_eq_true rfl, Nat.le_of_ble_eq_true rfl⟩) ⟨cw_blind, va_recv hK hP (ci := 8) (q0 := 0) rfl wc_0, cw_give hP hK hD hZ hS hF⟩ rfl rfl hl.1 rfl (lv_room (Nat.le_of_ble_eq_true rfl)) dX8_free_32 ⟨Nat.le_of_ble_eq_true rfl, Nat.le_of_ble_eq_true rfl⟩) hS (fun q _ h => hF q h) hF (fun r_10 u t H1 locs ht hvm hw hB hz1 hk1 hS => ?_)
      rw [hw]
      obtain ⟨hB, hI_11⟩ := hB
      obtain ⟨hP, hD⟩ := pw_back hF ht hB
      clear hB hk1 hz1 hF
      generalize H1 = H at hP hS ⊢
      obtain ⟨τc_12, hτc_12⟩ : ∃ t9, (s_X8_refuse σ (-3 : Int32)).2 = t9 := ⟨_, rfl⟩
      rw [hτc_12] at hP hD hI_11
      (try rw [hτc_12] at hR)
      obtain ⟨vc_13, hvc_13⟩ : ∃ t9, (s_X8_refuse σ (-3 : Int32)).1 = t9 := ⟨_, rfl⟩
      rw [hvc_13]
      (try rw [hvc_13] at hR)
      have hI9 : IX τc_12 := hI_11
      obtain ⟨rfl, rfl⟩ := Prod.mk.inj (show (vc_13, τc_12) = (R1, R2) from hR)
      rw [hQ]
      exact W.iret (v := vc_13) hx hb hr (fun t ht hW => ⟨⟨vc_13, (), rfl, rfl, ⟨by rw [ht]; exact hP, va_K.moved hW.alike hK, by rw [← hAe]; exact hD⟩, hI9⟩, hS.F ht⟩) hS.2.2 dX8_free_35
  · have hR := (if_pos c_2).symm.trans hR
    refine lv_aload_n hx hb dX8_free_8 rfl (lv_at hl 0 rfl) ?_
    refine lv_iconst (v := (-1 : Int32)) hx hb dX8_free_9 (by decide) ?_
    have hF := pw_free hD hS hA
    refine va_calli (va_runV (As := [.int (-1 : Int32)]) (rest := []) ⟨hx, hb, hml, hown, hts⟩ (k_X8_refuse l D ca h ad pa tb σ (-1 : Int32) H.size hI _ _ (Prod.eta _).symm) (cwV 1 hts gX8_free_X8_refuse rfl rfl rfl (by decide +kernel) ⟨Nat.le_of_ble_eq_true rfl, Nat.le_of_ble_eq_true rfl⟩) ⟨cw_blind, va_recv hK hP (ci := 8) (q0 := 0) rfl wc_0, cw_give hP hK hD hZ hS hF⟩ rfl rfl hl.1 rfl (lv_room (Nat.le_of_ble_eq_true rfl)) dX8_free_10 ⟨Nat.le_of_ble_eq_true rfl, Nat.le_of_ble_eq_true rfl⟩) hS (fun q _ h => hF q h) hF (fun r_14 u t H1 locs ht hvm hw hB hz1 hk1 hS => ?_)
    rw [hw]
    obtain ⟨hB, hI_15⟩ := hB
    obtain ⟨hP, hD⟩ := pw_back hF ht hB
    clear hB hk1 hz1 hF
    generalize H1 = H at hP hS ⊢
    obtain ⟨τc_16, hτc_16⟩ : ∃ t9, (s_X8_refuse σ (-1 : Int32)).2 = t9 := ⟨_, rfl⟩
    rw [hτc_16] at hP hD hI_15
    (try rw [hτc_16] at hR)
    obtain ⟨vc_17, hvc_17⟩ : ∃ t9, (s_X8_refuse σ (-1 : Int32)).1 = t9 := ⟨_, rfl⟩
    rw [hvc_17]
    (try rw [hvc_17] at hR)
    have hI9 : IX τc_16 := hI_15
    obtain ⟨rfl, rfl⟩ := Prod.mk.inj (show (vc_17, τc_16) = (R1, R2) from hR)
    rw [hQ]
    exact W.iret (v := vc_17) hx hb hr (fun t ht hW => ⟨⟨vc_17, (), rfl, rfl, ⟨by rw [ht]; exact hP, va_K.moved hW.alike hK, by rw [← hAe]; exact hD⟩, hI9⟩, hS.F ht⟩) hS.2.2 dX8_free_13

def s_X8_pieceOf (σ : St) (a1 : Int32) (a2 : Int32) : Int32 × St := (if (s_X8_isPiece σ a1) = (0 : Int32) then (((s_X8_refuse σ (-1 : Int32)).1), ((s_X8_refuse σ (-1 : Int32)).2)) else (if a2 = (0 : Int32) then ((σ 403 (a1.toNatClampNeg)), σ) else (if a2 = (1 : Int32) then ((σ 400 (a1.toNatClampNeg)), σ) else (if a2 = (2 : Int32) then ((σ 401 (a1.toNatClampNeg)), σ) else (if a2 = (3 : Int32) then ((σ 404 (a1.toNatClampNeg)), σ) else (if a2 = (4 : Int32) then ((s_X8_partsOn σ a1), σ) else (if a2 = (5 : Int32) then ((s_X8_herdsOn σ a1), σ) else (if a2 = (6 : Int32) then ((σ 405 (a1.toNatClampNeg)), σ) else (((s_X8_refuse σ (-2 : Int32)).1), ((s_X8_refuse σ (-2 : Int32)).2))))))))))
theorem fr_s_X8_pieceOf (σ : St) (a1 : Int32) (a2 : Int32) {f : Nat} (h810 : f ≠ 810) : (s_X8_pieceOf σ a1 a2 ).2 f = σ f := by
  unfold s_X8_pieceOf
  all_goals ((try dsimp only) <;> ((repeat' split) <;> (try simp only [put_fr, ne_eq, not_false_eq_true, h810, fr_s_X8_refuse])))
set_option maxHeartbeats 1000000 in
set_option maxRecDepth 100000 in
theorem k_X8_pieceOf (l : Launch) (D : va_G) (ca : Nat → ClassId) (h : Nat) (ad : Nat → Nat) (pa : Nat → Nat → Nat) (tb : Nat) (σ : St) (a1 : Int32) (a2 : Int32) (sz : Nat) (hI : IX σ)  (R1 : Int32) (R2 : St) (hR : s_X8_pieceOf σ a1 a2 = (R1, R2)) : Met l yX8_pieceOf wsX8_pieceOf ({ frames := 2, cells := 0, slots := 0, locals := 43 }) (va_Pc [.ref h, .int a1, .int a2] (cw_pre D ca (WC ca h ad pa σ) sz tb)) (va_Qi (fun (r : Int32) (_ : Unit) => r = R1) (fun (_ : Unit) (t : State) => pw_post D ca (WC ca h ad pa σ) sz (WC ca h ad pa R2) t ∧ IX R2) (va_A (WC ca h ad pa σ) sz)) 0 0 (va_A (WC ca h ad pa σ) sz) := by
  refine Met.ofW (cc := cX8_pieceOf) (maxL := 4) (ret := (some .int)) (by decide) rfl ?_
  intro p e s m args below meth c s₁ B hml hv
  obtain ⟨rfl, ⟨hsz, hP, hK, hD0⟩, hZ⟩ := hv
  have hx := B.exec
  have hb := B.bytes
  have hr := B.returns
  have hts := atoms_spec (ws := wsX8_pieceOf) B.pre
  have hown : s.vm.findClass RX8 = some m.cls := findClass_of_methodNamed B.named
  have hlocks := B.notSynchronized
  have hu4 : ∀ w ∈ u_ws RX4 TX4 6, w ∈ wsX8_pieceOf := fun w h => List.mem_cons_of_mem _ (uw4 w h)
  have hu8 : ∀ w ∈ u_ws RX8 TX8 19, w ∈ wsX8_pieceOf := fun w h => List.mem_cons_of_mem _ (uw8 w h)
  subst hsz
  have hD := hD0.self (sz := s.heap.size)
  obtain ⟨A, hAe⟩ : ∃ A, A = va_A (WC ca h ad pa σ) s.heap.size := ⟨_, rfl⟩
  rw [← hAe] at hD hZ ⊢
  have hA : ∀ q : Nat, s.heap.size ≤ q → A q := fun q h => by rw [hAe]; exact Or.inr h
  have hS : va_S A s.heap s.heap [] := va_S.rf
  have hl := lv_entry ([.ref h, .int a1, .int a2]) (n := 4) (Nat.le_of_ble_eq_true rfl)
  rw [lg_entry_eq]
  generalize (lg_sl ([.ref h, .int a1, .int a2]) ++ List.replicate (4 - (lg_sl ([.ref h, .int a1, .int a2])).length) Slot.unset).toArray = ls at hl ⊢
  have hl : lv_has ls 4 [(0, .ref h), (1, .int a1), (2, .int a2)] := hl
  obtain ⟨H, hH⟩ : ∃ H, H = s.heap := ⟨_, rfl⟩
  have hP : va_P D vwCl (WC ca h ad pa σ) H := by rw [hH]; exact hP
  have hS : va_S A s.heap H [] := by rw [hH]; exact hS
  obtain ⟨QQ, hQ⟩ : ∃ Q9, Q9 = MQ below (va_Qi (fun (r : Int32) (_ : Unit) => r = R1) (fun (_ : Unit) (t : State) => pw_post D ca (WC ca h ad pa σ) s.heap.size (WC ca h ad pa R2) t ∧ IX R2) A) ([.ref h, .int a1, .int a2] : List Value).toArray s 0 0 A := ⟨_, rfl⟩
  rw [← hQ]
  show W _ _ _ _ _ _ _ _ _ _ s.heap _ _ _ _ _
  rw [← hH]
  have hR : (if (s_X8_isPiece σ a1) = (0 : Int32) then (((s_X8_refuse σ (-1 : Int32)).1), ((s_X8_refuse σ (-1 : Int32)).2)) else (if a2 = (0 : Int32) then ((σ 403 (a1.toNatClampNeg)), σ) else (if a2 = (1 : Int32) then ((σ 400 (a1.toNatClampNeg)), σ) else (if a2 = (2 : Int32) then ((σ 401 (a1.toNatClampNeg)), σ) else (if a2 = (3 : Int32) then ((σ 404 (a1.toNatClampNeg)), σ) else (if a2 = (4 : Int32) then ((s_X8_partsOn σ a1), σ) else (if a2 = (5 : Int32) then ((s_X8_herdsOn σ a1), σ) else (if a2 = (6 : Int32) then ((σ 405 (a1.toNatClampNeg)), σ) else (((s_X8_refuse σ (-2 : Int32)).1), ((s_X8_refuse σ (-2 : Int32)).2)))))))))) = (R1, R2) := hR
  refine lv_aload_n hx hb dX8_pieceOf_0 rfl (lv_at hl 0 rfl) ?_
  refine lv_iload_n hx hb dX8_pieceOf_1 rfl (lv_at hl 1 rfl) ?_
  have hF := pw_free hD hS hA
  refine va_calli (va_runV (As := [.int a1]) (rest := []) ⟨hx, hb, hml, hown, hts⟩ (k_X8_isPiece l D ca h ad pa tb σ a1 H.size hI _ rfl) (cwV 1 hts gX8_pieceOf_X8_isPiece rfl rfl rfl (by decide +kernel) ⟨Nat.le_of_ble_eq_true rfl, Nat.le_of_ble_eq_true rfl⟩) ⟨cw_blind, va_recv hK hP (ci := 8) (q0 := 0) rfl wc_0, cw_give hP hK hD hZ hS hF⟩ rfl rfl hl.1 rfl (lv_room (Nat.le_of_ble_eq_true rfl)) dX8_pieceOf_2 ⟨Nat.le_of_ble_eq_true rfl, Nat.le_of_ble_eq_true rfl⟩) hS (fun q _ h => hF q h) hF (fun r_1 u t H1 locs ht hvm hw hB hz1 hk1 hS => ?_)
  rw [hw]
  obtain ⟨hP, hD⟩ := pw_back hF ht hB
  clear hB hk1 hz1 hF
  generalize H1 = H at hP hS ⊢
  refine lv_if_ne (tgt := 14) hx hb dX8_pieceOf_5 (by decide) (fun c_2 => ?_) (fun c_2 => ?_)
  · have hR := (if_neg c_2).symm.trans hR
    refine lv_aload_n hx hb dX8_pieceOf_14 rfl (lv_at hl 0 rfl) ?_
    refine va_get (D := D) (ci := 8) (v := .ref (ad 800)) (C := RX8) (T := TX8) (N := 19) hx hb hts hu8 hown hK hP 0 wc_0 rfl 0 (by decide) (hts (.fieldLink RX8 11 "GrazeBook" "pieces" "[LGrazeBook$Ground;") (List.mem_cons_of_mem _ mw_210)) (fun _ h9 => h9) rfl dX8_pieceOf_15 ?_
    refine lv_iload_n hx hb dX8_pieceOf_18 rfl (lv_at hl 1 rfl) ?_
    refine va_aldq_k (k := (a1.toNatClampNeg)) (b := pa 0 (a1.toNatClampNeg)) hx hb hK hP 6 2 wc_6 rfl rfl (rf_at (isb_Piece c_2)) (isx_Piece c_2 hI) dX8_pieceOf_19 ?_
    refine lv_astore_n (lv' := [(3, .ref (pa 0 (a1.toNatClampNeg))), (0, .ref h), (1, .int a1), (2, .int a2)]) hx hb dX8_pieceOf_20 rfl hl (by decide) rfl (fun ls hl => ?_)
    refine lv_iload_n hx hb dX8_pieceOf_21 rfl (lv_at hl 3 rfl) ?_
    by_cases c_3 : a2 = (0 : Int32)
    · have hR := (if_pos c_3).symm.trans hR
      refine lv_tableIn (tgt := 64) hx hb dX8_pieceOf_22 (by rw [c_3]; decide) (by rw [c_3]; decide) (by rw [c_3]; rfl) (by decide) ?_
      refine lv_aload_n hx hb dX8_pieceOf_64 rfl (lv_at hl 0 rfl) ?_
      refine va_get (D := D) (ci := 4) (v := .int (σ 403 (a1.toNatClampNeg))) (C := RX4) (T := TX4) (N := 6) hx hb hts hu4 hown hK hP (pcG ca h ad pa σ (a1.toNatClampNeg)) (wc_aG (isb_Piece c_2)) rfl 3 (by decide) (hts (.fieldLink RX8 210 "GrazeBook$Ground" "grass" "I") (List.mem_cons_of_mem _ mw_290)) (fun _ h9 => h9) rfl dX8_pieceOf_65 ?_
      have hI9 : IX σ := hI
      obtain ⟨rfl, rfl⟩ := Prod.mk.inj (show ((σ 403 (a1.toNatClampNeg)), σ) = (R1, R2) from hR)
      rw [hQ]
      exact W.iret (v := (σ 403 (a1.toNatClampNeg))) hx hb hr (fun t ht hW => ⟨⟨(σ 403 (a1.toNatClampNeg)), (), rfl, rfl, ⟨by rw [ht]; exact hP, va_K.moved hW.alike hK, by rw [← hAe]; exact hD⟩, hI9⟩, hS.F ht⟩) hS.2.2 dX8_pieceOf_68
    have hR := (if_neg c_3).symm.trans hR
    by_cases c_4 : a2 = (1 : Int32)
    · have hR := (if_pos c_4).symm.trans hR
      refine lv_tableIn (tgt := 69) hx hb dX8_pieceOf_22 (by rw [c_4]; decide) (by rw [c_4]; decide) (by rw [c_4]; rfl) (by decide) ?_
      refine lv_aload_n hx hb dX8_pieceOf_69 rfl (lv_at hl 0 rfl) ?_
      refine va_get (D := D) (ci := 4) (v := .int (σ 400 (a1.toNatClampNeg))) (C := RX4) (T := TX4) (N := 6) hx hb hts hu4 hown hK hP (pcG ca h ad pa σ (a1.toNatClampNeg)) (wc_aG (isb_Piece c_2)) rfl 0 (by decide) (hts (.fieldLink RX8 247 "GrazeBook$Ground" "full" "I") (List.mem_cons_of_mem _ mw_284)) (fun _ h9 => h9) rfl dX8_pieceOf_70 ?_
      have hI9 : IX σ := hI
      obtain ⟨rfl, rfl⟩ := Prod.mk.inj (show ((σ 400 (a1.toNatClampNeg)), σ) = (R1, R2) from hR)
      rw [hQ]
      exact W.iret (v := (σ 400 (a1.toNatClampNeg))) hx hb hr (fun t ht hW => ⟨⟨(σ 400 (a1.toNatClampNeg)), (), rfl, rfl, ⟨by rw [ht]; exact hP, va_K.moved hW.alike hK, by rw [← hAe]; exact hD⟩, hI9⟩, hS.F ht⟩) hS.2.2 dX8_pieceOf_73
    have hR := (if_neg c_4).symm.trans hR
    by_cases c_5 : a2 = (2 : Int32)
    · have hR := (if_pos c_5).symm.trans hR
      refine lv_tableIn (tgt := 74) hx hb dX8_pieceOf_22 (by rw [c_5]; decide) (by rw [c_5]; decide) (by rw [c_5]; rfl) (by decide) ?_
      refine lv_aload_n hx hb dX8_pieceOf_74 rfl (lv_at hl 0 rfl) ?_
      refine va_get (D := D) (ci := 4) (v := .int (σ 401 (a1.toNatClampNeg))) (C := RX4) (T := TX4) (N := 6) hx hb hts hu4 hown hK hP (pcG ca h ad pa σ (a1.toNatClampNeg)) (wc_aG (isb_Piece c_2)) rfl 1 (by decide) (hts (.fieldLink RX8 189 "GrazeBook$Ground" "bears" "I") (List.mem_cons_of_mem _ mw_286)) (fun _ h9 => h9) rfl dX8_pieceOf_75 ?_
      have hI9 : IX σ := hI
      obtain ⟨rfl, rfl⟩ := Prod.mk.inj (show ((σ 401 (a1.toNatClampNeg)), σ) = (R1, R2) from hR)
      rw [hQ]
      exact W.iret (v := (σ 401 (a1.toNatClampNeg))) hx hb hr (fun t ht hW => ⟨⟨(σ 401 (a1.toNatClampNeg)), (), rfl, rfl, ⟨by rw [ht]; exact hP, va_K.moved hW.alike hK, by rw [← hAe]; exact hD⟩, hI9⟩, hS.F ht⟩) hS.2.2 dX8_pieceOf_78
    have hR := (if_neg c_5).symm.trans hR
    by_cases c_6 : a2 = (3 : Int32)
    · have hR := (if_pos c_6).symm.trans hR
      refine lv_tableIn (tgt := 79) hx hb dX8_pieceOf_22 (by rw [c_6]; decide) (by rw [c_6]; decide) (by rw [c_6]; rfl) (by decide) ?_
      refine lv_aload_n hx hb dX8_pieceOf_79 rfl (lv_at hl 0 rfl) ?_
      refine va_get (D := D) (ci := 4) (v := .int (σ 404 (a1.toNatClampNeg))) (C := RX4) (T := TX4) (N := 6) hx hb hts hu4 hown hK hP (pcG ca h ad pa σ (a1.toNatClampNeg)) (wc_aG (isb_Piece c_2)) rfl 4 (by decide) (hts (.fieldLink RX8 204 "GrazeBook$Ground" "rest" "I") (List.mem_cons_of_mem _ mw_292)) (fun _ h9 => h9) rfl dX8_pieceOf_80 ?_
      have hI9 : IX σ := hI
      obtain ⟨rfl, rfl⟩ := Prod.mk.inj (show ((σ 404 (a1.toNatClampNeg)), σ) = (R1, R2) from hR)
      rw [hQ]
      exact W.iret (v := (σ 404 (a1.toNatClampNeg))) hx hb hr (fun t ht hW => ⟨⟨(σ 404 (a1.toNatClampNeg)), (), rfl, rfl, ⟨by rw [ht]; exact hP, va_K.moved hW.alike hK, by rw [← hAe]; exact hD⟩, hI9⟩, hS.F ht⟩) hS.2.2 dX8_pieceOf_83
    have hR := (if_neg c_6).symm.trans hR
    by_cases c_7 : a2 = (4 : Int32)
    · have hR := (if_pos c_7).symm.trans hR
      refine lv_tableIn (tgt := 84) hx hb dX8_pieceOf_22 (by rw [c_7]; decide) (by rw [c_7]; decide) (by rw [c_7]; rfl) (by decide) ?_
      refine lv_aload_n hx hb dX8_pieceOf_84 rfl (lv_at hl 1 rfl) ?_
      refine lv_iload_n hx hb dX8_pieceOf_85 rfl (lv_at hl 2 rfl) ?_
      have hF := pw_free hD hS hA
      refine va_calli (va_runV (As := [.int a1]) (rest := []) ⟨hx, hb, hml, hown, hts⟩ (k_X8_partsOn l D ca h ad pa tb σ a1 H.size hI _ rfl) (cwV 1 hts gX8_pieceOf_X8_partsOn rfl rfl rfl (by decide +kernel) ⟨Nat.le_of_ble_eq_true rfl, Nat.le_of_ble_eq_true rfl⟩) ⟨cw_blind, va_recv hK hP (ci := 8) (q0 := 0) rfl wc_0, cw_give hP hK hD hZ hS hF⟩ rfl rfl hl.1 rfl (lv_room (Nat.le_of_ble_eq_true rfl)) dX8_pieceOf_86 ⟨Nat.le_of_ble_eq_true rfl, Nat.le_of_ble_eq_true rfl⟩) hS (fun q _ h => hF q h) hF (fun r_8 u t H1 locs ht hvm hw hB hz1 hk1 hS => ?_)
      rw [hw]
      obtain ⟨hP, hD⟩ := pw_back hF ht hB
      clear hB hk1 hz1 hF
      generalize H1 = H at hP hS ⊢
      have hI9 : IX σ := hI
      obtain ⟨rfl, rfl⟩ := Prod.mk.inj (show ((s_X8_partsOn σ a1), σ) = (R1, R2) from hR)
      rw [hQ]
      exact W.iret (v := (s_X8_partsOn σ a1)) hx hb hr (fun t ht hW => ⟨⟨(s_X8_partsOn σ a1), (), rfl, rfl, ⟨by rw [ht]; exact hP, va_K.moved hW.alike hK, by rw [← hAe]; exact hD⟩, hI9⟩, hS.F ht⟩) hS.2.2 dX8_pieceOf_89
    have hR := (if_neg c_7).symm.trans hR
    by_cases c_9 : a2 = (5 : Int32)
    · have hR := (if_pos c_9).symm.trans hR
      refine lv_tableIn (tgt := 90) hx hb dX8_pieceOf_22 (by rw [c_9]; decide) (by rw [c_9]; decide) (by rw [c_9]; rfl) (by decide) ?_
      refine lv_aload_n hx hb dX8_pieceOf_90 rfl (lv_at hl 1 rfl) ?_
      refine lv_iload_n hx hb dX8_pieceOf_91 rfl (lv_at hl 2 rfl) ?_
      have hF := pw_free hD hS hA
      refine va_calli (va_runV (As := [.int a1]) (rest := []) ⟨hx, hb, hml, hown, hts⟩ (k_X8_herdsOn l D ca h ad pa tb σ a1 H.size hI _ rfl) (cwV 1 hts gX8_pieceOf_X8_herdsOn rfl rfl rfl (by decide +kernel) ⟨Nat.le_of_ble_eq_true rfl, Nat.le_of_ble_eq_true rfl⟩) ⟨cw_blind, va_recv hK hP (ci := 8) (q0 := 0) rfl wc_0, cw_give hP hK hD hZ hS hF⟩ rfl rfl hl.1 rfl (lv_room (Nat.le_of_ble_eq_true rfl)) dX8_pieceOf_92 ⟨Nat.le_of_ble_eq_true rfl, Nat.le_of_ble_eq_true rfl⟩) hS (fun q _ h => hF q h) hF (fun r_10 u t H1 locs ht hvm hw hB hz1 hk1 hS => ?_)
      rw [hw]
      obtain ⟨hP, hD⟩ := pw_back hF ht hB
      clear hB hk1 hz1 hF
      generalize H1 = H at hP hS ⊢
      have hI9 : IX σ := hI
      obtain ⟨rfl, rfl⟩ := Prod.mk.inj (show ((s_X8_herdsOn σ a1), σ) = (R1, R2) from hR)
      rw [hQ]
      exact W.iret (v := (s_X8_herdsOn σ a1)) hx hb hr (fun t ht hW => ⟨⟨(s_X8_herdsOn σ a1), (), rfl, rfl, ⟨by rw [ht]; exact hP, va_K.moved hW.alike hK, by rw [← hAe]; exact hD⟩, hI9⟩, hS.F ht⟩) hS.2.2 dX8_pieceOf_95
    have hR := (if_neg c_9).symm.trans hR
    by_cases c_11 : a2 = (6 : Int32)
    · have hR := (if_pos c_11).symm.trans hR
      refine lv_tableIn (tgt := 96) hx hb dX8_pieceOf_22 (by rw [c_11]; decide) (by rw [c_11]; decide) (by rw [c_11]; rfl) (by decide) ?_
      refine lv_aload_n hx hb dX8_pieceOf_96 rfl (lv_at hl 0 rfl) ?_
      refine va_get (D := D) (ci := 4) (v := .int (σ 405 (a1.toNatClampNeg))) (C := RX4) (T := TX4) (N := 6) hx hb hts hu4 hown hK hP (pcG ca h ad pa σ (a1.toNatClampNeg)) (wc_aG (isb_Piece c_2)) rfl 5 (by decide) (hts (.fieldLink RX8 250 "GrazeBook$Ground" "eaten" "I") (List.mem_cons_of_mem _ mw_294)) (fun _ h9 => h9) rfl dX8_pieceOf_97 ?_
      have hI9 : IX σ := hI
      obtain ⟨rfl, rfl⟩ := Prod.mk.inj (show ((σ 405 (a1.toNatClampNeg)), σ) = (R1, R2) from hR)
      rw [hQ]
      exact W.iret (v := (σ 405 (a1.toNatClampNeg))) hx hb hr (fun t ht hW => ⟨⟨(σ 405 (a1.toNatClampNeg)), (), rfl, rfl, ⟨by rw [ht]; exact hP, va_K.moved hW.alike hK, by rw [← hAe]; exact hD⟩, hI9⟩, hS.F ht⟩) hS.2.2 dX8_pieceOf_100
    have hR := (if_neg c_11).symm.trans hR
    refine lv_tableOut (tgt := 101) hx hb dX8_pieceOf_22 (sw_out6 c_3 c_4 c_5 c_6 c_7 c_9 c_11) (by decide) ?_
    refine lv_aload_n hx hb dX8_pieceOf_101 rfl (lv_at hl 1 rfl) ?_
    refine lv_bipush (v := (-2 : Int32)) hx hb dX8_pieceOf_102 (by decide) ?_
    have hF := pw_free hD hS hA
    refine va_calli (va_runV (As := [.int (-2 : Int32)]) (rest := []) ⟨hx, hb, hml, hown, hts⟩ (k_X8_refuse l D ca h ad pa tb σ (-2 : Int32) H.size hI _ _ (Prod.eta _).symm) (cwV 1 hts gX8_pieceOf_X8_refuse rfl rfl rfl (by decide +kernel) ⟨Nat.le_of_ble_eq_true rfl, Nat.le_of_ble_eq_true rfl⟩) ⟨cw_blind, va_recv hK hP (ci := 8) (q0 := 0) rfl wc_0, cw_give hP hK hD hZ hS hF⟩ rfl rfl hl.1 rfl (lv_room (Nat.le_of_ble_eq_true rfl)) dX8_pieceOf_104 ⟨Nat.le_of_ble_eq_true rfl, Nat.le_of_ble_eq_true rfl⟩) hS (fun q _ h => hF q h) hF (fun r_12 u t H1 locs ht hvm hw hB hz1 hk1 hS => ?_)
    rw [hw]
    obtain ⟨hB, hI_13⟩ := hB
    obtain ⟨hP, hD⟩ := pw_back hF ht hB
    clear hB hk1 hz1 hF
    generalize H1 = H at hP hS ⊢
    obtain ⟨τc_14, hτc_14⟩ : ∃ t9, (s_X8_refuse σ (-2 : Int32)).2 = t9 := ⟨_, rfl⟩
    rw [hτc_14] at hP hD hI_13
    (try rw [hτc_14] at hR)
    obtain ⟨vc_15, hvc_15⟩ : ∃ t9, (s_X8_refuse σ (-2 : Int32)).1 = t9 := ⟨_, rfl⟩
    rw [hvc_15]
    (try rw [hvc_15] at hR)
    have hI9 : IX τc_14 := hI_13
    obtain ⟨rfl, rfl⟩ := Prod.mk.inj (show (vc_15, τc_14) = (R1, R2) from hR)
    rw [hQ]
    exact W.iret (v := vc_15) hx hb hr (fun t ht hW => ⟨⟨vc_15, (), rfl, rfl, ⟨by rw [ht]; exact hP, va_K.moved hW.alike hK, by rw [← hAe]; exact hD⟩, hI9⟩, hS.F ht⟩) hS.2.2 dX8_pieceOf_107
  · have hR := (if_pos c_2).symm.trans hR
    refine lv_aload_n hx hb dX8_pieceOf_8 rfl (lv_at hl 0 rfl) ?_
    refine lv_iconst (v := (-1 : Int32)) hx hb dX8_pieceOf_9 (by decide) ?_
    have hF := pw_free hD hS hA
    refine va_calli (va_runV (As := [.int (-1 : Int32)]) (rest := []) ⟨hx, hb, hml, hown, hts⟩ (k_X8_refuse l D ca h ad pa tb σ (-1 : Int32) H.size hI _ _ (Prod.eta _).symm) (cwV 1 hts gX8_pieceOf_X8_refuse rfl rfl rfl (by decide +kernel) ⟨Nat.le_of_ble_eq_true rfl, Nat.le_of_ble_eq_true rfl⟩) ⟨cw_blind, va_recv hK hP (ci := 8) (q0 := 0) rfl wc_0, cw_give hP hK hD hZ hS hF⟩ rfl rfl hl.1 rfl (lv_room (Nat.le_of_ble_eq_true rfl)) dX8_pieceOf_10 ⟨Nat.le_of_ble_eq_true rfl, Nat.le_of_ble_eq_true rfl⟩) hS (fun q _ h => hF q h) hF (fun r_16 u t H1 locs ht hvm hw hB hz1 hk1 hS => ?_)
    rw [hw]
    obtain ⟨hB, hI_17⟩ := hB
    obtain ⟨hP, hD⟩ := pw_back hF ht hB
    clear hB hk1 hz1 hF
    generalize H1 = H at hP hS ⊢
    obtain ⟨τc_18, hτc_18⟩ : ∃ t9, (s_X8_refuse σ (-1 : Int32)).2 = t9 := ⟨_, rfl⟩
    rw [hτc_18] at hP hD hI_17
    (try rw [hτc_18] at hR)
    obtain ⟨vc_19, hvc_19⟩ : ∃ t9, (s_X8_refuse σ (-1 : Int32)).1 = t9 := ⟨_, rfl⟩
    rw [hvc_19]
    (try rw [hvc_19] at hR)
    have hI9 : IX τc_18 := hI_17
    obtain ⟨rfl, rfl⟩ := Prod.mk.inj (show (vc_19, τc_18) = (R1, R2) from hR)
    rw [hQ]
    exact W.iret (v := vc_19) hx hb hr (fun t ht hW => ⟨⟨vc_19, (), rfl, rfl, ⟨by rw [ht]; exact hP, va_K.moved hW.alike hK, by rw [← hAe]; exact hD⟩, hI9⟩, hS.F ht⟩) hS.2.2 dX8_pieceOf_13

def s_X8_rightOf (σ : St) (a1 : Int32) (a2 : Int32) : Int32 × St := (if (s_X8_isRight σ a1) = (0 : Int32) then (((s_X8_refuse σ (-1 : Int32)).1), ((s_X8_refuse σ (-1 : Int32)).2)) else (if a2 = (0 : Int32) then ((σ 0 (a1.toNatClampNeg)), σ) else (if a2 = (1 : Int32) then ((s_X8_holder σ (a1.toNatClampNeg)), σ) else (if a2 = (2 : Int32) then ((s_X8_countingParts σ a1), σ) else (if a2 = (3 : Int32) then ((σ 2 (a1.toNatClampNeg)), σ) else (if a2 = (4 : Int32) then ((σ 3 (a1.toNatClampNeg)), σ) else (if a2 = (5 : Int32) then (if (σ 8 (a1.toNatClampNeg)) = (0 : Int32) then ((0 : Int32), σ) else ((1 : Int32), σ)) else (if a2 = (6 : Int32) then (if (s_X0_isInForce σ (a1.toNatClampNeg) (σ 816 0)) = (0 : Int32) then ((0 : Int32), σ) else ((1 : Int32), σ)) else (if a2 = (7 : Int32) then ((σ 5 (a1.toNatClampNeg)), σ) else (if a2 = (8 : Int32) then ((σ 7 (a1.toNatClampNeg)), σ) else (((s_X8_refuse σ (-2 : Int32)).1), ((s_X8_refuse σ (-2 : Int32)).2))))))))))))
theorem fr_s_X8_rightOf (σ : St) (a1 : Int32) (a2 : Int32) {f : Nat} (h810 : f ≠ 810) : (s_X8_rightOf σ a1 a2 ).2 f = σ f := by
  unfold s_X8_rightOf
  all_goals ((try dsimp only) <;> ((repeat' split) <;> (try simp only [put_fr, ne_eq, not_false_eq_true, h810, fr_s_X8_refuse])))
set_option maxHeartbeats 1000000 in
set_option maxRecDepth 100000 in
theorem k_X8_rightOf (l : Launch) (D : va_G) (ca : Nat → ClassId) (h : Nat) (ad : Nat → Nat) (pa : Nat → Nat → Nat) (tb : Nat) (σ : St) (a1 : Int32) (a2 : Int32) (sz : Nat) (hI : IX σ)  (R1 : Int32) (R2 : St) (hR : s_X8_rightOf σ a1 a2 = (R1, R2)) : Met l yX8_rightOf wsX8_rightOf ({ frames := 2, cells := 0, slots := 0, locals := 44 }) (va_Pc [.ref h, .int a1, .int a2] (cw_pre D ca (WC ca h ad pa σ) sz tb)) (va_Qi (fun (r : Int32) (_ : Unit) => r = R1) (fun (_ : Unit) (t : State) => pw_post D ca (WC ca h ad pa σ) sz (WC ca h ad pa R2) t ∧ IX R2) (va_A (WC ca h ad pa σ) sz)) 0 0 (va_A (WC ca h ad pa σ) sz) := by
  refine Met.ofW (cc := cX8_rightOf) (maxL := 4) (ret := (some .int)) (by decide) rfl ?_
  intro p e s m args below meth c s₁ B hml hv
  obtain ⟨rfl, ⟨hsz, hP, hK, hD0⟩, hZ⟩ := hv
  have hx := B.exec
  have hb := B.bytes
  have hr := B.returns
  have hts := atoms_spec (ws := wsX8_rightOf) B.pre
  have hown : s.vm.findClass RX8 = some m.cls := findClass_of_methodNamed B.named
  have hlocks := B.notSynchronized
  have hu0 : ∀ w ∈ u_ws RX0 TX0 9, w ∈ wsX8_rightOf := fun w h => List.mem_cons_of_mem _ (uw0 w h)
  have hu8 : ∀ w ∈ u_ws RX8 TX8 19, w ∈ wsX8_rightOf := fun w h => List.mem_cons_of_mem _ (uw8 w h)
  subst hsz
  have hD := hD0.self (sz := s.heap.size)
  obtain ⟨A, hAe⟩ : ∃ A, A = va_A (WC ca h ad pa σ) s.heap.size := ⟨_, rfl⟩
  rw [← hAe] at hD hZ ⊢
  have hA : ∀ q : Nat, s.heap.size ≤ q → A q := fun q h => by rw [hAe]; exact Or.inr h
  have hS : va_S A s.heap s.heap [] := va_S.rf
  have hl := lv_entry ([.ref h, .int a1, .int a2]) (n := 4) (Nat.le_of_ble_eq_true rfl)
  rw [lg_entry_eq]
  generalize (lg_sl ([.ref h, .int a1, .int a2]) ++ List.replicate (4 - (lg_sl ([.ref h, .int a1, .int a2])).length) Slot.unset).toArray = ls at hl ⊢
  have hl : lv_has ls 4 [(0, .ref h), (1, .int a1), (2, .int a2)] := hl
  obtain ⟨H, hH⟩ : ∃ H, H = s.heap := ⟨_, rfl⟩
  have hP : va_P D vwCl (WC ca h ad pa σ) H := by rw [hH]; exact hP
  have hS : va_S A s.heap H [] := by rw [hH]; exact hS
  obtain ⟨QQ, hQ⟩ : ∃ Q9, Q9 = MQ below (va_Qi (fun (r : Int32) (_ : Unit) => r = R1) (fun (_ : Unit) (t : State) => pw_post D ca (WC ca h ad pa σ) s.heap.size (WC ca h ad pa R2) t ∧ IX R2) A) ([.ref h, .int a1, .int a2] : List Value).toArray s 0 0 A := ⟨_, rfl⟩
  rw [← hQ]
  show W _ _ _ _ _ _ _ _ _ _ s.heap _ _ _ _ _
  rw [← hH]
  have hR : (if (s_X8_isRight σ a1) = (0 : Int32) then (((s_X8_refuse σ (-1 : Int32)).1), ((s_X8_refuse σ (-1 : Int32)).2)) else (if a2 = (0 : Int32) then ((σ 0 (a1.toNatClampNeg)), σ) else (if a2 = (1 : Int32) then ((s_X8_holder σ (a1.toNatClampNeg)), σ) else (if a2 = (2 : Int32) then ((s_X8_countingParts σ a1), σ) else (if a2 = (3 : Int32) then ((σ 2 (a1.toNatClampNeg)), σ) else (if a2 = (4 : Int32) then ((σ 3 (a1.toNatClampNeg)), σ) else (if a2 = (5 : Int32) then (if (σ 8 (a1.toNatClampNeg)) = (0 : Int32) then ((0 : Int32), σ) else ((1 : Int32), σ)) else (if a2 = (6 : Int32) then (if (s_X0_isInForce σ (a1.toNatClampNeg) (σ 816 0)) = (0 : Int32) then ((0 : Int32), σ) else ((1 : Int32), σ)) else (if a2 = (7 : Int32) then ((σ 5 (a1.toNatClampNeg)), σ) else (if a2 = (8 : Int32) then ((σ 7 (a1.toNatClampNeg)), σ) else (((s_X8_refuse σ (-2 : Int32)).1), ((s_X8_refuse σ (-2 : Int32)).2)))))))))))) = (R1, R2) := hR
  refine lv_aload_n hx hb dX8_rightOf_0 rfl (lv_at hl 0 rfl) ?_
  refine lv_iload_n hx hb dX8_rightOf_1 rfl (lv_at hl 1 rfl) ?_
  have hF := pw_free hD hS hA
  refine va_calli (va_runV (As := [.int a1]) (rest := []) ⟨hx, hb, hml, hown, hts⟩ (k_X8_isRight l D ca h ad pa tb σ a1 H.size hI _ rfl) (cwV 1 hts gX8_rightOf_X8_isRight rfl rfl rfl (by decide +kernel) ⟨Nat.le_of_ble_eq_true rfl, Nat.le_of_ble_eq_true rfl⟩) ⟨cw_blind, va_recv hK hP (ci := 8) (q0 := 0) rfl wc_0, cw_give hP hK hD hZ hS hF⟩ rfl rfl hl.1 rfl (lv_room (Nat.le_of_ble_eq_true rfl)) dX8_rightOf_2 ⟨Nat.le_of_ble_eq_true rfl, Nat.le_of_ble_eq_true rfl⟩) hS (fun q _ h => hF q h) hF (fun r_1 u t H1 locs ht hvm hw hB hz1 hk1 hS => ?_)
  rw [hw]
  obtain ⟨hP, hD⟩ := pw_back hF ht hB
  clear hB hk1 hz1 hF
  generalize H1 = H at hP hS ⊢
  refine lv_if_ne (tgt := 14) hx hb dX8_rightOf_5 (by decide) (fun c_2 => ?_) (fun c_2 => ?_)
  · have hR := (if_neg c_2).symm.trans hR
    refine lv_aload_n hx hb dX8_rightOf_14 rfl (lv_at hl 0 rfl) ?_
    refine va_get (D := D) (ci := 8) (v := .ref (ad 804)) (C := RX8) (T := TX8) (N := 19) hx hb hts hu8 hown hK hP 0 wc_0 rfl 4 (by decide) (hts (.fieldLink RX8 34 "GrazeBook" "rights" "[LGrazeBook$Claim;") (List.mem_cons_of_mem _ mw_214)) (fun _ h9 => h9) rfl dX8_rightOf_15 ?_
    refine lv_iload_n hx hb dX8_rightOf_18 rfl (lv_at hl 1 rfl) ?_
    refine va_aldq_k (k := (a1.toNatClampNeg)) (b := pa 2 (a1.toNatClampNeg)) hx hb hK hP 8 4 wc_8 rfl rfl (rf_at (isb_Right c_2)) (isx_Right c_2 hI) dX8_rightOf_19 ?_
    refine lv_astore_n (lv' := [(3, .ref (pa 2 (a1.toNatClampNeg))), (0, .ref h), (1, .int a1), (2, .int a2)]) hx hb dX8_rightOf_20 rfl hl (by decide) rfl (fun ls hl => ?_)
    refine lv_iload_n hx hb dX8_rightOf_21 rfl (lv_at hl 3 rfl) ?_
    by_cases c_3 : a2 = (0 : Int32)
    · have hR := (if_pos c_3).symm.trans hR
      refine lv_tableIn (tgt := 72) hx hb dX8_rightOf_22 (by rw [c_3]; decide) (by rw [c_3]; decide) (by rw [c_3]; rfl) (by decide) ?_
      refine lv_aload_n hx hb dX8_rightOf_72 rfl (lv_at hl 0 rfl) ?_
      refine va_get (D := D) (ci := 0) (v := .int (σ 0 (a1.toNatClampNeg))) (C := RX0) (T := TX0) (N := 9) hx hb hts hu0 hown hK hP (pcC ca h ad pa σ (a1.toNatClampNeg)) (wc_aC (isb_Right c_2)) rfl 0 (by decide) (hts (.fieldLink RX8 140 "GrazeBook$Claim" "kind" "I") (List.mem_cons_of_mem _ mw_359)) (fun _ h9 => h9) rfl dX8_rightOf_73 ?_
      have hI9 : IX σ := hI
      obtain ⟨rfl, rfl⟩ := Prod.mk.inj (show ((σ 0 (a1.toNatClampNeg)), σ) = (R1, R2) from hR)
      rw [hQ]
      exact W.iret (v := (σ 0 (a1.toNatClampNeg))) hx hb hr (fun t ht hW => ⟨⟨(σ 0 (a1.toNatClampNeg)), (), rfl, rfl, ⟨by rw [ht]; exact hP, va_K.moved hW.alike hK, by rw [← hAe]; exact hD⟩, hI9⟩, hS.F ht⟩) hS.2.2 dX8_rightOf_76
    have hR := (if_neg c_3).symm.trans hR
    by_cases c_4 : a2 = (1 : Int32)
    · have hR := (if_pos c_4).symm.trans hR
      refine lv_tableIn (tgt := 77) hx hb dX8_rightOf_22 (by rw [c_4]; decide) (by rw [c_4]; decide) (by rw [c_4]; rfl) (by decide) ?_
      refine lv_aload_n hx hb dX8_rightOf_77 rfl (lv_at hl 1 rfl) ?_
      refine lv_aload_n hx hb dX8_rightOf_78 rfl (lv_at hl 0 rfl) ?_
      have hF := pw_free hD hS hA
      refine va_calli (va_runV (As := [.ref (pa 2 (a1.toNatClampNeg))]) (rest := []) ⟨hx, hb, hml, hown, hts⟩ (k_X8_holder l D ca h ad pa tb σ (a1.toNatClampNeg) H.size hI (isb_Right c_2) _ rfl) (cwV 1 hts gX8_rightOf_X8_holder rfl rfl rfl (by decide +kernel) ⟨Nat.le_of_ble_eq_true rfl, Nat.le_of_ble_eq_true rfl⟩) ⟨cw_blind, va_recv hK hP (ci := 8) (q0 := 0) rfl wc_0, cw_give hP hK hD hZ hS hF⟩ rfl rfl hl.1 rfl (lv_room (Nat.le_of_ble_eq_true rfl)) dX8_rightOf_79 ⟨Nat.le_of_ble_eq_true rfl, Nat.le_of_ble_eq_true rfl⟩) hS (fun q _ h => hF q h) hF (fun r_5 u t H1 locs ht hvm hw hB hz1 hk1 hS => ?_)
      rw [hw]
      obtain ⟨hP, hD⟩ := pw_back hF ht hB
      clear hB hk1 hz1 hF
      generalize H1 = H at hP hS ⊢
      have hI9 : IX σ := hI
      obtain ⟨rfl, rfl⟩ := Prod.mk.inj (show ((s_X8_holder σ (a1.toNatClampNeg)), σ) = (R1, R2) from hR)
      rw [hQ]
      exact W.iret (v := (s_X8_holder σ (a1.toNatClampNeg))) hx hb hr (fun t ht hW => ⟨⟨(s_X8_holder σ (a1.toNatClampNeg)), (), rfl, rfl, ⟨by rw [ht]; exact hP, va_K.moved hW.alike hK, by rw [← hAe]; exact hD⟩, hI9⟩, hS.F ht⟩) hS.2.2 dX8_rightOf_82
    have hR := (if_neg c_4).symm.trans hR
    by_cases c_6 : a2 = (2 : Int32)
    · have hR := (if_pos c_6).symm.trans hR
      refine lv_tableIn (tgt := 83) hx hb dX8_rightOf_22 (by rw [c_6]; decide) (by rw [c_6]; decide) (by rw [c_6]; rfl) (by decide) ?_
      refine lv_aload_n hx hb dX8_rightOf_83 rfl (lv_at hl 1 rfl) ?_
      refine lv_iload_n hx hb dX8_rightOf_84 rfl (lv_at hl 2 rfl) ?_
      have hF := pw_free hD hS hA
      refine va_calli (va_runV (As := [.int a1]) (rest := []) ⟨hx, hb, hml, hown, hts⟩ (k_X8_countingParts l D ca h ad pa tb σ a1 H.size hI (isx_Right c_2 hI) (isb_Right c_2) _ rfl) (cwV 1 hts gX8_rightOf_X8_countingParts rfl rfl rfl (by decide +kernel) ⟨Nat.le_of_ble_eq_true rfl, Nat.le_of_ble_eq_true rfl⟩) ⟨cw_blind, va_recv hK hP (ci := 8) (q0 := 0) rfl wc_0, cw_give hP hK hD hZ hS hF⟩ rfl rfl hl.1 rfl (lv_room (Nat.le_of_ble_eq_true rfl)) dX8_rightOf_85 ⟨Nat.le_of_ble_eq_true rfl, Nat.le_of_ble_eq_true rfl⟩) hS (fun q _ h => hF q h) hF (fun r_7 u t H1 locs ht hvm hw hB hz1 hk1 hS => ?_)
      rw [hw]
      obtain ⟨hP, hD⟩ := pw_back hF ht hB
      clear hB hk1 hz1 hF
      generalize H1 = H at hP hS ⊢
      have hI9 : IX σ := hI
      obtain ⟨rfl, rfl⟩ := Prod.mk.inj (show ((s_X8_countingParts σ a1), σ) = (R1, R2) from hR)
      rw [hQ]
      exact W.iret (v := (s_X8_countingParts σ a1)) hx hb hr (fun t ht hW => ⟨⟨(s_X8_countingParts σ a1), (), rfl, rfl, ⟨by rw [ht]; exact hP, va_K.moved hW.alike hK, by rw [← hAe]; exact hD⟩, hI9⟩, hS.F ht⟩) hS.2.2 dX8_rightOf_88
    have hR := (if_neg c_6).symm.trans hR
    by_cases c_8 : a2 = (3 : Int32)
    · have hR := (if_pos c_8).symm.trans hR
      refine lv_tableIn (tgt := 89) hx hb dX8_rightOf_22 (by rw [c_8]; decide) (by rw [c_8]; decide) (by rw [c_8]; rfl) (by decide) ?_
      refine lv_aload_n hx hb dX8_rightOf_89 rfl (lv_at hl 0 rfl) ?_
      refine va_get (D := D) (ci := 0) (v := .int (σ 2 (a1.toNatClampNeg))) (C := RX0) (T := TX0) (N := 9) hx hb hts hu0 hown hK hP (pcC ca h ad pa σ (a1.toNatClampNeg)) (wc_aC (isb_Right c_2)) rfl 2 (by decide) (hts (.fieldLink RX8 259 "GrazeBook$Claim" "first" "I") (List.mem_cons_of_mem _ mw_363)) (fun _ h9 => h9) rfl dX8_rightOf_90 ?_
      have hI9 : IX σ := hI
      obtain ⟨rfl, rfl⟩ := Prod.mk.inj (show ((σ 2 (a1.toNatClampNeg)), σ) = (R1, R2) from hR)
      rw [hQ]
      exact W.iret (v := (σ 2 (a1.toNatClampNeg))) hx hb hr (fun t ht hW => ⟨⟨(σ 2 (a1.toNatClampNeg)), (), rfl, rfl, ⟨by rw [ht]; exact hP, va_K.moved hW.alike hK, by rw [← hAe]; exact hD⟩, hI9⟩, hS.F ht⟩) hS.2.2 dX8_rightOf_93
    have hR := (if_neg c_8).symm.trans hR
    by_cases c_9 : a2 = (4 : Int32)
    · have hR := (if_pos c_9).symm.trans hR
      refine lv_tableIn (tgt := 94) hx hb dX8_rightOf_22 (by rw [c_9]; decide) (by rw [c_9]; decide) (by rw [c_9]; rfl) (by decide) ?_
      refine lv_aload_n hx hb dX8_rightOf_94 rfl (lv_at hl 0 rfl) ?_
      refine va_get (D := D) (ci := 0) (v := .int (σ 3 (a1.toNatClampNeg))) (C := RX0) (T := TX0) (N := 9) hx hb hts hu0 hown hK hP (pcC ca h ad pa σ (a1.toNatClampNeg)) (wc_aC (isb_Right c_2)) rfl 3 (by decide) (hts (.fieldLink RX8 149 "GrazeBook$Claim" "last" "I") (List.mem_cons_of_mem _ mw_365)) (fun _ h9 => h9) rfl dX8_rightOf_95 ?_
      have hI9 : IX σ := hI
      obtain ⟨rfl, rfl⟩ := Prod.mk.inj (show ((σ 3 (a1.toNatClampNeg)), σ) = (R1, R2) from hR)
      rw [hQ]
      exact W.iret (v := (σ 3 (a1.toNatClampNeg))) hx hb hr (fun t ht hW => ⟨⟨(σ 3 (a1.toNatClampNeg)), (), rfl, rfl, ⟨by rw [ht]; exact hP, va_K.moved hW.alike hK, by rw [← hAe]; exact hD⟩, hI9⟩, hS.F ht⟩) hS.2.2 dX8_rightOf_98
    have hR := (if_neg c_9).symm.trans hR
    by_cases c_10 : a2 = (5 : Int32)
    · have hR := (if_pos c_10).symm.trans hR
      refine lv_tableIn (tgt := 99) hx hb dX8_rightOf_22 (by rw [c_10]; decide) (by rw [c_10]; decide) (by rw [c_10]; rfl) (by decide) ?_
      refine lv_aload_n hx hb dX8_rightOf_99 rfl (lv_at hl 0 rfl) ?_
      refine va_get (D := D) (ci := 0) (v := .int (σ 8 (a1.toNatClampNeg))) (C := RX0) (T := TX0) (N := 9) hx hb hts hu0 hown hK hP (pcC ca h ad pa σ (a1.toNatClampNeg)) (wc_aC (isb_Right c_2)) rfl 8 (by decide) (hts (.fieldLink RX8 262 "GrazeBook$Claim" "gone" "Z") (List.mem_cons_of_mem _ mw_375)) (fun _ h9 => h9) rfl dX8_rightOf_100 ?_
      refine lv_if_eq (tgt := 110) hx hb dX8_rightOf_103 (by decide) (fun c_11 => ?_) (fun c_11 => ?_)
      · have hR := (if_pos c_11).symm.trans hR
        refine lv_iconst (v := (0 : Int32)) hx hb dX8_rightOf_110 (by decide) ?_
        have hI9 : IX σ := hI
        obtain ⟨rfl, rfl⟩ := Prod.mk.inj (show ((0 : Int32), σ) = (R1, R2) from hR)
        rw [hQ]
        exact W.iret (v := (0 : Int32)) hx hb hr (fun t ht hW => ⟨⟨(0 : Int32), (), rfl, rfl, ⟨by rw [ht]; exact hP, va_K.moved hW.alike hK, by rw [← hAe]; exact hD⟩, hI9⟩, hS.F ht⟩) hS.2.2 dX8_rightOf_111
      · have hR := (if_neg c_11).symm.trans hR
        refine lv_iconst (v := (1 : Int32)) hx hb dX8_rightOf_106 (by decide) ?_
        refine lv_goto (tgt := 111) hx hb dX8_rightOf_107 (by decide) ?_
        have hI9 : IX σ := hI
        obtain ⟨rfl, rfl⟩ := Prod.mk.inj (show ((1 : Int32), σ) = (R1, R2) from hR)
        rw [hQ]
        exact W.iret (v := (1 : Int32)) hx hb hr (fun t ht hW => ⟨⟨(1 : Int32), (), rfl, rfl, ⟨by rw [ht]; exact hP, va_K.moved hW.alike hK, by rw [← hAe]; exact hD⟩, hI9⟩, hS.F ht⟩) hS.2.2 dX8_rightOf_111
    have hR := (if_neg c_10).symm.trans hR
    by_cases c_12 : a2 = (6 : Int32)
    · have hR := (if_pos c_12).symm.trans hR
      refine lv_tableIn (tgt := 112) hx hb dX8_rightOf_22 (by rw [c_12]; decide) (by rw [c_12]; decide) (by rw [c_12]; rfl) (by decide) ?_
      refine lv_aload_n hx hb dX8_rightOf_112 rfl (lv_at hl 0 rfl) ?_
      refine lv_aload_n hx hb dX8_rightOf_113 rfl (lv_at hl 1 rfl) ?_
      refine va_get (D := D) (ci := 8) (v := .int (σ 816 0)) (C := RX8) (T := TX8) (N := 19) hx hb hts hu8 hown hK hP 0 wc_0 rfl 16 (by decide) (hts (.fieldLink RX8 91 "GrazeBook" "day" "I") (List.mem_cons_of_mem _ mw_226)) (fun _ h9 => h9) rfl dX8_rightOf_114 ?_
      have hF := pw_free hD hS hA
      refine va_calli (va_runV (As := [.int (σ 816 0)]) (rest := []) ⟨hx, hb, hml, hown, hts⟩ (k_X0_isInForce l D ca h ad pa tb σ (a1.toNatClampNeg) (σ 816 0) H.size hI (isb_Right c_2) _ rfl) (cwV 1 hts gX8_rightOf_X0_isInForce rfl rfl rfl (by decide +kernel) ⟨Nat.le_of_ble_eq_true rfl, Nat.le_of_ble_eq_true rfl⟩) ⟨cw_blind, va_recv hK hP (ci := 0) (q0 := (pcC ca h ad pa σ (a1.toNatClampNeg))) rfl (wc_aC (isb_Right c_2)), cw_give hP hK hD hZ hS hF⟩ rfl rfl hl.1 rfl (lv_room (Nat.le_of_ble_eq_true rfl)) dX8_rightOf_117 ⟨Nat.le_of_ble_eq_true rfl, Nat.le_of_ble_eq_true rfl⟩) hS (fun q _ h => hF q h) hF (fun r_13 u t H1 locs ht hvm hw hB hz1 hk1 hS => ?_)
      rw [hw]
      obtain ⟨hP, hD⟩ := pw_back hF ht hB
      clear hB hk1 hz1 hF
      generalize H1 = H at hP hS ⊢
      refine lv_if_eq (tgt := 127) hx hb dX8_rightOf_120 (by decide) (fun c_14 => ?_) (fun c_14 => ?_)
      · have hR := (if_pos c_14).symm.trans hR
        refine lv_iconst (v := (0 : Int32)) hx hb dX8_rightOf_127 (by decide) ?_
        have hI9 : IX σ := hI
        obtain ⟨rfl, rfl⟩ := Prod.mk.inj (show ((0 : Int32), σ) = (R1, R2) from hR)
        rw [hQ]
        exact W.iret (v := (0 : Int32)) hx hb hr (fun t ht hW => ⟨⟨(0 : Int32), (), rfl, rfl, ⟨by rw [ht]; exact hP, va_K.moved hW.alike hK, by rw [← hAe]; exact hD⟩, hI9⟩, hS.F ht⟩) hS.2.2 dX8_rightOf_128
      · have hR := (if_neg c_14).symm.trans hR
        refine lv_iconst (v := (1 : Int32)) hx hb dX8_rightOf_123 (by decide) ?_
        refine lv_goto (tgt := 128) hx hb dX8_rightOf_124 (by decide) ?_
        have hI9 : IX σ := hI
        obtain ⟨rfl, rfl⟩ := Prod.mk.inj (show ((1 : Int32), σ) = (R1, R2) from hR)
        rw [hQ]
        exact W.iret (v := (1 : Int32)) hx hb hr (fun t ht hW => ⟨⟨(1 : Int32), (), rfl, rfl, ⟨by rw [ht]; exact hP, va_K.moved hW.alike hK, by rw [← hAe]; exact hD⟩, hI9⟩, hS.F ht⟩) hS.2.2 dX8_rightOf_128
    have hR := (if_neg c_12).symm.trans hR
    by_cases c_15 : a2 = (7 : Int32)
    · have hR := (if_pos c_15).symm.trans hR
      refine lv_tableIn (tgt := 129) hx hb dX8_rightOf_22 (by rw [c_15]; decide) (by rw [c_15]; decide) (by rw [c_15]; rfl) (by decide) ?_
      refine lv_aload_n hx hb dX8_rightOf_129 rfl (lv_at hl 0 rfl) ?_
      refine va_get (D := D) (ci := 0) (v := .int (σ 5 (a1.toNatClampNeg))) (C := RX0) (T := TX0) (N := 9) hx hb hts hu0 hown hK hP (pcC ca h ad pa σ (a1.toNatClampNeg)) (wc_aC (isb_Right c_2)) rfl 5 (by decide) (hts (.fieldLink RX8 266 "GrazeBook$Claim" "source" "I") (List.mem_cons_of_mem _ mw_369)) (fun _ h9 => h9) rfl dX8_rightOf_130 ?_
      have hI9 : IX σ := hI
      obtain ⟨rfl, rfl⟩ := Prod.mk.inj (show ((σ 5 (a1.toNatClampNeg)), σ) = (R1, R2) from hR)
      rw [hQ]
      exact W.iret (v := (σ 5 (a1.toNatClampNeg))) hx hb hr (fun t ht hW => ⟨⟨(σ 5 (a1.toNatClampNeg)), (), rfl, rfl, ⟨by rw [ht]; exact hP, va_K.moved hW.alike hK, by rw [← hAe]; exact hD⟩, hI9⟩, hS.F ht⟩) hS.2.2 dX8_rightOf_133
    have hR := (if_neg c_15).symm.trans hR
    by_cases c_16 : a2 = (8 : Int32)
    · have hR := (if_pos c_16).symm.trans hR
      refine lv_tableIn (tgt := 134) hx hb dX8_rightOf_22 (by rw [c_16]; decide) (by rw [c_16]; decide) (by rw [c_16]; rfl) (by decide) ?_
      refine lv_aload_n hx hb dX8_rightOf_134 rfl (lv_at hl 0 rfl) ?_
      refine va_get (D := D) (ci := 0) (v := .int (σ 7 (a1.toNatClampNeg))) (C := RX0) (T := TX0) (N := 9) hx hb hts hu0 hown hK hP (pcC ca h ad pa σ (a1.toNatClampNeg)) (wc_aC (isb_Right c_2)) rfl 7 (by decide) (hts (.fieldLink RX8 269 "GrazeBook$Claim" "usedOn" "I") (List.mem_cons_of_mem _ mw_373)) (fun _ h9 => h9) rfl dX8_rightOf_135 ?_
      have hI9 : IX σ := hI
      obtain ⟨rfl, rfl⟩ := Prod.mk.inj (show ((σ 7 (a1.toNatClampNeg)), σ) = (R1, R2) from hR)
      rw [hQ]
      exact W.iret (v := (σ 7 (a1.toNatClampNeg))) hx hb hr (fun t ht hW => ⟨⟨(σ 7 (a1.toNatClampNeg)), (), rfl, rfl, ⟨by rw [ht]; exact hP, va_K.moved hW.alike hK, by rw [← hAe]; exact hD⟩, hI9⟩, hS.F ht⟩) hS.2.2 dX8_rightOf_138
    have hR := (if_neg c_16).symm.trans hR
    refine lv_tableOut (tgt := 139) hx hb dX8_rightOf_22 (sw_out8 c_3 c_4 c_6 c_8 c_9 c_10 c_12 c_15 c_16) (by decide) ?_
    refine lv_aload_n hx hb dX8_rightOf_139 rfl (lv_at hl 1 rfl) ?_
    refine lv_bipush (v := (-2 : Int32)) hx hb dX8_rightOf_140 (by decide) ?_
    have hF := pw_free hD hS hA
    refine va_calli (va_runV (As := [.int (-2 : Int32)]) (rest := []) ⟨hx, hb, hml, hown, hts⟩ (k_X8_refuse l D ca h ad pa tb σ (-2 : Int32) H.size hI _ _ (Prod.eta _).symm) (cwV 1 hts gX8_rightOf_X8_refuse rfl rfl rfl (by decide +kernel) ⟨Nat.le_of_ble_eq_true rfl, Nat.le_of_ble_eq_true rfl⟩) ⟨cw_blind, va_recv hK hP (ci := 8) (q0 := 0) rfl wc_0, cw_give hP hK hD hZ hS hF⟩ rfl rfl hl.1 rfl (lv_room (Nat.le_of_ble_eq_true rfl)) dX8_rightOf_142 ⟨Nat.le_of_ble_eq_true rfl, Nat.le_of_ble_eq_true rfl⟩) hS (fun q _ h => hF q h) hF (fun r_17 u t H1 locs ht hvm hw hB hz1 hk1 hS => ?_)
    rw [hw]
    obtain ⟨hB, hI_18⟩ := hB
    obtain ⟨hP, hD⟩ := pw_back hF ht hB
    clear hB hk1 hz1 hF
    generalize H1 = H at hP hS ⊢
    obtain ⟨τc_19, hτc_19⟩ : ∃ t9, (s_X8_refuse σ (-2 : Int32)).2 = t9 := ⟨_, rfl⟩
    rw [hτc_19] at hP hD hI_18
    (try rw [hτc_19] at hR)
    obtain ⟨vc_20, hvc_20⟩ : ∃ t9, (s_X8_refuse σ (-2 : Int32)).1 = t9 := ⟨_, rfl⟩
    rw [hvc_20]
    (try rw [hvc_20] at hR)
    have hI9 : IX τc_19 := hI_18
    obtain ⟨rfl, rfl⟩ := Prod.mk.inj (show (vc_20, τc_19) = (R1, R2) from hR)
    rw [hQ]
    exact W.iret (v := vc_20) hx hb hr (fun t ht hW => ⟨⟨vc_20, (), rfl, rfl, ⟨by rw [ht]; exact hP, va_K.moved hW.alike hK, by rw [← hAe]; exact hD⟩, hI9⟩, hS.F ht⟩) hS.2.2 dX8_rightOf_145
  · have hR := (if_pos c_2).symm.trans hR
    refine lv_aload_n hx hb dX8_rightOf_8 rfl (lv_at hl 0 rfl) ?_
    refine lv_iconst (v := (-1 : Int32)) hx hb dX8_rightOf_9 (by decide) ?_
    have hF := pw_free hD hS hA
    refine va_calli (va_runV (As := [.int (-1 : Int32)]) (rest := []) ⟨hx, hb, hml, hown, hts⟩ (k_X8_refuse l D ca h ad pa tb σ (-1 : Int32) H.size hI _ _ (Prod.eta _).symm) (cwV 1 hts gX8_rightOf_X8_refuse rfl rfl rfl (by decide +kernel) ⟨Nat.le_of_ble_eq_true rfl, Nat.le_of_ble_eq_true rfl⟩) ⟨cw_blind, va_recv hK hP (ci := 8) (q0 := 0) rfl wc_0, cw_give hP hK hD hZ hS hF⟩ rfl rfl hl.1 rfl (lv_room (Nat.le_of_ble_eq_true rfl)) dX8_rightOf_10 ⟨Nat.le_of_ble_eq_true rfl, Nat.le_of_ble_eq_true rfl⟩) hS (fun q _ h => hF q h) hF (fun r_21 u t H1 locs ht hvm hw hB hz1 hk1 hS => ?_)
    rw [hw]
    obtain ⟨hB, hI_22⟩ := hB
    obtain ⟨hP, hD⟩ := pw_back hF ht hB
    clear hB hk1 hz1 hF
    generalize H1 = H at hP hS ⊢
    obtain ⟨τc_23, hτc_23⟩ : ∃ t9, (s_X8_refuse σ (-1 : Int32)).2 = t9 := ⟨_, rfl⟩
    rw [hτc_23] at hP hD hI_22
    (try rw [hτc_23] at hR)
    obtain ⟨vc_24, hvc_24⟩ : ∃ t9, (s_X8_refuse σ (-1 : Int32)).1 = t9 := ⟨_, rfl⟩
    rw [hvc_24]
    (try rw [hvc_24] at hR)
    have hI9 : IX τc_23 := hI_22
    obtain ⟨rfl, rfl⟩ := Prod.mk.inj (show (vc_24, τc_23) = (R1, R2) from hR)
    rw [hQ]
    exact W.iret (v := vc_24) hx hb hr (fun t ht hW => ⟨⟨vc_24, (), rfl, rfl, ⟨by rw [ht]; exact hP, va_K.moved hW.alike hK, by rw [← hAe]; exact hD⟩, hI9⟩, hS.F ht⟩) hS.2.2 dX8_rightOf_13

def s_X8_herdOf (σ : St) (a1 : Int32) (a2 : Int32) : Int32 × St := (if (s_X8_isHerd σ a1) = (0 : Int32) then (((s_X8_refuse σ (-1 : Int32)).1), ((s_X8_refuse σ (-1 : Int32)).2)) else (if a2 = (0 : Int32) then ((σ 200 (a1.toNatClampNeg)), σ) else (if a2 = (1 : Int32) then ((σ 201 (a1.toNatClampNeg)), σ) else (if a2 = (2 : Int32) then ((σ 202 (a1.toNatClampNeg)), σ) else (if a2 = (3 : Int32) then ((σ 203 (a1.toNatClampNeg)), σ) else (if a2 = (4 : Int32) then ((σ 205 (a1.toNatClampNeg)), σ) else (if a2 = (5 : Int32) then ((σ 206 (a1.toNatClampNeg)), σ) else (if a2 = (6 : Int32) then ((s_X2_fee σ (a1.toNatClampNeg) (σ 816 0)), σ) else (((s_X8_refuse σ (-2 : Int32)).1), ((s_X8_refuse σ (-2 : Int32)).2))))))))))
theorem fr_s_X8_herdOf (σ : St) (a1 : Int32) (a2 : Int32) {f : Nat} (h810 : f ≠ 810) : (s_X8_herdOf σ a1 a2 ).2 f = σ f := by
  unfold s_X8_herdOf
  all_goals ((try dsimp only) <;> ((repeat' split) <;> (try simp only [put_fr, ne_eq, not_false_eq_true, h810, fr_s_X8_refuse])))
set_option maxHeartbeats 1000000 in
set_option maxRecDepth 100000 in
theorem k_X8_herdOf (l : Launch) (D : va_G) (ca : Nat → ClassId) (h : Nat) (ad : Nat → Nat) (pa : Nat → Nat → Nat) (tb : Nat) (σ : St) (a1 : Int32) (a2 : Int32) (sz : Nat) (hI : IX σ)  (R1 : Int32) (R2 : St) (hR : s_X8_herdOf σ a1 a2 = (R1, R2)) : Met l yX8_herdOf wsX8_herdOf ({ frames := 2, cells := 0, slots := 0, locals := 42 }) (va_Pc [.ref h, .int a1, .int a2] (cw_pre D ca (WC ca h ad pa σ) sz tb)) (va_Qi (fun (r : Int32) (_ : Unit) => r = R1) (fun (_ : Unit) (t : State) => pw_post D ca (WC ca h ad pa σ) sz (WC ca h ad pa R2) t ∧ IX R2) (va_A (WC ca h ad pa σ) sz)) 0 0 (va_A (WC ca h ad pa σ) sz) := by
  refine Met.ofW (cc := cX8_herdOf) (maxL := 4) (ret := (some .int)) (by decide) rfl ?_
  intro p e s m args below meth c s₁ B hml hv
  obtain ⟨rfl, ⟨hsz, hP, hK, hD0⟩, hZ⟩ := hv
  have hx := B.exec
  have hb := B.bytes
  have hr := B.returns
  have hts := atoms_spec (ws := wsX8_herdOf) B.pre
  have hown : s.vm.findClass RX8 = some m.cls := findClass_of_methodNamed B.named
  have hlocks := B.notSynchronized
  have hu2 : ∀ w ∈ u_ws RX2 TX2 8, w ∈ wsX8_herdOf := fun w h => List.mem_cons_of_mem _ (uw2 w h)
  have hu8 : ∀ w ∈ u_ws RX8 TX8 19, w ∈ wsX8_herdOf := fun w h => List.mem_cons_of_mem _ (uw8 w h)
  subst hsz
  have hD := hD0.self (sz := s.heap.size)
  obtain ⟨A, hAe⟩ : ∃ A, A = va_A (WC ca h ad pa σ) s.heap.size := ⟨_, rfl⟩
  rw [← hAe] at hD hZ ⊢
  have hA : ∀ q : Nat, s.heap.size ≤ q → A q := fun q h => by rw [hAe]; exact Or.inr h
  have hS : va_S A s.heap s.heap [] := va_S.rf
  have hl := lv_entry ([.ref h, .int a1, .int a2]) (n := 4) (Nat.le_of_ble_eq_true rfl)
  rw [lg_entry_eq]
  generalize (lg_sl ([.ref h, .int a1, .int a2]) ++ List.replicate (4 - (lg_sl ([.ref h, .int a1, .int a2])).length) Slot.unset).toArray = ls at hl ⊢
  have hl : lv_has ls 4 [(0, .ref h), (1, .int a1), (2, .int a2)] := hl
  obtain ⟨H, hH⟩ : ∃ H, H = s.heap := ⟨_, rfl⟩
  have hP : va_P D vwCl (WC ca h ad pa σ) H := by rw [hH]; exact hP
  have hS : va_S A s.heap H [] := by rw [hH]; exact hS
  obtain ⟨QQ, hQ⟩ : ∃ Q9, Q9 = MQ below (va_Qi (fun (r : Int32) (_ : Unit) => r = R1) (fun (_ : Unit) (t : State) => pw_post D ca (WC ca h ad pa σ) s.heap.size (WC ca h ad pa R2) t ∧ IX R2) A) ([.ref h, .int a1, .int a2] : List Value).toArray s 0 0 A := ⟨_, rfl⟩
  rw [← hQ]
  show W _ _ _ _ _ _ _ _ _ _ s.heap _ _ _ _ _
  rw [← hH]
  have hR : (if (s_X8_isHerd σ a1) = (0 : Int32) then (((s_X8_refuse σ (-1 : Int32)).1), ((s_X8_refuse σ (-1 : Int32)).2)) else (if a2 = (0 : Int32) then ((σ 200 (a1.toNatClampNeg)), σ) else (if a2 = (1 : Int32) then ((σ 201 (a1.toNatClampNeg)), σ) else (if a2 = (2 : Int32) then ((σ 202 (a1.toNatClampNeg)), σ) else (if a2 = (3 : Int32) then ((σ 203 (a1.toNatClampNeg)), σ) else (if a2 = (4 : Int32) then ((σ 205 (a1.toNatClampNeg)), σ) else (if a2 = (5 : Int32) then ((σ 206 (a1.toNatClampNeg)), σ) else (if a2 = (6 : Int32) then ((s_X2_fee σ (a1.toNatClampNeg) (σ 816 0)), σ) else (((s_X8_refuse σ (-2 : Int32)).1), ((s_X8_refuse σ (-2 : Int32)).2)))))))))) = (R1, R2) := hR
  refine lv_aload_n hx hb dX8_herdOf_0 rfl (lv_at hl 0 rfl) ?_
  refine lv_iload_n hx hb dX8_herdOf_1 rfl (lv_at hl 1 rfl) ?_
  have hF := pw_free hD hS hA
  refine va_calli (va_runV (As := [.int a1]) (rest := []) ⟨hx, hb, hml, hown, hts⟩ (k_X8_isHerd l D ca h ad pa tb σ a1 H.size hI _ rfl) (cwV 1 hts gX8_herdOf_X8_isHerd rfl rfl rfl (by decide +kernel) ⟨Nat.le_of_ble_eq_true rfl, Nat.le_of_ble_eq_true rfl⟩) ⟨cw_blind, va_recv hK hP (ci := 8) (q0 := 0) rfl wc_0, cw_give hP hK hD hZ hS hF⟩ rfl rfl hl.1 rfl (lv_room (Nat.le_of_ble_eq_true rfl)) dX8_herdOf_2 ⟨Nat.le_of_ble_eq_true rfl, Nat.le_of_ble_eq_true rfl⟩) hS (fun q _ h => hF q h) hF (fun r_1 u t H1 locs ht hvm hw hB hz1 hk1 hS => ?_)
  rw [hw]
  obtain ⟨hP, hD⟩ := pw_back hF ht hB
  clear hB hk1 hz1 hF
  generalize H1 = H at hP hS ⊢
  refine lv_if_ne (tgt := 14) hx hb dX8_herdOf_5 (by decide) (fun c_2 => ?_) (fun c_2 => ?_)
  · have hR := (if_neg c_2).symm.trans hR
    refine lv_aload_n hx hb dX8_herdOf_14 rfl (lv_at hl 0 rfl) ?_
    refine va_get (D := D) (ci := 8) (v := .ref (ad 805)) (C := RX8) (T := TX8) (N := 19) hx hb hts hu8 hown hK hP 0 wc_0 rfl 5 (by decide) (hts (.fieldLink RX8 40 "GrazeBook" "herds" "[LGrazeBook$Drove;") (List.mem_cons_of_mem _ mw_215)) (fun _ h9 => h9) rfl dX8_herdOf_15 ?_
    refine lv_iload_n hx hb dX8_herdOf_18 rfl (lv_at hl 1 rfl) ?_
    refine va_aldq_k (k := (a1.toNatClampNeg)) (b := pa 3 (a1.toNatClampNeg)) hx hb hK hP 9 5 wc_9 rfl rfl (rf_at (isb_Herd c_2)) (isx_Herd c_2 hI) dX8_herdOf_19 ?_
    refine lv_astore_n (lv' := [(3, .ref (pa 3 (a1.toNatClampNeg))), (0, .ref h), (1, .int a1), (2, .int a2)]) hx hb dX8_herdOf_20 rfl hl (by decide) rfl (fun ls hl => ?_)
    refine lv_iload_n hx hb dX8_herdOf_21 rfl (lv_at hl 3 rfl) ?_
    by_cases c_3 : a2 = (0 : Int32)
    · have hR := (if_pos c_3).symm.trans hR
      refine lv_tableIn (tgt := 64) hx hb dX8_herdOf_22 (by rw [c_3]; decide) (by rw [c_3]; decide) (by rw [c_3]; rfl) (by decide) ?_
      refine lv_aload_n hx hb dX8_herdOf_64 rfl (lv_at hl 0 rfl) ?_
      refine va_get (D := D) (ci := 2) (v := .int (σ 200 (a1.toNatClampNeg))) (C := RX2) (T := TX2) (N := 8) hx hb hts hu2 hown hK hP (pcD ca h ad pa σ (a1.toNatClampNeg)) (wc_aD (isb_Herd c_2)) rfl 0 (by decide) (hts (.fieldLink RX8 169 "GrazeBook$Drove" "owner" "I") (List.mem_cons_of_mem _ mw_441)) (fun _ h9 => h9) rfl dX8_herdOf_65 ?_
      have hI9 : IX σ := hI
      obtain ⟨rfl, rfl⟩ := Prod.mk.inj (show ((σ 200 (a1.toNatClampNeg)), σ) = (R1, R2) from hR)
      rw [hQ]
      exact W.iret (v := (σ 200 (a1.toNatClampNeg))) hx hb hr (fun t ht hW => ⟨⟨(σ 200 (a1.toNatClampNeg)), (), rfl, rfl, ⟨by rw [ht]; exact hP, va_K.moved hW.alike hK, by rw [← hAe]; exact hD⟩, hI9⟩, hS.F ht⟩) hS.2.2 dX8_herdOf_68
    have hR := (if_neg c_3).symm.trans hR
    by_cases c_4 : a2 = (1 : Int32)
    · have hR := (if_pos c_4).symm.trans hR
      refine lv_tableIn (tgt := 69) hx hb dX8_herdOf_22 (by rw [c_4]; decide) (by rw [c_4]; decide) (by rw [c_4]; rfl) (by decide) ?_
      refine lv_aload_n hx hb dX8_herdOf_69 rfl (lv_at hl 0 rfl) ?_
      refine va_get (D := D) (ci := 2) (v := .int (σ 201 (a1.toNatClampNeg))) (C := RX2) (T := TX2) (N := 8) hx hb hts hu2 hown hK hP (pcD ca h ad pa σ (a1.toNatClampNeg)) (wc_aD (isb_Herd c_2)) rfl 1 (by decide) (hts (.fieldLink RX8 272 "GrazeBook$Drove" "sort" "I") (List.mem_cons_of_mem _ mw_445)) (fun _ h9 => h9) rfl dX8_herdOf_70 ?_
      have hI9 : IX σ := hI
      obtain ⟨rfl, rfl⟩ := Prod.mk.inj (show ((σ 201 (a1.toNatClampNeg)), σ) = (R1, R2) from hR)
      rw [hQ]
      exact W.iret (v := (σ 201 (a1.toNatClampNeg))) hx hb hr (fun t ht hW => ⟨⟨(σ 201 (a1.toNatClampNeg)), (), rfl, rfl, ⟨by rw [ht]; exact hP, va_K.moved hW.alike hK, by rw [← hAe]; exact hD⟩, hI9⟩, hS.F ht⟩) hS.2.2 dX8_herdOf_73
    have hR := (if_neg c_4).symm.trans hR
    by_cases c_5 : a2 = (2 : Int32)
    · have hR := (if_pos c_5).symm.trans hR
      refine lv_tableIn (tgt := 74) hx hb dX8_herdOf_22 (by rw [c_5]; decide) (by rw [c_5]; decide) (by rw [c_5]; rfl) (by decide) ?_
      refine lv_aload_n hx hb dX8_herdOf_74 rfl (lv_at hl 0 rfl) ?_
      refine va_get (D := D) (ci := 2) (v := .int (σ 202 (a1.toNatClampNeg))) (C := RX2) (T := TX2) (N := 8) hx hb hts hu2 hown hK hP (pcD ca h ad pa σ (a1.toNatClampNeg)) (wc_aD (isb_Herd c_2)) rfl 2 (by decide) (hts (.fieldLink RX8 275 "GrazeBook$Drove" "beasts" "I") (List.mem_cons_of_mem _ mw_447)) (fun _ h9 => h9) rfl dX8_herdOf_75 ?_
      have hI9 : IX σ := hI
      obtain ⟨rfl, rfl⟩ := Prod.mk.inj (show ((σ 202 (a1.toNatClampNeg)), σ) = (R1, R2) from hR)
      rw [hQ]
      exact W.iret (v := (σ 202 (a1.toNatClampNeg))) hx hb hr (fun t ht hW => ⟨⟨(σ 202 (a1.toNatClampNeg)), (), rfl, rfl, ⟨by rw [ht]; exact hP, va_K.moved hW.alike hK, by rw [← hAe]; exact hD⟩, hI9⟩, hS.F ht⟩) hS.2.2 dX8_herdOf_78
    have hR := (if_neg c_5).symm.trans hR
    by_cases c_6 : a2 = (3 : Int32)
    · have hR := (if_pos c_6).symm.trans hR
      refine lv_tableIn (tgt := 79) hx hb dX8_herdOf_22 (by rw [c_6]; decide) (by rw [c_6]; decide) (by rw [c_6]; rfl) (by decide) ?_
      refine lv_aload_n hx hb dX8_herdOf_79 rfl (lv_at hl 0 rfl) ?_
      refine va_get (D := D) (ci := 2) (v := .int (σ 203 (a1.toNatClampNeg))) (C := RX2) (T := TX2) (N := 8) hx hb hts hu2 hown hK hP (pcD ca h ad pa σ (a1.toNatClampNeg)) (wc_aD (isb_Herd c_2)) rfl 3 (by decide) (hts (.fieldLink RX8 163 "GrazeBook$Drove" "piece" "I") (List.mem_cons_of_mem _ mw_451)) (fun _ h9 => h9) rfl dX8_herdOf_80 ?_
      have hI9 : IX σ := hI
      obtain ⟨rfl, rfl⟩ := Prod.mk.inj (show ((σ 203 (a1.toNatClampNeg)), σ) = (R1, R2) from hR)
      rw [hQ]
      exact W.iret (v := (σ 203 (a1.toNatClampNeg))) hx hb hr (fun t ht hW => ⟨⟨(σ 203 (a1.toNatClampNeg)), (), rfl, rfl, ⟨by rw [ht]; exact hP, va_K.moved hW.alike hK, by rw [← hAe]; exact hD⟩, hI9⟩, hS.F ht⟩) hS.2.2 dX8_herdOf_83
    have hR := (if_neg c_6).symm.trans hR
    by_cases c_7 : a2 = (4 : Int32)
    · have hR := (if_pos c_7).symm.trans hR
      refine lv_tableIn (tgt := 84) hx hb dX8_herdOf_22 (by rw [c_7]; decide) (by rw [c_7]; decide) (by rw [c_7]; rfl) (by decide) ?_
      refine lv_aload_n hx hb dX8_herdOf_84 rfl (lv_at hl 0 rfl) ?_
      refine va_get (D := D) (ci := 2) (v := .int (σ 205 (a1.toNatClampNeg))) (C := RX2) (T := TX2) (N := 8) hx hb hts hu2 hown hK hP (pcD ca h ad pa σ (a1.toNatClampNeg)) (wc_aD (isb_Herd c_2)) rfl 5 (by decide) (hts (.fieldLink RX8 278 "GrazeBook$Drove" "hunger" "I") (List.mem_cons_of_mem _ mw_455)) (fun _ h9 => h9) rfl dX8_herdOf_85 ?_
      have hI9 : IX σ := hI
      obtain ⟨rfl, rfl⟩ := Prod.mk.inj (show ((σ 205 (a1.toNatClampNeg)), σ) = (R1, R2) from hR)
      rw [hQ]
      exact W.iret (v := (σ 205 (a1.toNatClampNeg))) hx hb hr (fun t ht hW => ⟨⟨(σ 205 (a1.toNatClampNeg)), (), rfl, rfl, ⟨by rw [ht]; exact hP, va_K.moved hW.alike hK, by rw [← hAe]; exact hD⟩, hI9⟩, hS.F ht⟩) hS.2.2 dX8_herdOf_88
    have hR := (if_neg c_7).symm.trans hR
    by_cases c_8 : a2 = (5 : Int32)
    · have hR := (if_pos c_8).symm.trans hR
      refine lv_tableIn (tgt := 89) hx hb dX8_herdOf_22 (by rw [c_8]; decide) (by rw [c_8]; decide) (by rw [c_8]; rfl) (by decide) ?_
      refine lv_aload_n hx hb dX8_herdOf_89 rfl (lv_at hl 0 rfl) ?_
      refine va_get (D := D) (ci := 2) (v := .int (σ 206 (a1.toNatClampNeg))) (C := RX2) (T := TX2) (N := 8) hx hb hts hu2 hown hK hP (pcD ca h ad pa σ (a1.toNatClampNeg)) (wc_aD (isb_Herd c_2)) rfl 6 (by decide) (hts (.fieldLink RX8 160 "GrazeBook$Drove" "state" "I") (List.mem_cons_of_mem _ mw_457)) (fun _ h9 => h9) rfl dX8_herdOf_90 ?_
      have hI9 : IX σ := hI
      obtain ⟨rfl, rfl⟩ := Prod.mk.inj (show ((σ 206 (a1.toNatClampNeg)), σ) = (R1, R2) from hR)
      rw [hQ]
      exact W.iret (v := (σ 206 (a1.toNatClampNeg))) hx hb hr (fun t ht hW => ⟨⟨(σ 206 (a1.toNatClampNeg)), (), rfl, rfl, ⟨by rw [ht]; exact hP, va_K.moved hW.alike hK, by rw [← hAe]; exact hD⟩, hI9⟩, hS.F ht⟩) hS.2.2 dX8_herdOf_93
    have hR := (if_neg c_8).symm.trans hR
    by_cases c_9 : a2 = (6 : Int32)
    · have hR := (if_pos c_9).symm.trans hR
      refine lv_tableIn (tgt := 94) hx hb dX8_herdOf_22 (by rw [c_9]; decide) (by rw [c_9]; decide) (by rw [c_9]; rfl) (by decide) ?_
      refine lv_aload_n hx hb dX8_herdOf_94 rfl (lv_at hl 0 rfl) ?_
      refine lv_aload_n hx hb dX8_herdOf_95 rfl (lv_at hl 1 rfl) ?_
      refine va_get (D := D) (ci := 8) (v := .int (σ 816 0)) (C := RX8) (T := TX8) (N := 19) hx hb hts hu8 hown hK hP 0 wc_0 rfl 16 (by decide) (hts (.fieldLink RX8 91 "GrazeBook" "day" "I") (List.mem_cons_of_mem _ mw_226)) (fun _ h9 => h9) rfl dX8_herdOf_96 ?_
      have hF := pw_free hD hS hA
      refine va_calli (va_runV (As := [.int (σ 816 0)]) (rest := []) ⟨hx, hb, hml, hown, hts⟩ (k_X2_fee l D ca h ad pa tb σ (a1.toNatClampNeg) (σ 816 0) H.size hI (isb_Herd c_2) _ rfl) (cwV 1 hts gX8_herdOf_X2_fee rfl rfl rfl (by decide +kernel) ⟨Nat.le_of_ble_eq_true rfl, Nat.le_of_ble_eq_true rfl⟩) ⟨cw_blind, va_recv hK hP (ci := 2) (q0 := (pcD ca h ad pa σ (a1.toNatClampNeg))) rfl (wc_aD (isb_Herd c_2)), cw_give hP hK hD hZ hS hF⟩ rfl rfl hl.1 rfl (lv_room (Nat.le_of_ble_eq_true rfl)) dX8_herdOf_99 ⟨Nat.le_of_ble_eq_true rfl, Nat.le_of_ble_eq_true rfl⟩) hS (fun q _ h => hF q h) hF (fun r_10 u t H1 locs ht hvm hw hB hz1 hk1 hS => ?_)
      rw [hw]
      obtain ⟨hP, hD⟩ := pw_back hF ht hB
      clear hB hk1 hz1 hF
      generalize H1 = H at hP hS ⊢
      have hI9 : IX σ := hI
      obtain ⟨rfl, rfl⟩ := Prod.mk.inj (show ((s_X2_fee σ (a1.toNatClampNeg) (σ 816 0)), σ) = (R1, R2) from hR)
      rw [hQ]
      exact W.iret (v := (s_X2_fee σ (a1.toNatClampNeg) (σ 816 0))) hx hb hr (fun t ht hW => ⟨⟨(s_X2_fee σ (a1.toNatClampNeg) (σ 816 0)), (), rfl, rfl, ⟨by rw [ht]; exact hP, va_K.moved hW.alike hK, by rw [← hAe]; exact hD⟩, hI9⟩, hS.F ht⟩) hS.2.2 dX8_herdOf_102
    have hR := (if_neg c_9).symm.trans hR
    refine lv_tableOut (tgt := 103) hx hb dX8_herdOf_22 (sw_out6 c_3 c_4 c_5 c_6 c_7 c_8 c_9) (by decide) ?_
    refine lv_aload_n hx hb dX8_herdOf_103 rfl (lv_at hl 1 rfl) ?_
    refine lv_bipush (v := (-2 : Int32)) hx hb dX8_herdOf_104 (by decide) ?_
    have hF := pw_free hD hS hA
    refine va_calli (va_runV (As := [.int (-2 : Int32)]) (rest := []) ⟨hx, hb, hml, hown, hts⟩ (k_X8_refuse l D ca h ad pa tb σ (-2 : Int32) H.size hI _ _ (Prod.eta _).symm) (cwV 1 hts gX8_herdOf_X8_refuse rfl rfl rfl (by decide +kernel) ⟨Nat.le_of_ble_eq_true rfl, Nat.le_of_ble_eq_true rfl⟩) ⟨cw_blind, va_recv hK hP (ci := 8) (q0 := 0) rfl wc_0, cw_give hP hK hD hZ hS hF⟩ rfl rfl hl.1 rfl (lv_room (Nat.le_of_ble_eq_true rfl)) dX8_herdOf_106 ⟨Nat.le_of_ble_eq_true rfl, Nat.le_of_ble_eq_true rfl⟩) hS (fun q _ h => hF q h) hF (fun r_11 u t H1 locs ht hvm hw hB hz1 hk1 hS => ?_)
    rw [hw]
    obtain ⟨hB, hI_12⟩ := hB
    obtain ⟨hP, hD⟩ := pw_back hF ht hB
    clear hB hk1 hz1 hF
    generalize H1 = H at hP hS ⊢
    obtain ⟨τc_13, hτc_13⟩ : ∃ t9, (s_X8_refuse σ (-2 : Int32)).2 = t9 := ⟨_, rfl⟩
    rw [hτc_13] at hP hD hI_12
    (try rw [hτc_13] at hR)
    obtain ⟨vc_14, hvc_14⟩ : ∃ t9, (s_X8_refuse σ (-2 : Int32)).1 = t9 := ⟨_, rfl⟩
    rw [hvc_14]
    (try rw [hvc_14] at hR)
    have hI9 : IX τc_13 := hI_12
    obtain ⟨rfl, rfl⟩ := Prod.mk.inj (show (vc_14, τc_13) = (R1, R2) from hR)
    rw [hQ]
    exact W.iret (v := vc_14) hx hb hr (fun t ht hW => ⟨⟨vc_14, (), rfl, rfl, ⟨by rw [ht]; exact hP, va_K.moved hW.alike hK, by rw [← hAe]; exact hD⟩, hI9⟩, hS.F ht⟩) hS.2.2 dX8_herdOf_109
  · have hR := (if_pos c_2).symm.trans hR
    refine lv_aload_n hx hb dX8_herdOf_8 rfl (lv_at hl 0 rfl) ?_
    refine lv_iconst (v := (-1 : Int32)) hx hb dX8_herdOf_9 (by decide) ?_
    have hF := pw_free hD hS hA
    refine va_calli (va_runV (As := [.int (-1 : Int32)]) (rest := []) ⟨hx, hb, hml, hown, hts⟩ (k_X8_refuse l D ca h ad pa tb σ (-1 : Int32) H.size hI _ _ (Prod.eta _).symm) (cwV 1 hts gX8_herdOf_X8_refuse rfl rfl rfl (by decide +kernel) ⟨Nat.le_of_ble_eq_true rfl, Nat.le_of_ble_eq_true rfl⟩) ⟨cw_blind, va_recv hK hP (ci := 8) (q0 := 0) rfl wc_0, cw_give hP hK hD hZ hS hF⟩ rfl rfl hl.1 rfl (lv_room (Nat.le_of_ble_eq_true rfl)) dX8_herdOf_10 ⟨Nat.le_of_ble_eq_true rfl, Nat.le_of_ble_eq_true rfl⟩) hS (fun q _ h => hF q h) hF (fun r_15 u t H1 locs ht hvm hw hB hz1 hk1 hS => ?_)
    rw [hw]
    obtain ⟨hB, hI_16⟩ := hB
    obtain ⟨hP, hD⟩ := pw_back hF ht hB
    clear hB hk1 hz1 hF
    generalize H1 = H at hP hS ⊢
    obtain ⟨τc_17, hτc_17⟩ : ∃ t9, (s_X8_refuse σ (-1 : Int32)).2 = t9 := ⟨_, rfl⟩
    rw [hτc_17] at hP hD hI_16
    (try rw [hτc_17] at hR)
    obtain ⟨vc_18, hvc_18⟩ : ∃ t9, (s_X8_refuse σ (-1 : Int32)).1 = t9 := ⟨_, rfl⟩
    rw [hvc_18]
    (try rw [hvc_18] at hR)
    have hI9 : IX τc_17 := hI_16
    obtain ⟨rfl, rfl⟩ := Prod.mk.inj (show (vc_18, τc_17) = (R1, R2) from hR)
    rw [hQ]
    exact W.iret (v := vc_18) hx hb hr (fun t ht hW => ⟨⟨vc_18, (), rfl, rfl, ⟨by rw [ht]; exact hP, va_K.moved hW.alike hK, by rw [← hAe]; exact hD⟩, hI9⟩, hS.F ht⟩) hS.2.2 dX8_herdOf_13

def s_X8_ownerOf (σ : St) (a1 : Int32) (a2 : Int32) : Int32 × St := (if a1 = (-1 : Int32) then (if a2 = (0 : Int32) then ((σ 590 0), σ) else (if a2 = (1 : Int32) then ((σ 591 0), σ) else (if a2 = (2 : Int32) then ((s_X1_partsOut (s_X8_coverOf σ a1)), (s_X8_coverOf σ a1)) else (if a2 = (3 : Int32) then ((s_X1_partsHeld (s_X8_coverOf σ a1)), (s_X8_coverOf σ a1)) else (((s_X8_refuse σ (-2 : Int32)).1), ((s_X8_refuse σ (-2 : Int32)).2)))))) else (if (s_X8_isOwner σ a1) = (0 : Int32) then (((s_X8_refuse σ (-1 : Int32)).1), ((s_X8_refuse σ (-1 : Int32)).2)) else (if a2 = (0 : Int32) then ((σ 500 (a1.toNatClampNeg)), σ) else (if a2 = (1 : Int32) then ((σ 501 (a1.toNatClampNeg)), σ) else (if a2 = (2 : Int32) then ((s_X1_partsOut (s_X8_coverOf σ a1)), (s_X8_coverOf σ a1)) else (if a2 = (3 : Int32) then ((s_X1_partsHeld (s_X8_coverOf σ a1)), (s_X8_coverOf σ a1)) else (((s_X8_refuse σ (-2 : Int32)).1), ((s_X8_refuse σ (-2 : Int32)).2))))))))
theorem fr_s_X8_ownerOf (σ : St) (a1 : Int32) (a2 : Int32) {f : Nat} (h100 : f ≠ 100) (h101 : f ≠ 101) (h102 : f ≠ 102) (h103 : f ≠ 103) (h104 : f ≠ 104) (h810 : f ≠ 810) : (s_X8_ownerOf σ a1 a2 ).2 f = σ f := by
  unfold s_X8_ownerOf
  all_goals ((try dsimp only) <;> ((repeat' split) <;> (try simp only [put_fr, ne_eq, not_false_eq_true, h100, h101, h102, h103, h104, h810, fr_s_X8_refuse, fr_s_X8_coverOf])))
set_option maxHeartbeats 1000000 in
set_option maxRecDepth 100000 in
theorem k_X8_ownerOf (l : Launch) (D : va_G) (ca : Nat → ClassId) (h : Nat) (ad : Nat → Nat) (pa : Nat → Nat → Nat) (tb : Nat) (σ : St) (a1 : Int32) (a2 : Int32) (sz : Nat) (hI : IX σ)  (R1 : Int32) (R2 : St) (hR : s_X8_ownerOf σ a1 a2 = (R1, R2)) : Met l yX8_ownerOf wsX8_ownerOf ({ frames := 3, cells := 0, slots := 0, locals := 66 }) (va_Pc [.ref h, .int a1, .int a2] (cw_pre D ca (WC ca h ad pa σ) sz tb)) (va_Qi (fun (r : Int32) (_ : Unit) => r = R1) (fun (_ : Unit) (t : State) => pw_post D ca (WC ca h ad pa σ) sz (WC ca h ad pa R2) t ∧ IX R2) (va_A (WC ca h ad pa σ) sz)) 0 0 (va_A (WC ca h ad pa σ) sz) := by
  refine Met.ofW (cc := cX8_ownerOf) (maxL := 5) (ret := (some .int)) (by decide) rfl ?_
  intro p e s m args below meth c s₁ B hml hv
  obtain ⟨rfl, ⟨hsz, hP, hK, hD0⟩, hZ⟩ := hv
  have hx := B.exec
  have hb := B.bytes
  have hr := B.returns
  have hts := atoms_spec (ws := wsX8_ownerOf) B.pre
  have hown : s.vm.findClass RX8 = some m.cls := findClass_of_methodNamed B.named
  have hlocks := B.notSynchronized
  have hu5 : ∀ w ∈ u_ws RX5 TX5 2, w ∈ wsX8_ownerOf := fun w h => List.mem_cons_of_mem _ (uw5 w h)
  have hu8 : ∀ w ∈ u_ws RX8 TX8 19, w ∈ wsX8_ownerOf := fun w h => List.mem_cons_of_mem _ (uw8 w h)
  subst hsz
  have hD := hD0.self (sz := s.heap.size)
  obtain ⟨A, hAe⟩ : ∃ A, A = va_A (WC ca h ad pa σ) s.heap.size := ⟨_, rfl⟩
  rw [← hAe] at hD hZ ⊢
  have hA : ∀ q : Nat, s.heap.size ≤ q → A q := fun q h => by rw [hAe]; exact Or.inr h
  have hS : va_S A s.heap s.heap [] := va_S.rf
  have hl := lv_entry ([.ref h, .int a1, .int a2]) (n := 5) (Nat.le_of_ble_eq_true rfl)
  rw [lg_entry_eq]
  generalize (lg_sl ([.ref h, .int a1, .int a2]) ++ List.replicate (5 - (lg_sl ([.ref h, .int a1, .int a2])).length) Slot.unset).toArray = ls at hl ⊢
  have hl : lv_has ls 5 [(0, .ref h), (1, .int a1), (2, .int a2)] := hl
  obtain ⟨H, hH⟩ : ∃ H, H = s.heap := ⟨_, rfl⟩
  have hP : va_P D vwCl (WC ca h ad pa σ) H := by rw [hH]; exact hP
  have hS : va_S A s.heap H [] := by rw [hH]; exact hS
  obtain ⟨QQ, hQ⟩ : ∃ Q9, Q9 = MQ below (va_Qi (fun (r : Int32) (_ : Unit) => r = R1) (fun (_ : Unit) (t : State) => pw_post D ca (WC ca h ad pa σ) s.heap.size (WC ca h ad pa R2) t ∧ IX R2) A) ([.ref h, .int a1, .int a2] : List Value).toArray s 0 0 A := ⟨_, rfl⟩
  rw [← hQ]
  show W _ _ _ _ _ _ _ _ _ _ s.heap _ _ _ _ _
  rw [← hH]
  have hR : (if a1 = (-1 : Int32) then (if a2 = (0 : Int32) then ((σ 590 0), σ) else (if a2 = (1 : Int32) then ((σ 591 0), σ) else (if a2 = (2 : Int32) then ((s_X1_partsOut (s_X8_coverOf σ a1)), (s_X8_coverOf σ a1)) else (if a2 = (3 : Int32) then ((s_X1_partsHeld (s_X8_coverOf σ a1)), (s_X8_coverOf σ a1)) else (((s_X8_refuse σ (-2 : Int32)).1), ((s_X8_refuse σ (-2 : Int32)).2)))))) else (if (s_X8_isOwner σ a1) = (0 : Int32) then (((s_X8_refuse σ (-1 : Int32)).1), ((s_X8_refuse σ (-1 : Int32)).2)) else (if a2 = (0 : Int32) then ((σ 500 (a1.toNatClampNeg)), σ) else (if a2 = (1 : Int32) then ((σ 501 (a1.toNatClampNeg)), σ) else (if a2 = (2 : Int32) then ((s_X1_partsOut (s_X8_coverOf σ a1)), (s_X8_coverOf σ a1)) else (if a2 = (3 : Int32) then ((s_X1_partsHeld (s_X8_coverOf σ a1)), (s_X8_coverOf σ a1)) else (((s_X8_refuse σ (-2 : Int32)).1), ((s_X8_refuse σ (-2 : Int32)).2)))))))) = (R1, R2) := hR
  refine lv_iload_n hx hb dX8_ownerOf_0 rfl (lv_at hl 1 rfl) ?_
  refine lv_iconst (v := (-1 : Int32)) hx hb dX8_ownerOf_1 (by decide) ?_
  refine lv_icmp_ne (tgt := 9) hx hb dX8_ownerOf_2 (by decide) (fun c_1 => ?_) (fun c_1 => ?_)
  · have hR := (if_neg c_1).symm.trans hR
    refine lv_iconst (v := (0 : Int32)) hx hb dX8_ownerOf_9 (by decide) ?_
    refine lv_istore_n (lv' := [(3, .int (0 : Int32)), (0, .ref h), (1, .int a1), (2, .int a2)]) hx hb dX8_ownerOf_10 rfl hl (by decide) rfl (fun ls hl => ?_)
    refine lv_iload_n hx hb dX8_ownerOf_11 rfl (lv_at hl 0 rfl) ?_
    refine lv_if_ne (tgt := 29) hx hb dX8_ownerOf_12 (by decide) (fun c_2 => absurd (by decide) c_2) (fun _ => ?_)
    refine lv_aload_n hx hb dX8_ownerOf_15 rfl (lv_at hl 1 rfl) ?_
    refine lv_iload_n hx hb dX8_ownerOf_16 rfl (lv_at hl 2 rfl) ?_
    have hF := pw_free hD hS hA
    refine va_calli (va_runV (As := [.int a1]) (rest := []) ⟨hx, hb, hml, hown, hts⟩ (k_X8_isOwner l D ca h ad pa tb σ a1 H.size hI _ rfl) (cwV 1 hts gX8_ownerOf_X8_isOwner rfl rfl rfl (by decide +kernel) ⟨Nat.le_of_ble_eq_true rfl, Nat.le_of_ble_eq_true rfl⟩) ⟨cw_blind, va_recv hK hP (ci := 8) (q0 := 0) rfl wc_0, cw_give hP hK hD hZ hS hF⟩ rfl rfl hl.1 rfl (lv_room (Nat.le_of_ble_eq_true rfl)) dX8_ownerOf_17 ⟨Nat.le_of_ble_eq_true rfl, Nat.le_of_ble_eq_true rfl⟩) hS (fun q _ h => hF q h) hF (fun r_3 u t H1 locs ht hvm hw hB hz1 hk1 hS => ?_)
    rw [hw]
    obtain ⟨hP, hD⟩ := pw_back hF ht hB
    clear hB hk1 hz1 hF
    generalize H1 = H at hP hS ⊢
    refine lv_if_ne (tgt := 29) hx hb dX8_ownerOf_20 (by decide) (fun c_4 => ?_) (fun c_4 => ?_)
    · have hR := (if_neg c_4).symm.trans hR
      refine lv_iload_n hx hb dX8_ownerOf_29 rfl (lv_at hl 0 rfl) ?_
      refine lv_if_eq (tgt := 40) hx hb dX8_ownerOf_30 (by decide) (fun _ => ?_) (fun c_5 => absurd (by decide) c_5)
      refine lv_aload_n hx hb dX8_ownerOf_40 rfl (lv_at hl 1 rfl) ?_
      refine va_get (D := D) (ci := 8) (v := .ref (ad 801)) (C := RX8) (T := TX8) (N := 19) hx hb hts hu8 hown hK hP 0 wc_0 rfl 1 (by decide) (hts (.fieldLink RX8 17 "GrazeBook" "owners" "[LGrazeBook$Purse;") (List.mem_cons_of_mem _ mw_211)) (fun _ h9 => h9) rfl dX8_ownerOf_41 ?_
      refine lv_iload_n hx hb dX8_ownerOf_44 rfl (lv_at hl 2 rfl) ?_
      refine va_aldq_k (k := (a1.toNatClampNeg)) (b := pa 1 (a1.toNatClampNeg)) hx hb hK hP 7 3 wc_7 rfl rfl (rf_at (isb_Owner c_4)) (isx_Owner c_4 hI) dX8_ownerOf_45 ?_
      refine lv_astore (lv' := [(4, .ref (pa 1 (a1.toNatClampNeg))), (3, .int (0 : Int32)), (0, .ref h), (1, .int a1), (2, .int a2)]) hx hb dX8_ownerOf_46 hl (by decide) rfl (fun ls hl => ?_)
      refine lv_iload_n hx hb dX8_ownerOf_48 rfl (lv_at hl 4 rfl) ?_
      by_cases c_6 : a2 = (0 : Int32)
      · have hR := (if_pos c_6).symm.trans hR
        refine lv_tableIn (tgt := 80) hx hb dX8_ownerOf_49 (by rw [c_6]; decide) (by rw [c_6]; decide) (by rw [c_6]; rfl) (by decide) ?_
        refine lv_aload hx hb dX8_ownerOf_80 (lv_at hl 0 rfl) ?_
        refine va_get (D := D) (ci := 5) (v := .int (σ 500 (a1.toNatClampNeg))) (C := RX5) (T := TX5) (N := 2) hx hb hts hu5 hown hK hP (pcU ca h ad pa σ (a1.toNatClampNeg)) (wc_aU (isb_Owner c_4)) rfl 0 (by decide) (hts (.fieldLink RX8 228 "GrazeBook$Purse" "coins" "I") (List.mem_cons_of_mem _ mw_88)) (fun _ h9 => h9) rfl dX8_ownerOf_82 ?_
        have hI9 : IX σ := hI
        obtain ⟨rfl, rfl⟩ := Prod.mk.inj (show ((σ 500 (a1.toNatClampNeg)), σ) = (R1, R2) from hR)
        rw [hQ]
        exact W.iret (v := (σ 500 (a1.toNatClampNeg))) hx hb hr (fun t ht hW => ⟨⟨(σ 500 (a1.toNatClampNeg)), (), rfl, rfl, ⟨by rw [ht]; exact hP, va_K.moved hW.alike hK, by rw [← hAe]; exact hD⟩, hI9⟩, hS.F ht⟩) hS.2.2 dX8_ownerOf_85
      have hR := (if_neg c_6).symm.trans hR
      by_cases c_7 : a2 = (1 : Int32)
      · have hR := (if_pos c_7).symm.trans hR
        refine lv_tableIn (tgt := 86) hx hb dX8_ownerOf_49 (by rw [c_7]; decide) (by rw [c_7]; decide) (by rw [c_7]; rfl) (by decide) ?_
        refine lv_aload hx hb dX8_ownerOf_86 (lv_at hl 0 rfl) ?_
        refine va_get (D := D) (ci := 5) (v := .int (σ 501 (a1.toNatClampNeg))) (C := RX5) (T := TX5) (N := 2) hx hb hts hu5 hown hK hP (pcU ca h ad pa σ (a1.toNatClampNeg)) (wc_aU (isb_Owner c_4)) rfl 1 (by decide) (hts (.fieldLink RX8 281 "GrazeBook$Purse" "hay" "I") (List.mem_cons_of_mem _ mw_90)) (fun _ h9 => h9) rfl dX8_ownerOf_88 ?_
        have hI9 : IX σ := hI
        obtain ⟨rfl, rfl⟩ := Prod.mk.inj (show ((σ 501 (a1.toNatClampNeg)), σ) = (R1, R2) from hR)
        rw [hQ]
        exact W.iret (v := (σ 501 (a1.toNatClampNeg))) hx hb hr (fun t ht hW => ⟨⟨(σ 501 (a1.toNatClampNeg)), (), rfl, rfl, ⟨by rw [ht]; exact hP, va_K.moved hW.alike hK, by rw [← hAe]; exact hD⟩, hI9⟩, hS.F ht⟩) hS.2.2 dX8_ownerOf_91
      have hR := (if_neg c_7).symm.trans hR
      by_cases c_8 : a2 = (2 : Int32)
      · have hR := (if_pos c_8).symm.trans hR
        refine lv_tableIn (tgt := 92) hx hb dX8_ownerOf_49 (by rw [c_8]; decide) (by rw [c_8]; decide) (by rw [c_8]; rfl) (by decide) ?_
        refine lv_aload_n hx hb dX8_ownerOf_92 rfl (lv_at hl 2 rfl) ?_
        refine lv_iload_n hx hb dX8_ownerOf_93 rfl (lv_at hl 3 rfl) ?_
        have hF := pw_free hD hS hA
        refine va_callr (va_runV (As := [.int a1]) (rest := []) ⟨hx, hb, hml, hown, hts⟩ (k_X8_coverOf l D ca h ad pa tb σ a1 H.size hI _ rfl) (cwV 1 hts gX8_ownerOf_X8_coverOf rfl rfl rfl (by decide +kernel) ⟨Nat.le_of_ble_eq_true rfl, Nat.le_of_ble_eq_true rfl⟩) ⟨cw_blind, va_recv hK hP (ci := 8) (q0 := 0) rfl wc_0, cw_give hP hK hD hZ hS hF⟩ rfl rfl hl.1 rfl (lv_room (Nat.le_of_ble_eq_true rfl)) dX8_ownerOf_94 ⟨Nat.le_of_ble_eq_true rfl, Nat.le_of_ble_eq_true rfl⟩) hS (fun q _ h => hF q h) hF (fun u r_9 t H1 locs ht hvm hw hB hz1 hk1 hS => ?_)
        obtain ⟨er_9, hB⟩ := hB
        subst er_9
        obtain ⟨hB, hI_10⟩ := hB
        obtain ⟨hP, hD⟩ := pw_back hF ht hB
        clear hB hk1 hz1 hF
        generalize H1 = H at hP hS ⊢
        obtain ⟨τc_11, hτc_11⟩ : ∃ t9, (s_X8_coverOf σ a1) = t9 := ⟨_, rfl⟩
        rw [hτc_11] at hP hD hI_10
        (try rw [hτc_11] at hR)
        have hF := pw_free hD hS hA
        refine va_calli (va_runV (As := []) (rest := []) ⟨hx, hb, hml, hown, hts⟩ (k_X1_partsOut l D ca h ad pa tb τc_11 H.size hI_10 _ rfl) (cwV 0 hts gX8_ownerOf_X1_partsOut rfl rfl rfl (by decide +kernel) ⟨Nat.le_of_ble_eq_true rfl, Nat.le_of_ble_eq_true rfl⟩) ⟨cw_blind, va_recv hK hP (ci := 1) (q0 := 3) rfl wc_3, cw_give hP hK hD hZ hS hF⟩ rfl rfl hl.1 rfl (lv_room (Nat.le_of_ble_eq_true rfl)) dX8_ownerOf_97 ⟨Nat.le_of_ble_eq_true rfl, Nat.le_of_ble_eq_true rfl⟩) hS (fun q _ h => hF q h) hF (fun r_12 u t H1 locs ht hvm hw hB hz1 hk1 hS => ?_)
        rw [hw]
        obtain ⟨hP, hD⟩ := pw_back hF ht hB
        clear hB hk1 hz1 hF
        generalize H1 = H at hP hS ⊢
        have hI9 : IX τc_11 := hI_10
        obtain ⟨rfl, rfl⟩ := Prod.mk.inj (show ((s_X1_partsOut τc_11), τc_11) = (R1, R2) from hR)
        rw [hQ]
        exact W.iret (v := (s_X1_partsOut τc_11)) hx hb hr (fun t ht hW => ⟨⟨(s_X1_partsOut τc_11), (), rfl, rfl, ⟨by rw [ht]; exact hP, va_K.moved hW.alike hK, by rw [← hAe]; exact hD⟩, hI9⟩, hS.F ht⟩) hS.2.2 dX8_ownerOf_100
      have hR := (if_neg c_8).symm.trans hR
      by_cases c_13 : a2 = (3 : Int32)
      · have hR := (if_pos c_13).symm.trans hR
        refine lv_tableIn (tgt := 101) hx hb dX8_ownerOf_49 (by rw [c_13]; decide) (by rw [c_13]; decide) (by rw [c_13]; rfl) (by decide) ?_
        refine lv_aload_n hx hb dX8_ownerOf_101 rfl (lv_at hl 2 rfl) ?_
        refine lv_iload_n hx hb dX8_ownerOf_102 rfl (lv_at hl 3 rfl) ?_
        have hF := pw_free hD hS hA
        refine va_callr (va_runV (As := [.int a1]) (rest := []) ⟨hx, hb, hml, hown, hts⟩ (k_X8_coverOf l D ca h ad pa tb σ a1 H.size hI _ rfl) (cwV 1 hts gX8_ownerOf_X8_coverOf rfl rfl rfl (by decide +kernel) ⟨Nat.le_of_ble_eq_true rfl, Nat.le_of_ble_eq_true rfl⟩) ⟨cw_blind, va_recv hK hP (ci := 8) (q0 := 0) rfl wc_0, cw_give hP hK hD hZ hS hF⟩ rfl rfl hl.1 rfl (lv_room (Nat.le_of_ble_eq_true rfl)) dX8_ownerOf_103 ⟨Nat.le_of_ble_eq_true rfl, Nat.le_of_ble_eq_true rfl⟩) hS (fun q _ h => hF q h) hF (fun u r_14 t H1 locs ht hvm hw hB hz1 hk1 hS => ?_)
        obtain ⟨er_14, hB⟩ := hB
        subst er_14
        obtain ⟨hB, hI_15⟩ := hB
        obtain ⟨hP, hD⟩ := pw_back hF ht hB
        clear hB hk1 hz1 hF
        generalize H1 = H at hP hS ⊢
        obtain ⟨τc_16, hτc_16⟩ : ∃ t9, (s_X8_coverOf σ a1) = t9 := ⟨_, rfl⟩
        rw [hτc_16] at hP hD hI_15
        (try rw [hτc_16] at hR)
        have hF := pw_free hD hS hA
        refine va_calli (va_runV (As := []) (rest := []) ⟨hx, hb, hml, hown, hts⟩ (k_X1_partsHeld l D ca h ad pa tb τc_16 H.size hI_15 _ rfl) (cwV 0 hts gX8_ownerOf_X1_partsHeld rfl rfl rfl (by decide +kernel) ⟨Nat.le_of_ble_eq_true rfl, Nat.le_of_ble_eq_true rfl⟩) ⟨cw_blind, va_recv hK hP (ci := 1) (q0 := 3) rfl wc_3, cw_give hP hK hD hZ hS hF⟩ rfl rfl hl.1 rfl (lv_room (Nat.le_of_ble_eq_true rfl)) dX8_ownerOf_106 ⟨Nat.le_of_ble_eq_true rfl, Nat.le_of_ble_eq_true rfl⟩) hS (fun q _ h => hF q h) hF (fun r_17 u t H1 locs ht hvm hw hB hz1 hk1 hS => ?_)
        rw [hw]
        obtain ⟨hP, hD⟩ := pw_back hF ht hB
        clear hB hk1 hz1 hF
        generalize H1 = H at hP hS ⊢
        have hI9 : IX τc_16 := hI_15
        obtain ⟨rfl, rfl⟩ := Prod.mk.inj (show ((s_X1_partsHeld τc_16), τc_16) = (R1, R2) from hR)
        rw [hQ]
        exact W.iret (v := (s_X1_partsHeld τc_16)) hx hb hr (fun t ht hW => ⟨⟨(s_X1_partsHeld τc_16), (), rfl, rfl, ⟨by rw [ht]; exact hP, va_K.moved hW.alike hK, by rw [← hAe]; exact hD⟩, hI9⟩, hS.F ht⟩) hS.2.2 dX8_ownerOf_109
      have hR := (if_neg c_13).symm.trans hR
      refine lv_tableOut (tgt := 110) hx hb dX8_ownerOf_49 (sw_out3 c_6 c_7 c_8 c_13) (by decide) ?_
      refine lv_aload_n hx hb dX8_ownerOf_110 rfl (lv_at hl 2 rfl) ?_
      refine lv_bipush (v := (-2 : Int32)) hx hb dX8_ownerOf_111 (by decide) ?_
      have hF := pw_free hD hS hA
      refine va_calli (va_runV (As := [.int (-2 : Int32)]) (rest := []) ⟨hx, hb, hml, hown, hts⟩ (k_X8_refuse l D ca h ad pa tb σ (-2 : Int32) H.size hI _ _ (Prod.eta _).symm) (cwV 1 hts gX8_ownerOf_X8_refuse rfl rfl rfl (by decide +kernel) ⟨Nat.le_of_ble_eq_true rfl, Nat.le_of_ble_eq_true rfl⟩) ⟨cw_blind, va_recv hK hP (ci := 8) (q0 := 0) rfl wc_0, cw_give hP hK hD hZ hS hF⟩ rfl rfl hl.1 rfl (lv_room (Nat.le_of_ble_eq_true rfl)) dX8_ownerOf_113 ⟨Nat.le_of_ble_eq_true rfl, Nat.le_of_ble_eq_true rfl⟩) hS (fun q _ h => hF q h) hF (fun r_18 u t H1 locs ht hvm hw hB hz1 hk1 hS => ?_)
      rw [hw]
      obtain ⟨hB, hI_19⟩ := hB
      obtain ⟨hP, hD⟩ := pw_back hF ht hB
      clear hB hk1 hz1 hF
      generalize H1 = H at hP hS ⊢
      obtain ⟨τc_20, hτc_20⟩ : ∃ t9, (s_X8_refuse σ (-2 : Int32)).2 = t9 := ⟨_, rfl⟩
      rw [hτc_20] at hP hD hI_19
      (try rw [hτc_20] at hR)
      obtain ⟨vc_21, hvc_21⟩ : ∃ t9, (s_X8_refuse σ (-2 : Int32)).1 = t9 := ⟨_, rfl⟩
      rw [hvc_21]
      (try rw [hvc_21] at hR)
      have hI9 : IX τc_20 := hI_19
      obtain ⟨rfl, rfl⟩ := Prod.mk.inj (show (vc_21, τc_20) = (R1, R2) from hR)
      rw [hQ]
      exact W.iret (v := vc_21) hx hb hr (fun t ht hW => ⟨⟨vc_21, (), rfl, rfl, ⟨by rw [ht]; exact hP, va_K.moved hW.alike hK, by rw [← hAe]; exact hD⟩, hI9⟩, hS.F ht⟩) hS.2.2 dX8_ownerOf_116
    · have hR := (if_pos c_4).symm.trans hR
      refine lv_aload_n hx hb dX8_ownerOf_23 rfl (lv_at hl 1 rfl) ?_
      refine lv_iconst (v := (-1 : Int32)) hx hb dX8_ownerOf_24 (by decide) ?_
      have hF := pw_free hD hS hA
      refine va_calli (va_runV (As := [.int (-1 : Int32)]) (rest := []) ⟨hx, hb, hml, hown, hts⟩ (k_X8_refuse l D ca h ad pa tb σ (-1 : Int32) H.size hI _ _ (Prod.eta _).symm) (cwV 1 hts gX8_ownerOf_X8_refuse rfl rfl rfl (by decide +kernel) ⟨Nat.le_of_ble_eq_true rfl, Nat.le_of_ble_eq_true rfl⟩) ⟨cw_blind, va_recv hK hP (ci := 8) (q0 := 0) rfl wc_0, cw_give hP hK hD hZ hS hF⟩ rfl rfl hl.1 rfl (lv_room (Nat.le_of_ble_eq_true rfl)) dX8_ownerOf_25 ⟨Nat.le_of_ble_eq_true rfl, Nat.le_of_ble_eq_true rfl⟩) hS (fun q _ h => hF q h) hF (fun r_22 u t H1 locs ht hvm hw hB hz1 hk1 hS => ?_)
      rw [hw]
      obtain ⟨hB, hI_23⟩ := hB
      obtain ⟨hP, hD⟩ := pw_back hF ht hB
      clear hB hk1 hz1 hF
      generalize H1 = H at hP hS ⊢
      obtain ⟨τc_24, hτc_24⟩ : ∃ t9, (s_X8_refuse σ (-1 : Int32)).2 = t9 := ⟨_, rfl⟩
      rw [hτc_24] at hP hD hI_23
      (try rw [hτc_24] at hR)
      obtain ⟨vc_25, hvc_25⟩ : ∃ t9, (s_X8_refuse σ (-1 : Int32)).1 = t9 := ⟨_, rfl⟩
      rw [hvc_25]
      (try rw [hvc_25] at hR)
      have hI9 : IX τc_24 := hI_23
      obtain ⟨rfl, rfl⟩ := Prod.mk.inj (show (vc_25, τc_24) = (R1, R2) from hR)
      rw [hQ]
      exact W.iret (v := vc_25) hx hb hr (fun t ht hW => ⟨⟨vc_25, (), rfl, rfl, ⟨by rw [ht]; exact hP, va_K.moved hW.alike hK, by rw [← hAe]; exact hD⟩, hI9⟩, hS.F ht⟩) hS.2.2 dX8_ownerOf_28
  · have hR := (if_pos c_1).symm.trans hR
    refine lv_iconst (v := (1 : Int32)) hx hb dX8_ownerOf_5 (by decide) ?_
    refine lv_goto (tgt := 10) hx hb dX8_ownerOf_6 (by decide) ?_
    refine lv_istore_n (lv' := [(3, .int (1 : Int32)), (0, .ref h), (1, .int a1), (2, .int a2)]) hx hb dX8_ownerOf_10 rfl hl (by decide) rfl (fun ls hl => ?_)
    refine lv_iload_n hx hb dX8_ownerOf_11 rfl (lv_at hl 0 rfl) ?_
    refine lv_if_ne (tgt := 29) hx hb dX8_ownerOf_12 (by decide) (fun _ => ?_) (fun c_26 => absurd c_26 (by decide))
    refine lv_iload_n hx hb dX8_ownerOf_29 rfl (lv_at hl 0 rfl) ?_
    refine lv_if_eq (tgt := 40) hx hb dX8_ownerOf_30 (by decide) (fun c_27 => absurd c_27 (by decide)) (fun _ => ?_)
    refine lv_aload_n hx hb dX8_ownerOf_33 rfl (lv_at hl 1 rfl) ?_
    refine va_get (D := D) (ci := 8) (v := .ref (ad 802)) (C := RX8) (T := TX8) (N := 19) hx hb hts hu8 hown hK hP 0 wc_0 rfl 2 (by decide) (hts (.fieldLink RX8 24 "GrazeBook" "reeve" "LGrazeBook$Purse;") (List.mem_cons_of_mem _ mw_212)) (fun _ h9 => h9) rfl dX8_ownerOf_34 ?_
    refine lv_goto (tgt := 46) hx hb dX8_ownerOf_37 (by decide) ?_
    refine lv_astore (lv' := [(4, .ref (ad 802)), (3, .int (1 : Int32)), (0, .ref h), (1, .int a1), (2, .int a2)]) hx hb dX8_ownerOf_46 hl (by decide) rfl (fun ls hl => ?_)
    refine lv_iload_n hx hb dX8_ownerOf_48 rfl (lv_at hl 4 rfl) ?_
    by_cases c_28 : a2 = (0 : Int32)
    · have hR := (if_pos c_28).symm.trans hR
      refine lv_tableIn (tgt := 80) hx hb dX8_ownerOf_49 (by rw [c_28]; decide) (by rw [c_28]; decide) (by rw [c_28]; rfl) (by decide) ?_
      refine lv_aload hx hb dX8_ownerOf_80 (lv_at hl 0 rfl) ?_
      refine va_get (D := D) (ci := 5) (v := .int (σ 590 0)) (C := RX5) (T := TX5) (N := 2) hx hb hts hu5 hown hK hP 1 wc_1 rfl 0 (by decide) (hts (.fieldLink RX8 228 "GrazeBook$Purse" "coins" "I") (List.mem_cons_of_mem _ mw_88)) (fun _ h9 => h9) rfl dX8_ownerOf_82 ?_
      have hI9 : IX σ := hI
      obtain ⟨rfl, rfl⟩ := Prod.mk.inj (show ((σ 590 0), σ) = (R1, R2) from hR)
      rw [hQ]
      exact W.iret (v := (σ 590 0)) hx hb hr (fun t ht hW => ⟨⟨(σ 590 0), (), rfl, rfl, ⟨by rw [ht]; exact hP, va_K.moved hW.alike hK, by rw [← hAe]; exact hD⟩, hI9⟩, hS.F ht⟩) hS.2.2 dX8_ownerOf_85
    have hR := (if_neg c_28).symm.trans hR
    by_cases c_29 : a2 = (1 : Int32)
    · have hR := (if_pos c_29).symm.trans hR
      refine lv_tableIn (tgt := 86) hx hb dX8_ownerOf_49 (by rw [c_29]; decide) (by rw [c_29]; decide) (by rw [c_29]; rfl) (by decide) ?_
      refine lv_aload hx hb dX8_ownerOf_86 (lv_at hl 0 rfl) ?_
      refine va_get (D := D) (ci := 5) (v := .int (σ 591 0)) (C := RX5) (T := TX5) (N := 2) hx hb hts hu5 hown hK hP 1 wc_1 rfl 1 (by decide) (hts (.fieldLink RX8 281 "GrazeBook$Purse" "hay" "I") (List.mem_cons_of_mem _ mw_90)) (fun _ h9 => h9) rfl dX8_ownerOf_88 ?_
      have hI9 : IX σ := hI
      obtain ⟨rfl, rfl⟩ := Prod.mk.inj (show ((σ 591 0), σ) = (R1, R2) from hR)
      rw [hQ]
      exact W.iret (v := (σ 591 0)) hx hb hr (fun t ht hW => ⟨⟨(σ 591 0), (), rfl, rfl, ⟨by rw [ht]; exact hP, va_K.moved hW.alike hK, by rw [← hAe]; exact hD⟩, hI9⟩, hS.F ht⟩) hS.2.2 dX8_ownerOf_91
    have hR := (if_neg c_29).symm.trans hR
    by_cases c_30 : a2 = (2 : Int32)
    · have hR := (if_pos c_30).symm.trans hR
      refine lv_tableIn (tgt := 92) hx hb dX8_ownerOf_49 (by rw [c_30]; decide) (by rw [c_30]; decide) (by rw [c_30]; rfl) (by decide) ?_
      refine lv_aload_n hx hb dX8_ownerOf_92 rfl (lv_at hl 2 rfl) ?_
      refine lv_iload_n hx hb dX8_ownerOf_93 rfl (lv_at hl 3 rfl) ?_
      have hF := pw_free hD hS hA
      refine va_callr (va_runV (As := [.int a1]) (rest := []) ⟨hx, hb, hml, hown, hts⟩ (k_X8_coverOf l D ca h ad pa tb σ a1 H.size hI _ rfl) (cwV 1 hts gX8_ownerOf_X8_coverOf rfl rfl rfl (by decide +kernel) ⟨Nat.le_of_ble_eq_true rfl, Nat.le_of_ble_eq_true rfl⟩) ⟨cw_blind, va_recv hK hP (ci := 8) (q0 := 0) rfl wc_0, cw_give hP hK hD hZ hS hF⟩ rfl rfl hl.1 rfl (lv_room (Nat.le_of_ble_eq_true rfl)) dX8_ownerOf_94 ⟨Nat.le_of_ble_eq_true rfl, Nat.le_of_ble_eq_true rfl⟩) hS (fun q _ h => hF q h) hF (fun u r_31 t H1 locs ht hvm hw hB hz1 hk1 hS => ?_)
      obtain ⟨er_31, hB⟩ := hB
      subst er_31
      obtain ⟨hB, hI_32⟩ := hB
      obtain ⟨hP, hD⟩ := pw_back hF ht hB
      clear hB hk1 hz1 hF
      generalize H1 = H at hP hS ⊢
      obtain ⟨τc_33, hτc_33⟩ : ∃ t9, (s_X8_coverOf σ a1) = t9 := ⟨_, rfl⟩
      rw [hτc_33] at hP hD hI_32
      (try rw [hτc_33] at hR)
      have hF := pw_free hD hS hA
      refine va_calli (va_runV (As := []) (rest := []) ⟨hx, hb, hml, hown, hts⟩ (k_X1_partsOut l D ca h ad pa tb τc_33 H.size hI_32 _ rfl) (cwV 0 hts gX8_ownerOf_X1_partsOut rfl rfl rfl (by decide +kernel) ⟨Nat.le_of_ble_eq_true rfl, Nat.le_of_ble_eq_true rfl⟩) ⟨cw_blind, va_recv hK hP (ci := 1) (q0 := 3) rfl wc_3, cw_give hP hK hD hZ hS hF⟩ rfl rfl hl.1 rfl (lv_room (Nat.le_of_ble_eq_true rfl)) dX8_ownerOf_97 ⟨Nat.le_of_ble_eq_true rfl, Nat.le_of_ble_eq_true rfl⟩) hS (fun q _ h => hF q h) hF (fun r_34 u t H1 locs ht hvm hw hB hz1 hk1 hS => ?_)
      rw [hw]
      obtain ⟨hP, hD⟩ := pw_back hF ht hB
      clear hB hk1 hz1 hF
      generalize H1 = H at hP hS ⊢
      have hI9 : IX τc_33 := hI_32
      obtain ⟨rfl, rfl⟩ := Prod.mk.inj (show ((s_X1_partsOut τc_33), τc_33) = (R1, R2) from hR)
      rw [hQ]
      exact W.iret (v := (s_X1_partsOut τc_33)) hx hb hr (fun t ht hW => ⟨⟨(s_X1_partsOut τc_33), (), rfl, rfl, ⟨by rw [ht]; exact hP, va_K.moved hW.alike hK, by rw [← hAe]; exact hD⟩, hI9⟩, hS.F ht⟩) hS.2.2 dX8_ownerOf_100
    have hR := (if_neg c_30).symm.trans hR
    by_cases c_35 : a2 = (3 : Int32)
    · have hR := (if_pos c_35).symm.trans hR
      refine lv_tableIn (tgt := 101) hx hb dX8_ownerOf_49 (by rw [c_35]; decide) (by rw [c_35]; decide) (by rw [c_35]; rfl) (by decide) ?_
      refine lv_aload_n hx hb dX8_ownerOf_101 rfl (lv_at hl 2 rfl) ?_
      refine lv_iload_n hx hb dX8_ownerOf_102 rfl (lv_at hl 3 rfl) ?_
      have hF := pw_free hD hS hA
      refine va_callr (va_runV (As := [.int a1]) (rest := []) ⟨hx, hb, hml, hown, hts⟩ (k_X8_coverOf l D ca h ad pa tb σ a1 H.size hI _ rfl) (cwV 1 hts gX8_ownerOf_X8_coverOf rfl rfl rfl (by decide +kernel) ⟨Nat.le_of_ble_eq_true rfl, Nat.le_of_ble_eq_true rfl⟩) ⟨cw_blind, va_recv hK hP (ci := 8) (q0 := 0) rfl wc_0, cw_give hP hK hD hZ hS hF⟩ rfl rfl hl.1 rfl (lv_room (Nat.le_of_ble_eq_true rfl)) dX8_ownerOf_103 ⟨Nat.le_of_ble_eq_true rfl, Nat.le_of_ble_eq_true rfl⟩) hS (fun q _ h => hF q h) hF (fun u r_36 t H1 locs ht hvm hw hB hz1 hk1 hS => ?_)
      obtain ⟨er_36, hB⟩ := hB
      subst er_36
      obtain ⟨hB, hI_37⟩ := hB
      obtain ⟨hP, hD⟩ := pw_back hF ht hB
      clear hB hk1 hz1 hF
      generalize H1 = H at hP hS ⊢
      obtain ⟨τc_38, hτc_38⟩ : ∃ t9, (s_X8_coverOf σ a1) = t9 := ⟨_, rfl⟩
      rw [hτc_38] at hP hD hI_37
      (try rw [hτc_38] at hR)
      have hF := pw_free hD hS hA
      refine va_calli (va_runV (As := []) (rest := []) ⟨hx, hb, hml, hown, hts⟩ (k_X1_partsHeld l D ca h ad pa tb τc_38 H.size hI_37 _ rfl) (cwV 0 hts gX8_ownerOf_X1_partsHeld rfl rfl rfl (by decide +kernel) ⟨Nat.le_of_ble_eq_true rfl, Nat.le_of_ble_eq_true rfl⟩) ⟨cw_blind, va_recv hK hP (ci := 1) (q0 := 3) rfl wc_3, cw_give hP hK hD hZ hS hF⟩ rfl rfl hl.1 rfl (lv_room (Nat.le_of_ble_eq_true rfl)) dX8_ownerOf_106 ⟨Nat.le_of_ble_eq_true rfl, Nat.le_of_ble_eq_true rfl⟩) hS (fun q _ h => hF q h) hF (fun r_39 u t H1 locs ht hvm hw hB hz1 hk1 hS => ?_)
      rw [hw]
      obtain ⟨hP, hD⟩ := pw_back hF ht hB
      clear hB hk1 hz1 hF
      generalize H1 = H at hP hS ⊢
      have hI9 : IX τc_38 := hI_37
      obtain ⟨rfl, rfl⟩ := Prod.mk.inj (show ((s_X1_partsHeld τc_38), τc_38) = (R1, R2) from hR)
      rw [hQ]
      exact W.iret (v := (s_X1_partsHeld τc_38)) hx hb hr (fun t ht hW => ⟨⟨(s_X1_partsHeld τc_38), (), rfl, rfl, ⟨by rw [ht]; exact hP, va_K.moved hW.alike hK, by rw [← hAe]; exact hD⟩, hI9⟩, hS.F ht⟩) hS.2.2 dX8_ownerOf_109
    have hR := (if_neg c_35).symm.trans hR
    refine lv_tableOut (tgt := 110) hx hb dX8_ownerOf_49 (sw_out3 c_28 c_29 c_30 c_35) (by decide) ?_
    refine lv_aload_n hx hb dX8_ownerOf_110 rfl (lv_at hl 2 rfl) ?_
    refine lv_bipush (v := (-2 : Int32)) hx hb dX8_ownerOf_111 (by decide) ?_
    have hF := pw_free hD hS hA
    refine va_calli (va_runV (As := [.int (-2 : Int32)]) (rest := []) ⟨hx, hb, hml, hown, hts⟩ (k_X8_refuse l D ca h ad pa tb σ (-2 : Int32) H.size hI _ _ (Prod.eta _).symm) (cwV 1 hts gX8_ownerOf_X8_refuse rfl rfl rfl (by decide +kernel) ⟨Nat.le_of_ble_eq_true rfl, Nat.le_of_ble_eq_true rfl⟩) ⟨cw_blind, va_recv hK hP (ci := 8) (q0 := 0) rfl wc_0, cw_give hP hK hD hZ hS hF⟩ rfl rfl hl.1 rfl (lv_room (Nat.le_of_ble_eq_true rfl)) dX8_ownerOf_113 ⟨Nat.le_of_ble_eq_true rfl, Nat.le_of_ble_eq_true rfl⟩) hS (fun q _ h => hF q h) hF (fun r_40 u t H1 locs ht hvm hw hB hz1 hk1 hS => ?_)
    rw [hw]
    obtain ⟨hB, hI_41⟩ := hB
    obtain ⟨hP, hD⟩ := pw_back hF ht hB
    clear hB hk1 hz1 hF
    generalize H1 = H at hP hS ⊢
    obtain ⟨τc_42, hτc_42⟩ : ∃ t9, (s_X8_refuse σ (-2 : Int32)).2 = t9 := ⟨_, rfl⟩
    rw [hτc_42] at hP hD hI_41
    (try rw [hτc_42] at hR)
    obtain ⟨vc_43, hvc_43⟩ : ∃ t9, (s_X8_refuse σ (-2 : Int32)).1 = t9 := ⟨_, rfl⟩
    rw [hvc_43]
    (try rw [hvc_43] at hR)
    have hI9 : IX τc_42 := hI_41
    obtain ⟨rfl, rfl⟩ := Prod.mk.inj (show (vc_43, τc_42) = (R1, R2) from hR)
    rw [hQ]
    exact W.iret (v := vc_43) hx hb hr (fun t ht hW => ⟨⟨vc_43, (), rfl, rfl, ⟨by rw [ht]; exact hP, va_K.moved hW.alike hK, by rw [← hAe]; exact hD⟩, hI9⟩, hS.F ht⟩) hS.2.2 dX8_ownerOf_116

def s_X8_count (σ : St) (a1 : Int32) : Int32 := (if a1 = (0 : Int32) then (σ 816 0) else (if a1 = (1 : Int32) then (σ 811 0) else (if a1 = (2 : Int32) then (σ 812 0) else (if a1 = (3 : Int32) then (σ 813 0) else (if a1 = (4 : Int32) then (s_X8_rightsInForce σ) else (if a1 = (5 : Int32) then (s_X8_herdsNotLost σ) else (if a1 = (6 : Int32) then (s_X8_allGrass σ) else (if a1 = (7 : Int32) then (s_X8_allHunger σ) else (if a1 = (8 : Int32) then (s_X8_allEaten σ) else (if a1 = (9 : Int32) then (σ 818 0) else (if a1 < (11 : Int32) then (-9 : Int32) else (if (16 : Int32) < a1 then (-9 : Int32) else (σ 810 ((a1 - (10 : Int32)).toNatClampNeg))))))))))))))
set_option maxHeartbeats 1000000 in
set_option maxRecDepth 100000 in
theorem k_X8_count (l : Launch) (D : va_G) (ca : Nat → ClassId) (h : Nat) (ad : Nat → Nat) (pa : Nat → Nat → Nat) (tb : Nat) (σ : St) (a1 : Int32) (sz : Nat) (hI : IX σ)  (R : Int32) (hR : s_X8_count σ a1 = R) : Met l yX8_count wsX8_count ({ frames := 2, cells := 0, slots := 0, locals := 43 }) (va_Pc [.ref h, .int a1] (cw_pre D ca (WC ca h ad pa σ) sz tb)) (va_Qi (fun (r : Int32) (_ : Unit) => r = R) (fun (_ : Unit) (t : State) => pw_post D ca (WC ca h ad pa σ) sz (WC ca h ad pa σ) t) (va_A (WC ca h ad pa σ) sz)) 0 0 (va_A (WC ca h ad pa σ) sz) := by
  refine Met.ofW (cc := cX8_count) (maxL := 2) (ret := (some .int)) (by decide) rfl ?_
  intro p e s m args below meth c s₁ B hml hv
  obtain ⟨rfl, ⟨hsz, hP, hK, hD0⟩, hZ⟩ := hv
  have hx := B.exec
  have hb := B.bytes
  have hr := B.returns
  have hts := atoms_spec (ws := wsX8_count) B.pre
  have hown : s.vm.findClass RX8 = some m.cls := findClass_of_methodNamed B.named
  have hlocks := B.notSynchronized
  have hu8 : ∀ w ∈ u_ws RX8 TX8 19, w ∈ wsX8_count := fun w h => List.mem_cons_of_mem _ (uw8 w h)
  subst hsz
  have hD := hD0.self (sz := s.heap.size)
  obtain ⟨A, hAe⟩ : ∃ A, A = va_A (WC ca h ad pa σ) s.heap.size := ⟨_, rfl⟩
  rw [← hAe] at hD hZ ⊢
  have hA : ∀ q : Nat, s.heap.size ≤ q → A q := fun q h => by rw [hAe]; exact Or.inr h
  have hS : va_S A s.heap s.heap [] := va_S.rf
  have hl := lv_entry ([.ref h, .int a1]) (n := 2) (Nat.le_of_ble_eq_true rfl)
  rw [lg_entry_eq]
  generalize (lg_sl ([.ref h, .int a1]) ++ List.replicate (2 - (lg_sl ([.ref h, .int a1])).length) Slot.unset).toArray = ls at hl ⊢
  have hl : lv_has ls 2 [(0, .ref h), (1, .int a1)] := hl
  obtain ⟨H, hH⟩ : ∃ H, H = s.heap := ⟨_, rfl⟩
  have hP : va_P D vwCl (WC ca h ad pa σ) H := by rw [hH]; exact hP
  have hS : va_S A s.heap H [] := by rw [hH]; exact hS
  obtain ⟨QQ, hQ⟩ : ∃ Q9, Q9 = MQ below (va_Qi (fun (r : Int32) (_ : Unit) => r = R) (fun (_ : Unit) (t : State) => pw_post D ca (WC ca h ad pa σ) s.heap.size (WC ca h ad pa σ) t) A) ([.ref h, .int a1] : List Value).toArray s 0 0 A := ⟨_, rfl⟩
  rw [← hQ]
  show W _ _ _ _ _ _ _ _ _ _ s.heap _ _ _ _ _
  rw [← hH]
  have hR : (if a1 = (0 : Int32) then (σ 816 0) else (if a1 = (1 : Int32) then (σ 811 0) else (if a1 = (2 : Int32) then (σ 812 0) else (if a1 = (3 : Int32) then (σ 813 0) else (if a1 = (4 : Int32) then (s_X8_rightsInForce σ) else (if a1 = (5 : Int32) then (s_X8_herdsNotLost σ) else (if a1 = (6 : Int32) then (s_X8_allGrass σ) else (if a1 = (7 : Int32) then (s_X8_allHunger σ) else (if a1 = (8 : Int32) then (s_X8_allEaten σ) else (if a1 = (9 : Int32) then (σ 818 0) else (if a1 < (11 : Int32) then (-9 : Int32) else (if (16 : Int32) < a1 then (-9 : Int32) else (σ 810 ((a1 - (10 : Int32)).toNatClampNeg)))))))))))))) = R := hR
  refine lv_iload_n hx hb dX8_count_0 rfl (lv_at hl 1 rfl) ?_
  by_cases c_1 : a1 = (0 : Int32)
  · have hR := (if_pos c_1).symm.trans hR
    refine lv_tableIn (tgt := 56) hx hb dX8_count_1 (by rw [c_1]; decide) (by rw [c_1]; decide) (by rw [c_1]; rfl) (by decide) ?_
    refine lv_aload_n hx hb dX8_count_56 rfl (lv_at hl 0 rfl) ?_
    refine va_get (D := D) (ci := 8) (v := .int (σ 816 0)) (C := RX8) (T := TX8) (N := 19) hx hb hts hu8 hown hK hP 0 wc_0 rfl 16 (by decide) (hts (.fieldLink RX8 91 "GrazeBook" "day" "I") (List.mem_cons_of_mem _ mw_226)) (fun _ h9 => h9) rfl dX8_count_57 ?_
    subst hR
    rw [hQ]
    exact W.iret (v := (σ 816 0)) hx hb hr (fun t ht hW => ⟨⟨(σ 816 0), (), rfl, rfl, ⟨by rw [ht]; exact hP, va_K.moved hW.alike hK, by rw [← hAe]; exact hD⟩⟩, hS.F ht⟩) hS.2.2 dX8_count_60
  have hR := (if_neg c_1).symm.trans hR
  by_cases c_2 : a1 = (1 : Int32)
  · have hR := (if_pos c_2).symm.trans hR
    refine lv_tableIn (tgt := 61) hx hb dX8_count_1 (by rw [c_2]; decide) (by rw [c_2]; decide) (by rw [c_2]; rfl) (by decide) ?_
    refine lv_aload_n hx hb dX8_count_61 rfl (lv_at hl 0 rfl) ?_
    refine va_get (D := D) (ci := 8) (v := .int (σ 811 0)) (C := RX8) (T := TX8) (N := 19) hx hb hts hu8 hown hK hP 0 wc_0 rfl 11 (by decide) (hts (.fieldLink RX8 75 "GrazeBook" "pieceCount" "I") (List.mem_cons_of_mem _ mw_221)) (fun _ h9 => h9) rfl dX8_count_62 ?_
    subst hR
    rw [hQ]
    exact W.iret (v := (σ 811 0)) hx hb hr (fun t ht hW => ⟨⟨(σ 811 0), (), rfl, rfl, ⟨by rw [ht]; exact hP, va_K.moved hW.alike hK, by rw [← hAe]; exact hD⟩⟩, hS.F ht⟩) hS.2.2 dX8_count_65
  have hR := (if_neg c_2).symm.trans hR
  by_cases c_3 : a1 = (2 : Int32)
  · have hR := (if_pos c_3).symm.trans hR
    refine lv_tableIn (tgt := 66) hx hb dX8_count_1 (by rw [c_3]; decide) (by rw [c_3]; decide) (by rw [c_3]; rfl) (by decide) ?_
    refine lv_aload_n hx hb dX8_count_66 rfl (lv_at hl 0 rfl) ?_
    refine va_get (D := D) (ci := 8) (v := .int (σ 812 0)) (C := RX8) (T := TX8) (N := 19) hx hb hts hu8 hown hK hP 0 wc_0 rfl 12 (by decide) (hts (.fieldLink RX8 79 "GrazeBook" "ownerCount" "I") (List.mem_cons_of_mem _ mw_222)) (fun _ h9 => h9) rfl dX8_count_67 ?_
    subst hR
    rw [hQ]
    exact W.iret (v := (σ 812 0)) hx hb hr (fun t ht hW => ⟨⟨(σ 812 0), (), rfl, rfl, ⟨by rw [ht]; exact hP, va_K.moved hW.alike hK, by rw [← hAe]; exact hD⟩⟩, hS.F ht⟩) hS.2.2 dX8_count_70
  have hR := (if_neg c_3).symm.trans hR
  by_cases c_4 : a1 = (3 : Int32)
  · have hR := (if_pos c_4).symm.trans hR
    refine lv_tableIn (tgt := 71) hx hb dX8_count_1 (by rw [c_4]; decide) (by rw [c_4]; decide) (by rw [c_4]; rfl) (by decide) ?_
    refine lv_aload_n hx hb dX8_count_71 rfl (lv_at hl 0 rfl) ?_
    refine va_get (D := D) (ci := 8) (v := .int (σ 813 0)) (C := RX8) (T := TX8) (N := 19) hx hb hts hu8 hown hK hP 0 wc_0 rfl 13 (by decide) (hts (.fieldLink RX8 82 "GrazeBook" "houseCount" "I") (List.mem_cons_of_mem _ mw_223)) (fun _ h9 => h9) rfl dX8_count_72 ?_
    subst hR
    rw [hQ]
    exact W.iret (v := (σ 813 0)) hx hb hr (fun t ht hW => ⟨⟨(σ 813 0), (), rfl, rfl, ⟨by rw [ht]; exact hP, va_K.moved hW.alike hK, by rw [← hAe]; exact hD⟩⟩, hS.F ht⟩) hS.2.2 dX8_count_75
  have hR := (if_neg c_4).symm.trans hR
  by_cases c_5 : a1 = (4 : Int32)
  · have hR := (if_pos c_5).symm.trans hR
    refine lv_tableIn (tgt := 76) hx hb dX8_count_1 (by rw [c_5]; decide) (by rw [c_5]; decide) (by rw [c_5]; rfl) (by decide) ?_
    refine lv_aload_n hx hb dX8_count_76 rfl (lv_at hl 0 rfl) ?_
    have hF := pw_free hD hS hA
    refine va_calli (va_runV (As := []) (rest := []) ⟨hx, hb, hml, hown, hts⟩ (k_X8_rightsInForce l D ca h ad pa tb σ H.size hI _ rfl) (cwV 0 hts gX8_count_X8_rightsInForce rfl rfl rfl (by decide +kernel) ⟨Nat.le_of_ble_eq_true rfl, Nat.le_of_ble_eq_true rfl⟩) ⟨cw_blind, va_recv hK hP (ci := 8) (q0 := 0) rfl wc_0, cw_give hP hK hD hZ hS hF⟩ rfl rfl hl.1 rfl (lv_room (Nat.le_of_ble_eq_true rfl)) dX8_count_77 ⟨Nat.le_of_ble_eq_true rfl, Nat.le_of_ble_eq_true rfl⟩) hS (fun q _ h => hF q h) hF (fun r_6 u t H1 locs ht hvm hw hB hz1 hk1 hS => ?_)
    rw [hw]
    obtain ⟨hP, hD⟩ := pw_back hF ht hB
    clear hB hk1 hz1 hF
    generalize H1 = H at hP hS ⊢
    subst hR
    rw [hQ]
    exact W.iret (v := (s_X8_rightsInForce σ)) hx hb hr (fun t ht hW => ⟨⟨(s_X8_rightsInForce σ), (), rfl, rfl, ⟨by rw [ht]; exact hP, va_K.moved hW.alike hK, by rw [← hAe]; exact hD⟩⟩, hS.F ht⟩) hS.2.2 dX8_count_80
  have hR := (if_neg c_5).symm.trans hR
  by_cases c_7 : a1 = (5 : Int32)
  · have hR := (if_pos c_7).symm.trans hR
    refine lv_tableIn (tgt := 81) hx hb dX8_count_1 (by rw [c_7]; decide) (by rw [c_7]; decide) (by rw [c_7]; rfl) (by decide) ?_
    refine lv_aload_n hx hb dX8_count_81 rfl (lv_at hl 0 rfl) ?_
    have hF := pw_free hD hS hA
    refine va_calli (va_runV (As := []) (rest := []) ⟨hx, hb, hml, hown, hts⟩ (k_X8_herdsNotLost l D ca h ad pa tb σ H.size hI _ rfl) (cwV 0 hts gX8_count_X8_herdsNotLost rfl rfl rfl (by decide +kernel) ⟨Nat.le_of_ble_eq_true rfl, Nat.le_of_ble_eq_true rfl⟩) ⟨cw_blind, va_recv hK hP (ci := 8) (q0 := 0) rfl wc_0, cw_give hP hK hD hZ hS hF⟩ rfl rfl hl.1 rfl (lv_room (Nat.le_of_ble_eq_true rfl)) dX8_count_82 ⟨Nat.le_of_ble_eq_true rfl, Nat.le_of_ble_eq_true rfl⟩) hS (fun q _ h => hF q h) hF (fun r_8 u t H1 locs ht hvm hw hB hz1 hk1 hS => ?_)
    rw [hw]
    obtain ⟨hP, hD⟩ := pw_back hF ht hB
    clear hB hk1 hz1 hF
    generalize H1 = H at hP hS ⊢
    subst hR
    rw [hQ]
    exact W.iret (v := (s_X8_herdsNotLost σ)) hx hb hr (fun t ht hW => ⟨⟨(s_X8_herdsNotLost σ), (), rfl, rfl, ⟨by rw [ht]; exact hP, va_K.moved hW.alike hK, by rw [← hAe]; exact hD⟩⟩, hS.F ht⟩) hS.2.2 dX8_count_85
  have hR := (if_neg c_7).symm.trans hR
  by_cases c_9 : a1 = (6 : Int32)
  · have hR := (if_pos c_9).symm.trans hR
    refine lv_tableIn (tgt := 86) hx hb dX8_count_1 (by rw [c_9]; decide) (by rw [c_9]; decide) (by rw [c_9]; rfl) (by decide) ?_
    refine lv_aload_n hx hb dX8_count_86 rfl (lv_at hl 0 rfl) ?_
    have hF := pw_free hD hS hA
    refine va_calli (va_runV (As := []) (rest := []) ⟨hx, hb, hml, hown, hts⟩ (k_X8_allGrass l D ca h ad pa tb σ H.size hI _ rfl) (cwV 0 hts gX8_count_X8_allGrass rfl rfl rfl (by decide +kernel) ⟨Nat.le_of_ble_eq_true rfl, Nat.le_of_ble_eq_true rfl⟩) ⟨cw_blind, va_recv hK hP (ci := 8) (q0 := 0) rfl wc_0, cw_give hP hK hD hZ hS hF⟩ rfl rfl hl.1 rfl (lv_room (Nat.le_of_ble_eq_true rfl)) dX8_count_87 ⟨Nat.le_of_ble_eq_true rfl, Nat.le_of_ble_eq_true rfl⟩) hS (fun q _ h => hF q h) hF (fun r_10 u t H1 locs ht hvm hw hB hz1 hk1 hS => ?_)
    rw [hw]
    obtain ⟨hP, hD⟩ := pw_back hF ht hB
    clear hB hk1 hz1 hF
    generalize H1 = H at hP hS ⊢
    subst hR
    rw [hQ]
    exact W.iret (v := (s_X8_allGrass σ)) hx hb hr (fun t ht hW => ⟨⟨(s_X8_allGrass σ), (), rfl, rfl, ⟨by rw [ht]; exact hP, va_K.moved hW.alike hK, by rw [← hAe]; exact hD⟩⟩, hS.F ht⟩) hS.2.2 dX8_count_90
  have hR := (if_neg c_9).symm.trans hR
  by_cases c_11 : a1 = (7 : Int32)
  · have hR := (if_pos c_11).symm.trans hR
    refine lv_tableIn (tgt := 91) hx hb dX8_count_1 (by rw [c_11]; decide) (by rw [c_11]; decide) (by rw [c_11]; rfl) (by decide) ?_
    refine lv_aload_n hx hb dX8_count_91 rfl (lv_at hl 0 rfl) ?_
    have hF := pw_free hD hS hA
    refine va_calli (va_runV (As := []) (rest := []) ⟨hx, hb, hml, hown, hts⟩ (k_X8_allHunger l D ca h ad pa tb σ H.size hI _ rfl) (cwV 0 hts gX8_count_X8_allHunger rfl rfl rfl (by decide +kernel) ⟨Nat.le_of_ble_eq_true rfl, Nat.le_of_ble_eq_true rfl⟩) ⟨cw_blind, va_recv hK hP (ci := 8) (q0 := 0) rfl wc_0, cw_give hP hK hD hZ hS hF⟩ rfl rfl hl.1 rfl (lv_room (Nat.le_of_ble_eq_true rfl)) dX8_count_92 ⟨Nat.le_of_ble_eq_true rfl, Nat.le_of_ble_eq_true rfl⟩) hS (fun q _ h => hF q h) hF (fun r_12 u t H1 locs ht hvm hw hB hz1 hk1 hS => ?_)
    rw [hw]
    obtain ⟨hP, hD⟩ := pw_back hF ht hB
    clear hB hk1 hz1 hF
    generalize H1 = H at hP hS ⊢
    subst hR
    rw [hQ]
    exact W.iret (v := (s_X8_allHunger σ)) hx hb hr (fun t ht hW => ⟨⟨(s_X8_allHunger σ), (), rfl, rfl, ⟨by rw [ht]; exact hP, va_K.moved hW.alike hK, by rw [← hAe]; exact hD⟩⟩, hS.F ht⟩) hS.2.2 dX8_count_95
  have hR := (if_neg c_11).symm.trans hR
  by_cases c_13 : a1 = (8 : Int32)
  · have hR := (if_pos c_13).symm.trans hR
    refine lv_tableIn (tgt := 96) hx hb dX8_count_1 (by rw [c_13]; decide) (by rw [c_13]; decide) (by rw [c_13]; rfl) (by decide) ?_
    refine lv_aload_n hx hb dX8_count_96 rfl (lv_at hl 0 rfl) ?_
    have hF := pw_free hD hS hA
    refine va_calli (va_runV (As := []) (rest := []) ⟨hx, hb, hml, hown, hts⟩ (k_X8_allEaten l D ca h ad pa tb σ H.size hI _ rfl) (cwV 0 hts gX8_count_X8_allEaten rfl rfl rfl (by decide +kernel) ⟨Nat.le_of_ble_eq_true rfl, Nat.le_of_ble_eq_true rfl⟩) ⟨cw_blind, va_recv hK hP (ci := 8) (q0 := 0) rfl wc_0, cw_give hP hK hD hZ hS hF⟩ rfl rfl hl.1 rfl (lv_room (Nat.le_of_ble_eq_true rfl)) dX8_count_97 ⟨Nat.le_of_ble_eq_true rfl, Nat.le_of_ble_eq_true rfl⟩) hS (fun q _ h => hF q h) hF (fun r_14 u t H1 locs ht hvm hw hB hz1 hk1 hS => ?_)
    rw [hw]
    obtain ⟨hP, hD⟩ := pw_back hF ht hB
    clear hB hk1 hz1 hF
    generalize H1 = H at hP hS ⊢
    subst hR
    rw [hQ]
    exact W.iret (v := (s_X8_allEaten σ)) hx hb hr (fun t ht hW => ⟨⟨(s_X8_allEaten σ), (), rfl, rfl, ⟨by rw [ht]; exact hP, va_K.moved hW.alike hK, by rw [← hAe]; exact hD⟩⟩, hS.F ht⟩) hS.2.2 dX8_count_100
  have hR := (if_neg c_13).symm.trans hR
  by_cases c_15 : a1 = (9 : Int32)
  · have hR := (if_pos c_15).symm.trans hR
    refine lv_tableIn (tgt := 101) hx hb dX8_count_1 (by rw [c_15]; decide) (by rw [c_15]; decide) (by rw [c_15]; rfl) (by decide) ?_
    refine lv_aload_n hx hb dX8_count_101 rfl (lv_at hl 0 rfl) ?_
    refine va_get (D := D) (ci := 8) (v := .int (σ 818 0)) (C := RX8) (T := TX8) (N := 19) hx hb hts hu8 hown hK hP 0 wc_0 rfl 18 (by decide) (hts (.fieldLink RX8 97 "GrazeBook" "lapses" "I") (List.mem_cons_of_mem _ mw_228)) (fun _ h9 => h9) rfl dX8_count_102 ?_
    subst hR
    rw [hQ]
    exact W.iret (v := (σ 818 0)) hx hb hr (fun t ht hW => ⟨⟨(σ 818 0), (), rfl, rfl, ⟨by rw [ht]; exact hP, va_K.moved hW.alike hK, by rw [← hAe]; exact hD⟩⟩, hS.F ht⟩) hS.2.2 dX8_count_105
  have hR := (if_neg c_15).symm.trans hR
  refine lv_tableOut (tgt := 106) hx hb dX8_count_1 (sw_out9 c_1 c_2 c_3 c_4 c_5 c_7 c_9 c_11 c_13 c_15) (by decide) ?_
  refine lv_iload_n hx hb dX8_count_106 rfl (lv_at hl 1 rfl) ?_
  refine lv_bipush (v := (11 : Int32)) hx hb dX8_count_107 (by decide) ?_
  refine lv_icmp_lt (tgt := 130) hx hb dX8_count_109 (by decide) (fun c_16 => ?_) (fun c_16 => ?_)
  · have hR := (if_pos c_16).symm.trans hR
    refine lv_bipush (v := (-9 : Int32)) hx hb dX8_count_130 (by decide) ?_
    subst hR
    rw [hQ]
    exact W.iret (v := (-9 : Int32)) hx hb hr (fun t ht hW => ⟨⟨(-9 : Int32), (), rfl, rfl, ⟨by rw [ht]; exact hP, va_K.moved hW.alike hK, by rw [← hAe]; exact hD⟩⟩, hS.F ht⟩) hS.2.2 dX8_count_132
  · have hR := (if_neg c_16).symm.trans hR
    refine lv_iload_n hx hb dX8_count_112 rfl (lv_at hl 1 rfl) ?_
    refine lv_bipush (v := (16 : Int32)) hx hb dX8_count_113 (by decide) ?_
    refine lv_icmp_gt (tgt := 130) hx hb dX8_count_115 (by decide) (fun c_17 => ?_) (fun c_17 => ?_)
    · have hR := (if_pos c_17).symm.trans hR
      refine lv_bipush (v := (-9 : Int32)) hx hb dX8_count_130 (by decide) ?_
      subst hR
      rw [hQ]
      exact W.iret (v := (-9 : Int32)) hx hb hr (fun t ht hW => ⟨⟨(-9 : Int32), (), rfl, rfl, ⟨by rw [ht]; exact hP, va_K.moved hW.alike hK, by rw [← hAe]; exact hD⟩⟩, hS.F ht⟩) hS.2.2 dX8_count_132
    · have hR := (if_neg c_17).symm.trans hR
      refine lv_aload_n hx hb dX8_count_118 rfl (lv_at hl 0 rfl) ?_
      refine va_get (D := D) (ci := 8) (v := .ref (ad 810)) (C := RX8) (T := TX8) (N := 19) hx hb hts hu8 hown hK hP 0 wc_0 rfl 10 (by decide) (hts (.fieldLink RX8 72 "GrazeBook" "refusals" "[I") (List.mem_cons_of_mem _ mw_220)) (fun _ h9 => h9) rfl dX8_count_119 ?_
      refine lv_iload_n hx hb dX8_count_122 rfl (lv_at hl 1 rfl) ?_
      refine lv_bipush (v := (10 : Int32)) hx hb dX8_count_123 (by decide) ?_
      refine lv_isub hx hb dX8_count_125 ?_
      refine va_iald_k (k := ((a1 - (10 : Int32)).toNatClampNeg)) (v := (σ 810 ((a1 - (10 : Int32)).toNatClampNeg))) hx hb hK hP 11 0 wc_11 rfl rfl rfl (ix_ref2 (not_lt0 c_16) (not_lt0 c_17)) dX8_count_126 ?_
      refine lv_goto (tgt := 132) hx hb dX8_count_127 (by decide) ?_
      subst hR
      rw [hQ]
      exact W.iret (v := (σ 810 ((a1 - (10 : Int32)).toNatClampNeg))) hx hb hr (fun t ht hW => ⟨⟨(σ 810 ((a1 - (10 : Int32)).toNatClampNeg)), (), rfl, rfl, ⟨by rw [ht]; exact hP, va_K.moved hW.alike hK, by rw [← hAe]; exact hD⟩⟩, hS.F ht⟩) hS.2.2 dX8_count_132

