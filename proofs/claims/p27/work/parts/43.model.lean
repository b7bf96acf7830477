def s_X9_counts (σ : St) (a1 : Int32) (a2 : Int32) : Int32 := (if (σ 25 (a1.toNatClampNeg)) = (2 : Int32) then (0 : Int32) else (if (σ 25 (a1.toNatClampNeg)) = (3 : Int32) then (if (σ 30 (a1.toNatClampNeg)) = a2 then (s_X9_partsOf σ a1) else (0 : Int32)) else (s_X9_partsOf σ a1)))
set_option maxHeartbeats 1000000 in
set_option maxRecDepth 100000 in
theorem k_X9_counts (l : Launch) (D : va_G) (ca : Nat → ClassId) (h : Nat) (ad : Nat → Nat) (σ : St) (a1 : Int32) (a2 : Int32) (sz : Nat) (hI : IR σ) (ha1 : vp_in a1 60) (R : Int32) (hR : s_X9_counts σ a1 a2 = R) : Met l yX9_counts wsX9_counts ({ frames := 2, cells := 0, slots := 0, locals := 44 }) (va_Pc [.ref h, .int a1, .int a2] (pw_pre D ca (WM ca h ad σ) sz)) (va_Qi (fun (r : Int32) (_ : Unit) => r = R) (fun (_ : Unit) (t : State) => pw_post D ca (WM ca h ad σ) sz (WM ca h ad σ) t) (va_A (WM ca h ad σ) sz)) 0 0 (va_A (WM ca h ad σ) sz) := by
  refine Met.ofW (cc := cX9_counts) (maxL := 3) (ret := (some .int)) (by decide) rfl ?_
  intro p e s m args below meth c s₁ B hml hv
  obtain ⟨rfl, hsz, hP, hK, hD0⟩ := hv
  have hx := B.exec
  have hb := B.bytes
  have hr := B.returns
  have hts := atoms_spec (ws := wsX9_counts) B.pre
  have hown : s.vm.findClass RX9 = some m.cls := findClass_of_methodNamed B.named
  have hlocks := B.notSynchronized
  have hu9 : ∀ w ∈ u_ws RX9 TX9 51, w ∈ wsX9_counts := fun w h => List.mem_cons_of_mem _ (uw9 w h)
  subst hsz
  have hD := hD0.self (sz := s.heap.size)
  obtain ⟨A, hAe⟩ : ∃ A, A = va_A (WM ca h ad σ) s.heap.size := ⟨_, rfl⟩
  rw [← hAe] at hD ⊢
  have hA : ∀ q : Nat, s.heap.size ≤ q → A q := fun q h => by rw [hAe]; exact Or.inr h
  have hS : va_S A s.heap s.heap [] := va_S.rf
  have hl := lv_entry ([.ref h, .int a1, .int a2]) (n := 3) (Nat.le_of_ble_eq_true rfl)
  rw [lg_entry_eq]
  generalize (lg_sl ([.ref h, .int a1, .int a2]) ++ List.replicate (3 - (lg_sl ([.ref h, .int a1, .int a2])).length) Slot.unset).toArray = ls at hl ⊢
  have hl : lv_has ls 3 [(0, .ref h), (1, .int a1), (2, .int a2)] := hl
  obtain ⟨H, hH⟩ : ∃ H, H = s.heap := ⟨_, rfl⟩
  have hP : va_P D vwCl (WM ca h ad σ) H := by rw [hH]; exact hP
  have hS : va_S A s.heap H [] := by rw [hH]; exact hS
  obtain ⟨QQ, hQ⟩ : ∃ Q9, Q9 = MQ below (va_Qi (fun (r : Int32) (_ : Unit) => r = R) (fun (_ : Unit) (t : State) => pw_post D ca (WM ca h ad σ) s.heap.size (WM ca h ad σ) t) A) ([.ref h, .int a1, .int a2] : List Value).toArray s 0 0 A := ⟨_, rfl⟩
  rw [← hQ]
  show W _ _ _ _ _ _ _ _ _ _ s.heap _ _ _ _ _
  rw [← hH]
  have hR : (if (σ 25 (a1.toNatClampNeg)) = (2 : Int32) then (0 : Int32) else (if (σ 25 (a1.toNatClampNeg)) = (3 : Int32) then (if (σ 30 (a1.toNatClampNeg)) = a2 then (s_X9_partsOf σ a1) else (0 : Int32)) else (s_X9_partsOf σ a1))) = R := hR
  refine lv_aload_n hx hb dX9_counts_0 rfl (lv_at hl 0 rfl) ?_
  refine va_get (D := D) (ci := 9) (v := .ref (ad 25)) (C := RX9) (T := TX9) (N := 51) hx hb hts hu9 hown hK hP 0 wm_0 rfl 25 (by decide) (hts (.fieldLink RX9 50 "GrazeBookModel" "rKind" "[I") (List.mem_cons_of_mem _ mw_808)) (fun _ h9 => h9) rfl dX9_counts_1 ?_
  refine lv_iload_n hx hb dX9_counts_4 rfl (lv_at hl 1 rfl) ?_
  refine va_iald_k (k := (a1.toNatClampNeg)) (v := (σ 25 (a1.toNatClampNeg))) hx hb hK hP 14 0 wm_a25 rfl rfl rfl ha1 dX9_counts_5 ?_
  refine lv_iconst (v := (2 : Int32)) hx hb dX9_counts_6 (by decide) ?_
  refine lv_icmp_eq (tgt := 30) hx hb dX9_counts_7 (by decide) (fun c_1 => ?_) (fun c_1 => ?_)
  · have hR := (if_pos c_1).symm.trans hR
    refine lv_iconst (v := (0 : Int32)) hx hb dX9_counts_30 (by decide) ?_
    refine lv_goto (tgt := 39) hx hb dX9_counts_31 (by decide) ?_
    subst hR
    rw [hQ]
    exact W.iret (v := (0 : Int32)) hx hb hr (fun t ht hW => ⟨⟨(0 : Int32), (), rfl, rfl, ⟨by rw [ht]; exact hP, va_K.moved hW.alike hK, by rw [← hAe]; exact hD⟩⟩, hS.F ht⟩) hS.2.2 dX9_counts_39
  · have hR := (if_neg c_1).symm.trans hR
    refine lv_aload_n hx hb dX9_counts_10 rfl (lv_at hl 0 rfl) ?_
    refine va_get (D := D) (ci := 9) (v := .ref (ad 25)) (C := RX9) (T := TX9) (N := 51) hx hb hts hu9 hown hK hP 0 wm_0 rfl 25 (by decide) (hts (.fieldLink RX9 50 "GrazeBookModel" "rKind" "[I") (List.mem_cons_of_mem _ mw_808)) (fun _ h9 => h9) rfl dX9_counts_11 ?_
    refine lv_iload_n hx hb dX9_counts_14 rfl (lv_at hl 1 rfl) ?_
    refine va_iald_k (k := (a1.toNatClampNeg)) (v := (σ 25 (a1.toNatClampNeg))) hx hb hK hP 14 0 wm_a25 rfl rfl rfl ha1 dX9_counts_15 ?_
    refine lv_iconst (v := (3 : Int32)) hx hb dX9_counts_16 (by decide) ?_
    refine lv_icmp_ne (tgt := 34) hx hb dX9_counts_17 (by decide) (fun c_2 => ?_) (fun c_2 => ?_)
    · have hR := (if_neg c_2).symm.trans hR
      refine lv_aload_n hx hb dX9_counts_34 rfl (lv_at hl 0 rfl) ?_
      refine lv_iload_n hx hb dX9_counts_35 rfl (lv_at hl 1 rfl) ?_
      have hF := pw_free hD hS hA
      refine va_calli (va_runV (As := [.int a1]) (rest := []) ⟨hx, hb, hml, hown, hts⟩ (k_X9_partsOf l D ca h ad σ a1 H.size hI ha1 _ rfl) (cwV 1 hts gX9_counts_X9_partsOf rfl rfl rfl (by decide +kernel) ⟨Nat.le_of_ble_eq_true rfl, Nat.le_of_ble_eq_true rfl⟩) ⟨pw_blind, va_recv hK hP (ci := 9) (q0 := 0) rfl wm_0, pw_give hP hK hD⟩ rfl rfl hl.1 rfl (lv_room (Nat.le_of_ble_eq_true rfl)) dX9_counts_36 ⟨Nat.le_of_ble_eq_true rfl, Nat.le_of_ble_eq_true rfl⟩) hS (fun q _ h => hF q h) hF (fun r_3 u t H1 locs ht hvm hw hB hz1 hk1 hS => ?_)
      subst hw
      obtain ⟨hP, hD⟩ := pw_back hF ht hB
      clear hB hk1 hz1 hF
      generalize H1 = H at hP hS ⊢
      subst hR
      rw [hQ]
      exact W.iret (v := (s_X9_partsOf σ a1)) hx hb hr (fun t ht hW => ⟨⟨(s_X9_partsOf σ a1), (), rfl, rfl, ⟨by rw [ht]; exact hP, va_K.moved hW.alike hK, by rw [← hAe]; exact hD⟩⟩, hS.F ht⟩) hS.2.2 dX9_counts_39
    · have hR := (if_pos c_2).symm.trans hR
      refine lv_aload_n hx hb dX9_counts_20 rfl (lv_at hl 0 rfl) ?_
      refine va_get (D := D) (ci := 9) (v := .ref (ad 30)) (C := RX9) (T := TX9) (N := 51) hx hb hts hu9 hown hK hP 0 wm_0 rfl 30 (by decide) (hts (.fieldLink RX9 65 "GrazeBookModel" "rPiece" "[I") (List.mem_cons_of_mem _ mw_813)) (fun _ h9 => h9) rfl dX9_counts_21 ?_
      refine lv_iload_n hx hb dX9_counts_24 rfl (lv_at hl 1 rfl) ?_
      refine va_iald_k (k := (a1.toNatClampNeg)) (v := (σ 30 (a1.toNatClampNeg))) hx hb hK hP 19 0 wm_a30 rfl rfl rfl ha1 dX9_counts_25 ?_
      refine lv_iload_n hx hb dX9_counts_26 rfl (lv_at hl 2 rfl) ?_
      refine lv_icmp_eq (tgt := 34) hx hb dX9_counts_27 (by decide) (fun c_4 => ?_) (fun c_4 => ?_)
      · have hR := (if_pos c_4).symm.trans hR
        refine lv_aload_n hx hb dX9_counts_34 rfl (lv_at hl 0 rfl) ?_
        refine lv_iload_n hx hb dX9_counts_35 rfl (lv_at hl 1 rfl) ?_
        have hF := pw_free hD hS hA
        refine va_calli (va_runV (As := [.int a1]) (rest := []) ⟨hx, hb, hml, hown, hts⟩ (k_X9_partsOf l D ca h ad σ a1 H.size hI ha1 _ rfl) (cwV 1 hts gX9_counts_X9_partsOf rfl rfl rfl (by decide +kernel) ⟨Nat.le_of_ble_eq_true rfl, Nat.le_of_ble_eq_true rfl⟩) ⟨pw_blind, va_recv hK hP (ci := 9) (q0 := 0) rfl wm_0, pw_give hP hK hD⟩ rfl rfl hl.1 rfl (lv_room (Nat.le_of_ble_eq_true rfl)) dX9_counts_36 ⟨Nat.le_of_ble_eq_true rfl, Nat.le_of_ble_eq_true rfl⟩) hS (fun q _ h => hF q h) hF (fun r_5 u t H1 locs ht hvm hw hB hz1 hk1 hS => ?_)
        subst hw
        obtain ⟨hP, hD⟩ := pw_back hF ht hB
        clear hB hk1 hz1 hF
        generalize H1 = H at hP hS ⊢
        subst hR
        rw [hQ]
        exact W.iret (v := (s_X9_partsOf σ a1)) hx hb hr (fun t ht hW => ⟨⟨(s_X9_partsOf σ a1), (), rfl, rfl, ⟨by rw [ht]; exact hP, va_K.moved hW.alike hK, by rw [← hAe]; exact hD⟩⟩, hS.F ht⟩) hS.2.2 dX9_counts_39
      · have hR := (if_neg c_4).symm.trans hR
        refine lv_iconst (v := (0 : Int32)) hx hb dX9_counts_30 (by decide) ?_
        refine lv_goto (tgt := 39) hx hb dX9_counts_31 (by decide) ?_
        subst hR
        rw [hQ]
        exact W.iret (v := (0 : Int32)) hx hb hr (fun t ht hW => ⟨⟨(0 : Int32), (), rfl, rfl, ⟨by rw [ht]; exact hP, va_K.moved hW.alike hK, by rw [← hAe]; exact hD⟩⟩, hS.F ht⟩) hS.2.2 dX9_counts_39

def s_X9_pound (σ : St) (a1 : Int32) : Int32 × St := (if (s_X9_isIn a1 (σ 6 0)) = (0 : Int32) then (((s_X9_refuse σ (-1 : Int32)).1), (s_X9_refuse σ (-1 : Int32)).2) else (if (s_X9_isOut σ a1) = (0 : Int32) then (((s_X9_refuse σ (-3 : Int32)).1), (s_X9_refuse σ (-3 : Int32)).2) else (if (s_X9_lacksOf σ (σ 35 (a1.toNatClampNeg))) = (0 : Int32) then (((s_X9_refuse σ (-3 : Int32)).1), (s_X9_refuse σ (-3 : Int32)).2) else ((1 : Int32), (put (put (put σ 38 (a1.toNatClampNeg) (-1 : Int32)) 41 (a1.toNatClampNeg) (1 : Int32)) 42 (a1.toNatClampNeg) (σ 1 0))))))
theorem fr_s_X9_pound (σ : St) (a1 : Int32) {f : Nat} (h0 : f ≠ 0) (h38 : f ≠ 38) (h41 : f ≠ 41) (h42 : f ≠ 42) : (s_X9_pound σ a1 ).2 f = σ f := by
  unfold s_X9_pound
  all_goals ((try dsimp only) <;> ((repeat' split) <;> (try simp only [put_fr, ne_eq, not_false_eq_true, h0, h38, h41, h42, fr_s_X9_refuse])))
set_option maxHeartbeats 1000000 in
set_option maxRecDepth 100000 in
theorem k_X9_pound (l : Launch) (D : va_G) (ca : Nat → ClassId) (h : Nat) (ad : Nat → Nat) (σ : St) (a1 : Int32) (sz : Nat) (hI : IR σ)  (R : Int32 × St) (hR : s_X9_pound σ a1 = R) : Met l yX9_pound wsX9_pound ({ frames := 3, cells := 0, slots := 0, locals := 74 }) (va_Pc [.ref h, .int a1] (pw_pre D ca (WM ca h ad σ) sz)) (va_Qi (fun (r : Int32) (_ : Unit) => r = R.1) (fun (_ : Unit) (t : State) => pw_post D ca (WM ca h ad σ) sz (WM ca h ad (R.2)) t ∧ IR R.2) (va_A (WM ca h ad σ) sz)) 0 0 (va_A (WM ca h ad σ) sz) := by
  refine Met.ofW (cc := cX9_pound) (maxL := 2) (ret := (some .int)) (by decide) rfl ?_
  intro p e s m args below meth c s₁ B hml hv
  obtain ⟨rfl, hsz, hP, hK, hD0⟩ := hv
  have hx := B.exec
  have hb := B.bytes
  have hr := B.returns
  have hts := atoms_spec (ws := wsX9_pound) B.pre
  have hown : s.vm.findClass RX9 = some m.cls := findClass_of_methodNamed B.named
  have hlocks := B.notSynchronized
  have hu9 : ∀ w ∈ u_ws RX9 TX9 51, w ∈ wsX9_pound := fun w h => List.mem_cons_of_mem _ (uw9 w h)
  subst hsz
  have hD := hD0.self (sz := s.heap.size)
  obtain ⟨A, hAe⟩ : ∃ A, A = va_A (WM ca h ad σ) s.heap.size := ⟨_, rfl⟩
  rw [← hAe] at hD ⊢
  have hA : ∀ q : Nat, s.heap.size ≤ q → A q := fun q h => by rw [hAe]; exact Or.inr h
  have hS : va_S A s.heap s.heap [] := va_S.rf
  have hl := lv_entry ([.ref h, .int a1]) (n := 2) (Nat.le_of_ble_eq_true rfl)
  rw [lg_entry_eq]
  generalize (lg_sl ([.ref h, .int a1]) ++ List.replicate (2 - (lg_sl ([.ref h, .int a1])).length) Slot.unset).toArray = ls at hl ⊢
  have hl : lv_has ls 2 [(0, .ref h), (1, .int a1)] := hl
  obtain ⟨H, hH⟩ : ∃ H, H = s.heap := ⟨_, rfl⟩
  have hP : va_P D vwCl (WM ca h ad σ) H := by rw [hH]; exact hP
  have hS : va_S A s.heap H [] := by rw [hH]; exact hS
  obtain ⟨QQ, hQ⟩ : ∃ Q9, Q9 = MQ below (va_Qi (fun (r : Int32) (_ : Unit) => r = R.1) (fun (_ : Unit) (t : State) => pw_post D ca (WM ca h ad σ) s.heap.size (WM ca h ad (R.2)) t ∧ IR R.2) A) ([.ref h, .int a1] : List Value).toArray s 0 0 A := ⟨_, rfl⟩
  rw [← hQ]
  show W _ _ _ _ _ _ _ _ _ _ s.heap _ _ _ _ _
  rw [← hH]
  have hR : (if (s_X9_isIn a1 (σ 6 0)) = (0 : Int32) then (((s_X9_refuse σ (-1 : Int32)).1), (s_X9_refuse σ (-1 : Int32)).2) else (if (s_X9_isOut σ a1) = (0 : Int32) then (((s_X9_refuse σ (-3 : Int32)).1), (s_X9_refuse σ (-3 : Int32)).2) else (if (s_X9_lacksOf σ (σ 35 (a1.toNatClampNeg))) = (0 : Int32) then (((s_X9_refuse σ (-3 : Int32)).1), (s_X9_refuse σ (-3 : Int32)).2) else ((1 : Int32), (put (put (put σ 38 (a1.toNatClampNeg) (-1 : Int32)) 41 (a1.toNatClampNeg) (1 : Int32)) 42 (a1.toNatClampNeg) (σ 1 0)))))) = R := hR
  refine lv_iload_n hx hb dX9_pound_0 rfl (lv_at hl 1 rfl) ?_
  refine lv_aload_n hx hb dX9_pound_1 rfl (lv_at hl 0 rfl) ?_
  refine va_get (D := D) (ci := 9) (v := .int (σ 6 0)) (C := RX9) (T := TX9) (N := 51) hx hb hts hu9 hown hK hP 0 wm_0 rfl 6 (by decide) (hts (.fieldLink RX9 164 "GrazeBookModel" "herds" "I") (List.mem_cons_of_mem _ mw_789)) (fun _ h9 => h9) rfl dX9_pound_2 ?_
  have hF := pw_free (pn_D (A := A)) hS hA
  refine va_calli (va_runS (As := [.int a1, .int (σ 6 0)]) (rest := []) ⟨hx, hb, hml, hown, hts⟩ (k_X9_isIn l D ca a1 (σ 6 0) H.size _ rfl) (va_cwS 2 hts gX9_pound_X9_isIn rfl rfl rfl (by decide +kernel) ⟨Nat.le_of_ble_eq_true rfl, Nat.le_of_ble_eq_true rfl⟩) ⟨pw_blind, pw_give pn_P hK (pn_D (A := A))⟩ rfl rfl hl.1 rfl (lv_room (Nat.le_of_ble_eq_true rfl)) dX9_pound_5 ⟨Nat.le_of_ble_eq_true rfl, Nat.le_of_ble_eq_true rfl⟩) hS (fun q _ h => hF q h) hF (fun r_1 u t H1 locs ht hvm hw hB hz1 hk1 hS => ?_)
  subst hw
  have hP := pn_back hP hk1
  clear hB hk1 hz1 hF
  generalize H1 = H at hP hS ⊢
  refine lv_if_ne (tgt := 17) hx hb dX9_pound_8 (by decide) (fun c_2 => ?_) (fun c_2 => ?_)
  · have hR := (if_neg c_2).symm.trans hR
    refine lv_aload_n hx hb dX9_pound_17 rfl (lv_at hl 0 rfl) ?_
    refine lv_iload_n hx hb dX9_pound_18 rfl (lv_at hl 1 rfl) ?_
    have hF := pw_free hD hS hA
    refine va_calli (va_runV (As := [.int a1]) (rest := []) ⟨hx, hb, hml, hown, hts⟩ (k_X9_isOut l D ca h ad σ a1 H.size hI (ix_isIn c_2 (ir_6 hI)) _ rfl) (cwV 1 hts gX9_pound_X9_isOut rfl rfl rfl (by decide +kernel) ⟨Nat.le_of_ble_eq_true rfl, Nat.le_of_ble_eq_true rfl⟩) ⟨pw_blind, va_recv hK hP (ci := 9) (q0 := 0) rfl wm_0, pw_give hP hK hD⟩ rfl rfl hl.1 rfl (lv_room (Nat.le_of_ble_eq_true rfl)) dX9_pound_19 ⟨Nat.le_of_ble_eq_true rfl, Nat.le_of_ble_eq_true rfl⟩) hS (fun q _ h => hF q h) hF (fun r_3 u t H1 locs ht hvm hw hB hz1 hk1 hS => ?_)
    subst hw
    obtain ⟨hP, hD⟩ := pw_back hF ht hB
    clear hB hk1 hz1 hF
    generalize H1 = H at hP hS ⊢
    refine lv_if_eq (tgt := 38) hx hb dX9_pound_22 (by decide) (fun c_4 => ?_) (fun c_4 => ?_)
    · have hR := (if_pos c_4).symm.trans hR
      refine lv_aload_n hx hb dX9_pound_38 rfl (lv_at hl 0 rfl) ?_
      refine lv_bipush (v := (-3 : Int32)) hx hb dX9_pound_39 (by decide) ?_
      have hF := pw_free hD hS hA
      refine va_calli (va_runV (As := [.int (-3 : Int32)]) (rest := []) ⟨hx, hb, hml, hown, hts⟩ (k_X9_refuse l D ca h ad σ (-3 : Int32) H.size hI (by unfold vp_in; decide) _ rfl) (cwV 1 hts gX9_pound_X9_refuse rfl rfl rfl (by decide +kernel) ⟨Nat.le_of_ble_eq_true rfl, Nat.le_of_ble_eq_true rfl⟩) ⟨pw_blind, va_recv hK hP (ci := 9) (q0 := 0) rfl wm_0, pw_give hP hK hD⟩ rfl rfl hl.1 rfl (lv_room (Nat.le_of_ble_eq_true rfl)) dX9_pound_41 ⟨Nat.le_of_ble_eq_true rfl, Nat.le_of_ble_eq_true rfl⟩) hS (fun q _ h => hF q h) hF (fun r_5 u t H1 locs ht hvm hw hB hz1 hk1 hS => ?_)
      subst hw
      obtain ⟨hB, hI_6⟩ := hB
      obtain ⟨hP, hD⟩ := pw_back hF ht hB
      clear hB hk1 hz1 hF
      generalize H1 = H at hP hS ⊢
      have hI9 : IR ((s_X9_refuse σ (-3 : Int32)).2) := hI_6
      subst hR
      rw [hQ]
      exact W.iret (v := ((s_X9_refuse σ (-3 : Int32)).1)) hx hb hr (fun t ht hW => ⟨⟨((s_X9_refuse σ (-3 : Int32)).1), (), rfl, rfl, ⟨by rw [ht]; exact hP, va_K.moved hW.alike hK, by rw [← hAe]; exact hD⟩, hI9⟩, hS.F ht⟩) hS.2.2 dX9_pound_44
    · have hR := (if_neg c_4).symm.trans hR
      refine lv_aload_n hx hb dX9_pound_25 rfl (lv_at hl 0 rfl) ?_
      refine lv_aload_n hx hb dX9_pound_26 rfl (lv_at hl 0 rfl) ?_
      refine va_get (D := D) (ci := 9) (v := .ref (ad 35)) (C := RX9) (T := TX9) (N := 51) hx hb hts hu9 hown hK hP 0 wm_0 rfl 35 (by decide) (hts (.fieldLink RX9 80 "GrazeBookModel" "hOwner" "[I") (List.mem_cons_of_mem _ mw_818)) (fun _ h9 => h9) rfl dX9_pound_27 ?_
      refine lv_iload_n hx hb dX9_pound_30 rfl (lv_at hl 1 rfl) ?_
      refine va_iald_k (k := (a1.toNatClampNeg)) (v := (σ 35 (a1.toNatClampNeg))) hx hb hK hP 24 0 wm_a35 rfl rfl rfl (ix_isIn c_2 (ir_6 hI)) dX9_pound_31 ?_
      have hF := pw_free hD hS hA
      refine va_calli (va_runV (As := [.int (σ 35 (a1.toNatClampNeg))]) (rest := []) ⟨hx, hb, hml, hown, hts⟩ (k_X9_lacksOf l D ca h ad σ (σ 35 (a1.toNatClampNeg)) H.size hI _ rfl) (cwV 1 hts gX9_pound_X9_lacksOf rfl rfl rfl (by decide +kernel) ⟨Nat.le_of_ble_eq_true rfl, Nat.le_of_ble_eq_true rfl⟩) ⟨pw_blind, va_recv hK hP (ci := 9) (q0 := 0) rfl wm_0, pw_give hP hK hD⟩ rfl rfl hl.1 rfl (lv_room (Nat.le_of_ble_eq_true rfl)) dX9_pound_32 ⟨Nat.le_of_ble_eq_true rfl, Nat.le_of_ble_eq_true rfl⟩) hS (fun q _ h => hF q h) hF (fun r_7 u t H1 locs ht hvm hw hB hz1 hk1 hS => ?_)
      subst hw
      obtain ⟨hP, hD⟩ := pw_back hF ht hB
      clear hB hk1 hz1 hF
      generalize H1 = H at hP hS ⊢
      refine lv_if_ne (tgt := 45) hx hb dX9_pound_35 (by decide) (fun c_8 => ?_) (fun c_8 => ?_)
      · have hR := (if_neg c_8).symm.trans hR
        refine lv_aload_n hx hb dX9_pound_45 rfl (lv_at hl 0 rfl) ?_
        refine va_get (D := D) (ci := 9) (v := .ref (ad 38)) (C := RX9) (T := TX9) (N := 51) hx hb hts hu9 hown hK hP 0 wm_0 rfl 38 (by decide) (hts (.fieldLink RX9 89 "GrazeBookModel" "hPiece" "[I") (List.mem_cons_of_mem _ mw_821)) (fun _ h9 => h9) rfl dX9_pound_46 ?_
        refine lv_iload_n hx hb dX9_pound_49 rfl (lv_at hl 1 rfl) ?_
        refine lv_iconst (v := (-1 : Int32)) hx hb dX9_pound_50 (by decide) ?_
        refine va_iast_k (k := (a1.toNatClampNeg)) hx hb hK hP hD hS 27 0 wm_a38 rfl rfl (ix_isIn c_2 (ir_6 hI)) dX9_pound_51 (fun H locs hP hD hS => ?_)
        rw [wm_s38] at hP hD
        refine lv_aload_n hx hb dX9_pound_52 rfl (lv_at hl 0 rfl) ?_
        refine va_get (D := D) (ci := 9) (v := .ref (ad 41)) (C := RX9) (T := TX9) (N := 51) hx hb hts hu9 hown hK hP 0 wm_0 rfl 41 (by decide) (hts (.fieldLink RX9 98 "GrazeBookModel" "hState" "[I") (List.mem_cons_of_mem _ mw_824)) (fun _ h9 => h9) rfl dX9_pound_53 ?_
        refine lv_iload_n hx hb dX9_pound_56 rfl (lv_at hl 1 rfl) ?_
        refine lv_iconst (v := (1 : Int32)) hx hb dX9_pound_57 (by decide) ?_
        refine va_iast_k (k := (a1.toNatClampNeg)) hx hb hK hP hD hS 30 0 wm_a41 rfl rfl (ix_isIn c_2 (ir_6 hI)) dX9_pound_58 (fun H locs hP hD hS => ?_)
        rw [wm_s41] at hP hD
        refine lv_aload_n hx hb dX9_pound_59 rfl (lv_at hl 0 rfl) ?_
        refine va_get (D := D) (ci := 9) (v := .ref (ad 42)) (C := RX9) (T := TX9) (N := 51) hx hb hts hu9 hown hK hP 0 wm_0 rfl 42 (by decide) (hts (.fieldLink RX9 101 "GrazeBookModel" "hSince" "[I") (List.mem_cons_of_mem _ mw_825)) (fun _ h9 => h9) rfl dX9_pound_60 ?_
        refine lv_iload_n hx hb dX9_pound_63 rfl (lv_at hl 1 rfl) ?_
        refine lv_aload_n hx hb dX9_pound_64 rfl (lv_at hl 0 rfl) ?_
        refine va_get (D := D) (ci := 9) (v := .int (σ 1 0)) (C := RX9) (T := TX9) (N := 51) hx hb hts hu9 hown hK hP 0 wm_0 rfl 1 (by decide) (hts (.fieldLink RX9 141 "GrazeBookModel" "day" "I") (List.mem_cons_of_mem _ mw_784)) (fun _ h9 => h9) rfl dX9_pound_65 ?_
        refine va_iast_k (k := (a1.toNatClampNeg)) hx hb hK hP hD hS 31 0 wm_a42 rfl rfl (ix_isIn c_2 (ir_6 hI)) dX9_pound_68 (fun H locs hP hD hS => ?_)
        rw [wm_s42] at hP hD
        refine lv_iconst (v := (1 : Int32)) hx hb dX9_pound_69 (by decide) ?_
        have hI9 : IR (put (put (put σ 38 (a1.toNatClampNeg) (-1 : Int32)) 41 (a1.toNatClampNeg) (1 : Int32)) 42 (a1.toNatClampNeg) (σ 1 0)) := hI
        subst hR
        rw [hQ]
        exact W.iret (v := (1 : Int32)) hx hb hr (fun t ht hW => ⟨⟨(1 : Int32), (), rfl, rfl, ⟨by rw [ht]; exact hP, va_K.moved hW.alike hK, by rw [← hAe]; exact hD⟩, hI9⟩, hS.F ht⟩) hS.2.2 dX9_pound_70
      · have hR := (if_pos c_8).symm.trans hR
        refine lv_aload_n hx hb dX9_pound_38 rfl (lv_at hl 0 rfl) ?_
        refine lv_bipush (v := (-3 : Int32)) hx hb dX9_pound_39 (by decide) ?_
        have hF := pw_free hD hS hA
        refine va_calli (va_runV (As := [.int (-3 : Int32)]) (rest := []) ⟨hx, hb, hml, hown, hts⟩ (k_X9_refuse l D ca h ad σ (-3 : Int32) H.size hI (by unfold vp_in; decide) _ rfl) (cwV 1 hts gX9_pound_X9_refuse rfl rfl rfl (by decide +kernel) ⟨Nat.le_of_ble_eq_true rfl, Nat.le_of_ble_eq_true rfl⟩) ⟨pw_blind, va_recv hK hP (ci := 9) (q0 := 0) rfl wm_0, pw_give hP hK hD⟩ rfl rfl hl.1 rfl (lv_room (Nat.le_of_ble_eq_true rfl)) dX9_pound_41 ⟨Nat.le_of_ble_eq_true rfl, Nat.le_of_ble_eq_true rfl⟩) hS (fun q _ h => hF q h) hF (fun r_9 u t H1 locs ht hvm hw hB hz1 hk1 hS => ?_)
        subst hw
        obtain ⟨hB, hI_10⟩ := hB
        obtain ⟨hP, hD⟩ := pw_back hF ht hB
        clear hB hk1 hz1 hF
        generalize H1 = H at hP hS ⊢
        have hI9 : IR ((s_X9_refuse σ (-3 : Int32)).2) := hI_10
        subst hR
        rw [hQ]
        exact W.iret (v := ((s_X9_refuse σ (-3 : Int32)).1)) hx hb hr (fun t ht hW => ⟨⟨((s_X9_refuse σ (-3 : Int32)).1), (), rfl, rfl, ⟨by rw [ht]; exact hP, va_K.moved hW.alike hK, by rw [← hAe]; exact hD⟩, hI9⟩, hS.F ht⟩) hS.2.2 dX9_pound_44
  · have hR := (if_pos c_2).symm.trans hR
    refine lv_aload_n hx hb dX9_pound_11 rfl (lv_at hl 0 rfl) ?_
    refine lv_iconst (v := (-1 : Int32)) hx hb dX9_pound_12 (by decide) ?_
    have hF := pw_free hD hS hA
    refine va_calli (va_runV (As := [.int (-1 : Int32)]) (rest := []) ⟨hx, hb, hml, hown, hts⟩ (k_X9_refuse l D ca h ad σ (-1 : Int32) H.size hI (by unfold vp_in; decide) _ rfl) (cwV 1 hts gX9_pound_X9_refuse rfl rfl rfl (by decide +kernel) ⟨Nat.le_of_ble_eq_true rfl, Nat.le_of_ble_eq_true rfl⟩) ⟨pw_blind, va_recv hK hP (ci := 9) (q0 := 0) rfl wm_0, pw_give hP hK hD⟩ rfl rfl hl.1 rfl (lv_room (Nat.le_of_ble_eq_true rfl)) dX9_pound_13 ⟨Nat.le_of_ble_eq_true rfl, Nat.le_of_ble_eq_true rfl⟩) hS (fun q _ h => hF q h) hF (fun r_11 u t H1 locs ht hvm hw hB hz1 hk1 hS => ?_)
    subst hw
    obtain ⟨hB, hI_12⟩ := hB
    obtain ⟨hP, hD⟩ := pw_back hF ht hB
    clear hB hk1 hz1 hF
    generalize H1 = H at hP hS ⊢
    have hI9 : IR ((s_X9_refuse σ (-1 : Int32)).2) := hI_12
    subst hR
    rw [hQ]
    exact W.iret (v := ((s_X9_refuse σ (-1 : Int32)).1)) hx hb hr (fun t ht hW => ⟨⟨((s_X9_refuse σ (-1 : Int32)).1), (), rfl, rfl, ⟨by rw [ht]; exact hP, va_K.moved hW.alike hK, by rw [← hAe]; exact hD⟩, hI9⟩, hS.F ht⟩) hS.2.2 dX9_pound_16

def s_X9_free (σ : St) (a1 : Int32) : Int32 × St := (if (s_X9_isIn a1 (σ 6 0)) = (0 : Int32) then (((s_X9_refuse σ (-1 : Int32)).1), (s_X9_refuse σ (-1 : Int32)).2) else (if (σ 41 (a1.toNatClampNeg)) = (1 : Int32) then (if (s_X9_feeOf σ a1) ≤ (σ 19 ((σ 35 (a1.toNatClampNeg)).toNatClampNeg)) then ((s_X9_feeOf σ a1), (put (put (put σ 19 ((σ 35 (a1.toNatClampNeg)).toNatClampNeg) ((σ 19 ((σ 35 (a1.toNatClampNeg)).toNatClampNeg)) - (s_X9_feeOf σ a1))) 8 0 ((σ 8 0) + (s_X9_feeOf σ a1))) 41 (a1.toNatClampNeg) (0 : Int32))) else (((s_X9_refuse σ (-5 : Int32)).1), (s_X9_refuse σ (-5 : Int32)).2)) else (((s_X9_refuse σ (-3 : Int32)).1), (s_X9_refuse σ (-3 : Int32)).2)))
theorem fr_s_X9_free (σ : St) (a1 : Int32) {f : Nat} (h0 : f ≠ 0) (h8 : f ≠ 8) (h19 : f ≠ 19) (h41 : f ≠ 41) : (s_X9_free σ a1 ).2 f = σ f := by
  unfold s_X9_free
  all_goals ((try dsimp only) <;> ((repeat' split) <;> (try simp only [put_fr, ne_eq, not_false_eq_true, h0, h8, h19, h41, fr_s_X9_refuse])))
set_option maxHeartbeats 1000000 in
set_option maxRecDepth 100000 in
theorem k_X9_free (l : Launch) (D : va_G) (ca : Nat → ClassId) (h : Nat) (ad : Nat → Nat) (σ : St) (a1 : Int32) (sz : Nat) (hI : IR σ)  (R : Int32 × St) (hR : s_X9_free σ a1 = R) : Met l yX9_free wsX9_free ({ frames := 1, cells := 0, slots := 0, locals := 21 }) (va_Pc [.ref h, .int a1] (pw_pre D ca (WM ca h ad σ) sz)) (va_Qi (fun (r : Int32) (_ : Unit) => r = R.1) (fun (_ : Unit) (t : State) => pw_post D ca (WM ca h ad σ) sz (WM ca h ad (R.2)) t ∧ IR R.2) (va_A (WM ca h ad σ) sz)) 0 0 (va_A (WM ca h ad σ) sz) := by
  refine Met.ofW (cc := cX9_free) (maxL := 3) (ret := (some .int)) (by decide) rfl ?_
  intro p e s m args below meth c s₁ B hml hv
  obtain ⟨rfl, hsz, hP, hK, hD0⟩ := hv
  have hx := B.exec
  have hb := B.bytes
  have hr := B.returns
  have hts := atoms_spec (ws := wsX9_free) B.pre
  have hown : s.vm.findClass RX9 = some m.cls := findClass_of_methodNamed B.named
  have hlocks := B.notSynchronized
  have hu9 : ∀ w ∈ u_ws RX9 TX9 51, w ∈ wsX9_free := fun w h => List.mem_cons_of_mem _ (uw9 w h)
  subst hsz
  have hD := hD0.self (sz := s.heap.size)
  obtain ⟨A, hAe⟩ : ∃ A, A = va_A (WM ca h ad σ) s.heap.size := ⟨_, rfl⟩
  rw [← hAe] at hD ⊢
  have hA : ∀ q : Nat, s.heap.size ≤ q → A q := fun q h => by rw [hAe]; exact Or.inr h
  have hS : va_S A s.heap s.heap [] := va_S.rf
  have hl := lv_entry ([.ref h, .int a1]) (n := 3) (Nat.le_of_ble_eq_true rfl)
  rw [lg_entry_eq]
  generalize (lg_sl ([.ref h, .int a1]) ++ List.replicate (3 - (lg_sl ([.ref h, .int a1])).length) Slot.unset).toArray = ls at hl ⊢
  have hl : lv_has ls 3 [(0, .ref h), (1, .int a1)] := hl
  obtain ⟨H, hH⟩ : ∃ H, H = s.heap := ⟨_, rfl⟩
  have hP : va_P D vwCl (WM ca h ad σ) H := by rw [hH]; exact hP
  have hS : va_S A s.heap H [] := by rw [hH]; exact hS
  obtain ⟨QQ, hQ⟩ : ∃ Q9, Q9 = MQ below (va_Qi (fun (r : Int32) (_ : Unit) => r = R.1) (fun (_ : Unit) (t : State) => pw_post D ca (WM ca h ad σ) s.heap.size (WM ca h ad (R.2)) t ∧ IR R.2) A) ([.ref h, .int a1] : List Value).toArray s 0 0 A := ⟨_, rfl⟩
  rw [← hQ]
  show W _ _ _ _ _ _ _ _ _ _ s.heap _ _ _ _ _
  rw [← hH]
  have hR : (if (s_X9_isIn a1 (σ 6 0)) = (0 : Int32) then (((s_X9_refuse σ (-1 : Int32)).1), (s_X9_refuse σ (-1 : Int32)).2) else (if (σ 41 (a1.toNatClampNeg)) = (1 : Int32) then (if (s_X9_feeOf σ a1) ≤ (σ 19 ((σ 35 (a1.toNatClampNeg)).toNatClampNeg)) then ((s_X9_feeOf σ a1), (put (put (put σ 19 ((σ 35 (a1.toNatClampNeg)).toNatClampNeg) ((σ 19 ((σ 35 (a1.toNatClampNeg)).toNatClampNeg)) - (s_X9_feeOf σ a1))) 8 0 ((σ 8 0) + (s_X9_feeOf σ a1))) 41 (a1.toNatClampNeg) (0 : Int32))) else (((s_X9_refuse σ (-5 : Int32)).1), (s_X9_refuse σ (-5 : Int32)).2)) else (((s_X9_refuse σ (-3 : Int32)).1), (s_X9_refuse σ (-3 : Int32)).2))) = R := hR
  refine lv_iload_n hx hb dX9_free_0 rfl (lv_at hl 1 rfl) ?_
  refine lv_aload_n hx hb dX9_free_1 rfl (lv_at hl 0 rfl) ?_
  refine va_get (D := D) (ci := 9) (v := .int (σ 6 0)) (C := RX9) (T := TX9) (N := 51) hx hb hts hu9 hown hK hP 0 wm_0 rfl 6 (by decide) (hts (.fieldLink RX9 164 "GrazeBookModel" "herds" "I") (List.mem_cons_of_mem _ mw_789)) (fun _ h9 => h9) rfl dX9_free_2 ?_
  have hF := pw_free (pn_D (A := A)) hS hA
  refine va_calli (va_runS (As := [.int a1, .int (σ 6 0)]) (rest := []) ⟨hx, hb, hml, hown, hts⟩ (k_X9_isIn l D ca a1 (σ 6 0) H.size _ rfl) (va_cwS 2 hts gX9_free_X9_isIn rfl rfl rfl (by decide +kernel) ⟨Nat.le_of_ble_eq_true rfl, Nat.le_of_ble_eq_true rfl⟩) ⟨pw_blind, pw_give pn_P hK (pn_D (A := A))⟩ rfl rfl hl.1 rfl (lv_room (Nat.le_of_ble_eq_true rfl)) dX9_free_5 ⟨Nat.le_of_ble_eq_true rfl, Nat.le_of_ble_eq_true rfl⟩) hS (fun q _ h => hF q h) hF (fun r_1 u t H1 locs ht hvm hw hB hz1 hk1 hS => ?_)
  subst hw
  have hP := pn_back hP hk1
  clear hB hk1 hz1 hF
  generalize H1 = H at hP hS ⊢
  refine lv_if_ne (tgt := 17) hx hb dX9_free_8 (by decide) (fun c_2 => ?_) (fun c_2 => ?_)
  · have hR := (if_neg c_2).symm.trans hR
    refine lv_aload_n hx hb dX9_free_17 rfl (lv_at hl 0 rfl) ?_
    refine va_get (D := D) (ci := 9) (v := .ref (ad 41)) (C := RX9) (T := TX9) (N := 51) hx hb hts hu9 hown hK hP 0 wm_0 rfl 41 (by decide) (hts (.fieldLink RX9 98 "GrazeBookModel" "hState" "[I") (List.mem_cons_of_mem _ mw_824)) (fun _ h9 => h9) rfl dX9_free_18 ?_
    refine lv_iload_n hx hb dX9_free_21 rfl (lv_at hl 1 rfl) ?_
    refine va_iald_k (k := (a1.toNatClampNeg)) (v := (σ 41 (a1.toNatClampNeg))) hx hb hK hP 30 0 wm_a41 rfl rfl rfl (ix_isIn c_2 (ir_6 hI)) dX9_free_22 ?_
    refine lv_iconst (v := (1 : Int32)) hx hb dX9_free_23 (by decide) ?_
    refine lv_icmp_eq (tgt := 34) hx hb dX9_free_24 (by decide) (fun c_3 => ?_) (fun c_3 => ?_)
    · have hR := (if_pos c_3).symm.trans hR
      refine lv_aload_n hx hb dX9_free_34 rfl (lv_at hl 0 rfl) ?_
      refine lv_iload_n hx hb dX9_free_35 rfl (lv_at hl 1 rfl) ?_
      have hF := pw_free hD hS hA
      refine va_calli (va_runV (As := [.int a1]) (rest := []) ⟨hx, hb, hml, hown, hts⟩ (k_X9_feeOf l D ca h ad σ a1 H.size hI (ix_isIn c_2 (ir_6 hI)) _ rfl) (cwV 1 hts gX9_free_X9_feeOf rfl rfl rfl (by decide +kernel) ⟨Nat.le_of_ble_eq_true rfl, Nat.le_of_ble_eq_true rfl⟩) ⟨pw_blind, va_recv hK hP (ci := 9) (q0 := 0) rfl wm_0, pw_give hP hK hD⟩ rfl rfl hl.1 rfl (lv_room (Nat.le_of_ble_eq_true rfl)) dX9_free_36 ⟨Nat.le_of_ble_eq_true rfl, Nat.le_of_ble_eq_true rfl⟩) hS (fun q _ h => hF q h) hF (fun r_4 u t H1 locs ht hvm hw hB hz1 hk1 hS => ?_)
      subst hw
      obtain ⟨hP, hD⟩ := pw_back hF ht hB
      clear hB hk1 hz1 hF
      generalize H1 = H at hP hS ⊢
      refine lv_istore_n (lv' := [(2, .int (s_X9_feeOf σ a1)), (0, .ref h), (1, .int a1)]) hx hb dX9_free_39 rfl hl (by decide) rfl (fun ls hl => ?_)
      refine lv_iload_n hx hb dX9_free_40 rfl (lv_at hl 0 rfl) ?_
      refine lv_aload_n hx hb dX9_free_41 rfl (lv_at hl 1 rfl) ?_
      refine va_get (D := D) (ci := 9) (v := .ref (ad 19)) (C := RX9) (T := TX9) (N := 51) hx hb hts hu9 hown hK hP 0 wm_0 rfl 19 (by decide) (hts (.fieldLink RX9 32 "GrazeBookModel" "coins" "[I") (List.mem_cons_of_mem _ mw_802)) (fun _ h9 => h9) rfl dX9_free_42 ?_
      refine lv_aload_n hx hb dX9_free_45 rfl (lv_at hl 1 rfl) ?_
      refine va_get (D := D) (ci := 9) (v := .ref (ad 35)) (C := RX9) (T := TX9) (N := 51) hx hb hts hu9 hown hK hP 0 wm_0 rfl 35 (by decide) (hts (.fieldLink RX9 80 "GrazeBookModel" "hOwner" "[I") (List.mem_cons_of_mem _ mw_818)) (fun _ h9 => h9) rfl dX9_free_46 ?_
      refine lv_iload_n hx hb dX9_free_49 rfl (lv_at hl 2 rfl) ?_
      refine va_iald_k (k := (a1.toNatClampNeg)) (v := (σ 35 (a1.toNatClampNeg))) hx hb hK hP 24 0 wm_a35 rfl rfl rfl (ix_isIn c_2 (ir_6 hI)) dX9_free_50 ?_
      refine va_iald_k (k := ((σ 35 (a1.toNatClampNeg)).toNatClampNeg)) (v := (σ 19 ((σ 35 (a1.toNatClampNeg)).toNatClampNeg))) hx hb hK hP 8 0 wm_a19 rfl rfl rfl (vp_mono (n := 10) (vp_in_iff.mpr (ir_35 hI (a1.toNatClampNeg))) (by decide)) dX9_free_51 ?_
      refine lv_icmp_le (tgt := 62) hx hb dX9_free_52 (by decide) (fun c_5 => ?_) (fun c_5 => ?_)
      · have hR := (if_pos c_5).symm.trans hR
        refine lv_aload_n hx hb dX9_free_62 rfl (lv_at hl 1 rfl) ?_
        refine va_get (D := D) (ci := 9) (v := .ref (ad 19)) (C := RX9) (T := TX9) (N := 51) hx hb hts hu9 hown hK hP 0 wm_0 rfl 19 (by decide) (hts (.fieldLink RX9 32 "GrazeBookModel" "coins" "[I") (List.mem_cons_of_mem _ mw_802)) (fun _ h9 => h9) rfl dX9_free_63 ?_
        refine lv_aload_n hx hb dX9_free_66 rfl (lv_at hl 1 rfl) ?_
        refine va_get (D := D) (ci := 9) (v := .ref (ad 35)) (C := RX9) (T := TX9) (N := 51) hx hb hts hu9 hown hK hP 0 wm_0 rfl 35 (by decide) (hts (.fieldLink RX9 80 "GrazeBookModel" "hOwner" "[I") (List.mem_cons_of_mem _ mw_818)) (fun _ h9 => h9) rfl dX9_free_67 ?_
        refine lv_iload_n hx hb dX9_free_70 rfl (lv_at hl 2 rfl) ?_
        refine va_iald_k (k := (a1.toNatClampNeg)) (v := (σ 35 (a1.toNatClampNeg))) hx hb hK hP 24 0 wm_a35 rfl rfl rfl (ix_isIn c_2 (ir_6 hI)) dX9_free_71 ?_
        refine lv_dup2_11 hx hb dX9_free_72 rfl rfl ?_
        refine va_iald_k (k := ((σ 35 (a1.toNatClampNeg)).toNatClampNeg)) (v := (σ 19 ((σ 35 (a1.toNatClampNeg)).toNatClampNeg))) hx hb hK hP 8 0 wm_a19 rfl rfl rfl (vp_mono (n := 10) (vp_in_iff.mpr (ir_35 hI (a1.toNatClampNeg))) (by decide)) dX9_free_73 ?_
        refine lv_iload_n hx hb dX9_free_74 rfl (lv_at hl 0 rfl) ?_
        refine lv_isub hx hb dX9_free_75 ?_
        refine va_iast_k (k := ((σ 35 (a1.toNatClampNeg)).toNatClampNeg)) hx hb hK hP hD hS 8 0 wm_a19 rfl rfl (vp_mono (n := 10) (vp_in_iff.mpr (ir_35 hI (a1.toNatClampNeg))) (by decide)) dX9_free_76 (fun H locs hP hD hS => ?_)
        rw [wm_s19] at hP hD
        refine lv_aload_n hx hb dX9_free_77 rfl (lv_at hl 1 rfl) ?_
        refine lv_dup hx hb dX9_free_78 rfl ?_
        refine va_get (D := D) (ci := 9) (v := .int (σ 8 0)) (C := RX9) (T := TX9) (N := 51) hx hb hts hu9 hown hK hP 0 wm_0 rfl 8 (by decide) (hts (.fieldLink RX9 205 "GrazeBookModel" "reeveCoins" "I") (List.mem_cons_of_mem _ mw_791)) (fun _ h9 => h9) rfl dX9_free_79 ?_
        refine lv_iload_n hx hb dX9_free_82 rfl (lv_at hl 0 rfl) ?_
        refine lv_iadd hx hb dX9_free_83 ?_
        refine va_put (D := D) (ci := 9) (v := .int ((σ 8 0) + (s_X9_feeOf σ a1))) (ty := .int) (C := RX9) (T := TX9) (N := 51) hx hb hts hu9 tyX9 tyX9_ok nmX9 hown hK hP hD hS 0 wm_0 rfl 8 (by decide) (hts (.fieldLink RX9 205 "GrazeBookModel" "reeveCoins" "I") (List.mem_cons_of_mem _ mw_791)) (fun _ h9 => h9) rfl (by decide +kernel) rfl rfl (Nat.le_of_ble_eq_true rfl) dX9_free_84 (fun H locs hP hD hS => ?_)
        rw [wm_p8] at hP hD
        refine lv_aload_n hx hb dX9_free_87 rfl (lv_at hl 1 rfl) ?_
        refine va_get (D := D) (ci := 9) (v := .ref (ad 41)) (C := RX9) (T := TX9) (N := 51) hx hb hts hu9 hown hK hP 0 wm_0 rfl 41 (by decide) (hts (.fieldLink RX9 98 "GrazeBookModel" "hState" "[I") (List.mem_cons_of_mem _ mw_824)) (fun _ h9 => h9) rfl dX9_free_88 ?_
        refine lv_iload_n hx hb dX9_free_91 rfl (lv_at hl 2 rfl) ?_
        refine lv_iconst (v := (0 : Int32)) hx hb dX9_free_92 (by decide) ?_
        refine va_iast_k (k := (a1.toNatClampNeg)) hx hb hK hP hD hS 30 0 wm_a41 rfl rfl (ix_isIn c_2 (ir_6 hI)) dX9_free_93 (fun H locs hP hD hS => ?_)
        rw [wm_s41] at hP hD
        refine lv_iload_n hx hb dX9_free_94 rfl (lv_at hl 0 rfl) ?_
        have hI9 : IR (put (put (put σ 19 ((σ 35 (a1.toNatClampNeg)).toNatClampNeg) ((σ 19 ((σ 35 (a1.toNatClampNeg)).toNatClampNeg)) - (s_X9_feeOf σ a1))) 8 0 ((σ 8 0) + (s_X9_feeOf σ a1))) 41 (a1.toNatClampNeg) (0 : Int32)) := hI
        subst hR
        rw [hQ]
        exact W.iret (v := (s_X9_feeOf σ a1)) hx hb hr (fun t ht hW => ⟨⟨(s_X9_feeOf σ a1), (), rfl, rfl, ⟨by rw [ht]; exact hP, va_K.moved hW.alike hK, by rw [← hAe]; exact hD⟩, hI9⟩, hS.F ht⟩) hS.2.2 dX9_free_95
      · have hR := (if_neg c_5).symm.trans hR
        refine lv_aload_n hx hb dX9_free_55 rfl (lv_at hl 1 rfl) ?_
        refine lv_bipush (v := (-5 : Int32)) hx hb dX9_free_56 (by decide) ?_
        have hF := pw_free hD hS hA
        refine va_calli (va_runV (As := [.int (-5 : Int32)]) (rest := []) ⟨hx, hb, hml, hown, hts⟩ (k_X9_refuse l D ca h ad σ (-5 : Int32) H.size hI (by unfold vp_in; decide) _ rfl) (cwV 1 hts gX9_free_X9_refuse rfl rfl rfl (by decide +kernel) ⟨Nat.le_of_ble_eq_true rfl, Nat.le_of_ble_eq_true rfl⟩) ⟨pw_blind, va_recv hK hP (ci := 9) (q0 := 0) rfl wm_0, pw_give hP hK hD⟩ rfl rfl hl.1 rfl (lv_room (Nat.le_of_ble_eq_true rfl)) dX9_free_58 ⟨Nat.le_of_ble_eq_true rfl, Nat.le_of_ble_eq_true rfl⟩) hS (fun q _ h => hF q h) hF (fun r_6 u t H1 locs ht hvm hw hB hz1 hk1 hS => ?_)
        subst hw
        obtain ⟨hB, hI_7⟩ := hB
        obtain ⟨hP, hD⟩ := pw_back hF ht hB
        clear hB hk1 hz1 hF
        generalize H1 = H at hP hS ⊢
        have hI9 : IR ((s_X9_refuse σ (-5 : Int32)).2) := hI_7
        subst hR
        rw [hQ]
        exact W.iret (v := ((s_X9_refuse σ (-5 : Int32)).1)) hx hb hr (fun t ht hW => ⟨⟨((s_X9_refuse σ (-5 : Int32)).1), (), rfl, rfl, ⟨by rw [ht]; exact hP, va_K.moved hW.alike hK, by rw [← hAe]; exact hD⟩, hI9⟩, hS.F ht⟩) hS.2.2 dX9_free_61
    · have hR := (if_neg c_3).symm.trans hR
      refine lv_aload_n hx hb dX9_free_27 rfl (lv_at hl 0 rfl) ?_
      refine lv_bipush (v := (-3 : Int32)) hx hb dX9_free_28 (by decide) ?_
      have hF := pw_free hD hS hA
      refine va_calli (va_runV (As := [.int (-3 : Int32)]) (rest := []) ⟨hx, hb, hml, hown, hts⟩ (k_X9_refuse l D ca h ad σ (-3 : Int32) H.size hI (by unfold vp_in; decide) _ rfl) (cwV 1 hts gX9_free_X9_refuse rfl rfl rfl (by decide +kernel) ⟨Nat.le_of_ble_eq_true rfl, Nat.le_of_ble_eq_true rfl⟩) ⟨pw_blind, va_recv hK hP (ci := 9) (q0 := 0) rfl wm_0, pw_give hP hK hD⟩ rfl rfl hl.1 rfl (lv_room (Nat.le_of_ble_eq_true rfl)) dX9_free_30 ⟨Nat.le_of_ble_eq_true rfl, Nat.le_of_ble_eq_true rfl⟩) hS (fun q _ h => hF q h) hF (fun r_8 u t H1 locs ht hvm hw hB hz1 hk1 hS => ?_)
      subst hw
      obtain ⟨hB, hI_9⟩ := hB
      obtain ⟨hP, hD⟩ := pw_back hF ht hB
      clear hB hk1 hz1 hF
      generalize H1 = H at hP hS ⊢
      have hI9 : IR ((s_X9_refuse σ (-3 : Int32)).2) := hI_9
      subst hR
      rw [hQ]
      exact W.iret (v := ((s_X9_refuse σ (-3 : Int32)).1)) hx hb hr (fun t ht hW => ⟨⟨((s_X9_refuse σ (-3 : Int32)).1), (), rfl, rfl, ⟨by rw [ht]; exact hP, va_K.moved hW.alike hK, by rw [← hAe]; exact hD⟩, hI9⟩, hS.F ht⟩) hS.2.2 dX9_free_33
  · have hR := (if_pos c_2).symm.trans hR
    refine lv_aload_n hx hb dX9_free_11 rfl (lv_at hl 0 rfl) ?_
    refine lv_iconst (v := (-1 : Int32)) hx hb dX9_free_12 (by decide) ?_
    have hF := pw_free hD hS hA
    refine va_calli (va_runV (As := [.int (-1 : Int32)]) (rest := []) ⟨hx, hb, hml, hown, hts⟩ (k_X9_refuse l D ca h ad σ (-1 : Int32) H.size hI (by unfold vp_in; decide) _ rfl) (cwV 1 hts gX9_free_X9_refuse rfl rfl rfl (by decide +kernel) ⟨Nat.le_of_ble_eq_true rfl, Nat.le_of_ble_eq_true rfl⟩) ⟨pw_blind, va_recv hK hP (ci := 9) (q0 := 0) rfl wm_0, pw_give hP hK hD⟩ rfl rfl hl.1 rfl (lv_room (Nat.le_of_ble_eq_true rfl)) dX9_free_13 ⟨Nat.le_of_ble_eq_true rfl, Nat.le_of_ble_eq_true rfl⟩) hS (fun q _ h => hF q h) hF (fun r_10 u t H1 locs ht hvm hw hB hz1 hk1 hS => ?_)
    subst hw
    obtain ⟨hB, hI_11⟩ := hB
    obtain ⟨hP, hD⟩ := pw_back hF ht hB
    clear hB hk1 hz1 hF
    generalize H1 = H at hP hS ⊢
    have hI9 : IR ((s_X9_refuse σ (-1 : Int32)).2) := hI_11
    subst hR
    rw [hQ]
    exact W.iret (v := ((s_X9_refuse σ (-1 : Int32)).1)) hx hb hr (fun t ht hW => ⟨⟨((s_X9_refuse σ (-1 : Int32)).1), (), rfl, rfl, ⟨by rw [ht]; exact hP, va_K.moved hW.alike hK, by rw [← hAe]; exact hD⟩, hI9⟩, hS.F ht⟩) hS.2.2 dX9_free_16

def s_X9_cut_c159 (σ : St) (a1 : Int32) : (Int32 × St) → Int32 × St := fun x9 => match x9 with
  | (v6_10, τ_10) => ((if (0 : Int32) < ((σ 13 (a1.toNatClampNeg)) - (100 : Int32)) then ((σ 13 (a1.toNatClampNeg)) - (100 : Int32)) else (0 : Int32)), (put τ_10 9 0 ((τ_10 9 0) + v6_10)))
def s_X9_cut_c181 (σ : St) (a1 : Int32) (v4_9 : Int64) (k_10 : Nat) (v6_10 : Int32) (τ_10 : St) : Int64 → Option (Int32 × St) := fun x9 => match x9 with
  | v8_14 => (some ((v6_10 - (((((if (0 : Int32) < ((σ 13 (a1.toNatClampNeg)) - (100 : Int32)) then ((σ 13 (a1.toNatClampNeg)) - (100 : Int32)) else (0 : Int32)).toInt64) * v8_14) / v4_9).toInt32)), (put τ_10 20 k_10 ((τ_10 20 k_10) + (((((if (0 : Int32) < ((σ 13 (a1.toNatClampNeg)) - (100 : Int32)) then ((σ 13 (a1.toNatClampNeg)) - (100 : Int32)) else (0 : Int32)).toInt64) * v8_14) / v4_9).toInt32)))))
def s_X9_cut_l181 (a1 : Int32) (k_10 : Nat) (τ_10 : St) (k_14 : Nat) : Int64 → Int64 := fun x9 => match x9 with
  | v8_14 => (if (s_X9_ownerOfRight τ_10 (nI k_14)) = (nI k_10) then (v8_14 + ((s_X9_counts τ_10 (nI k_14) a1).toInt64)) else (v8_14 + (0 : Int64)))
def s_X9_cut_l159 (σ : St) (a1 : Int32) (v4_9 : Int64) (k_10 : Nat) : (Int32 × St) → Option (Int32 × St) := fun x9 => match x9 with
  | (v6_10, τ_10) => (if (lg_cmp v4_9 (0 : Int64)) ≤ (0 : Int32) then none else (s_X9_cut_c181 σ a1 v4_9 k_10 v6_10 τ_10 (iter (s_X9_cut_l181 a1 k_10 τ_10) ((τ_10 5 0).toNatClampNeg - 0) 0 (0 : Int64))))
def s_X9_cut_c125 (σ : St) (a1 : Int32) : Int64 → Int32 × St := fun x9 => match x9 with
  | v4_9 => (s_X9_cut_c159 σ a1 (iterC (s_X9_cut_l159 σ a1 v4_9) ((σ 3 0).toNatClampNeg - 0) 0 ((if (0 : Int32) < ((σ 13 (a1.toNatClampNeg)) - (100 : Int32)) then ((σ 13 (a1.toNatClampNeg)) - (100 : Int32)) else (0 : Int32)), (put (put σ 13 (a1.toNatClampNeg) ((σ 13 (a1.toNatClampNeg)) - (if (0 : Int32) < ((σ 13 (a1.toNatClampNeg)) - (100 : Int32)) then ((σ 13 (a1.toNatClampNeg)) - (100 : Int32)) else (0 : Int32)))) 16 (a1.toNatClampNeg) ((σ 1 0) + (20 : Int32))))))
def s_X9_cut_l125 (σ : St) (a1 : Int32) (k_9 : Nat) : Int64 → Int64 := fun x9 => match x9 with
  | v4_9 => (v4_9 + ((s_X9_counts (put (put σ 13 (a1.toNatClampNeg) ((σ 13 (a1.toNatClampNeg)) - (if (0 : Int32) < ((σ 13 (a1.toNatClampNeg)) - (100 : Int32)) then ((σ 13 (a1.toNatClampNeg)) - (100 : Int32)) else (0 : Int32)))) 16 (a1.toNatClampNeg) ((σ 1 0) + (20 : Int32))) (nI k_9) a1).toInt64))
def s_X9_cut_c21 (σ : St) (a1 : Int32) : Int32 → Int32 × St := fun x9 => match x9 with
  | v2_3 => (if (s_X9_rests σ a1) = (0 : Int32) then (if v2_3 = (0 : Int32) then (s_X9_cut_c125 σ a1 (iter (s_X9_cut_l125 σ a1) ((σ 5 0).toNatClampNeg - 0) 0 (0 : Int64))) else (((s_X9_refuse σ (-3 : Int32)).1), (s_X9_refuse σ (-3 : Int32)).2)) else (((s_X9_refuse σ (-3 : Int32)).1), (s_X9_refuse σ (-3 : Int32)).2))
def s_X9_cut_l21 (σ : St) (a1 : Int32) (k_3 : Nat) : Int32 → Int32 := fun x9 => match x9 with
  | v2_3 => (if v2_3 = (0 : Int32) then (if (s_X9_isOut σ (nI k_3)) = (0 : Int32) then (0 : Int32) else (if (σ 38 k_3) = a1 then (1 : Int32) else (0 : Int32))) else (1 : Int32))
def s_X9_cut (σ : St) (a1 : Int32) : Int32 × St := (if (s_X9_isIn a1 (σ 2 0)) = (0 : Int32) then (((s_X9_refuse σ (-1 : Int32)).1), (s_X9_refuse σ (-1 : Int32)).2) else (s_X9_cut_c21 σ a1 (iter (s_X9_cut_l21 σ a1) ((σ 6 0).toNatClampNeg - 0) 0 (0 : Int32))))
theorem fr_s_X9_cut_c159 (σ : St) (a1 : Int32) (s : (Int32 × St)) {f : Nat} (h0 : f ≠ 0) (h9 : f ≠ 9) (h13 : f ≠ 13) (h16 : f ≠ 16) (h20 : f ≠ 20) : (s_X9_cut_c159 σ a1 s).2 f = s.2 f := by
  obtain ⟨v6_10, τ_10⟩ := s
  unfold s_X9_cut_c159
  all_goals ((try dsimp only) <;> ((repeat' split) <;> (try simp only [put_fr, ne_eq, not_false_eq_true, h0, h9, h13, h16, h20, fr_s_X9_refuse])))
theorem fr_s_X9_cut_c181 (σ : St) (a1 : Int32) (v4_9 : Int64) (k_10 : Nat) (v6_10 : Int32) (τ_10 : St) (s : Int64) {f : Nat} (h0 : f ≠ 0) (h9 : f ≠ 9) (h13 : f ≠ 13) (h16 : f ≠ 16) (h20 : f ≠ 20) : ∀ t, s_X9_cut_c181 σ a1 v4_9 k_10 v6_10 τ_10 s = some t → t.2 f = τ_10 f := by
  intro t h
  unfold s_X9_cut_c181 at h
  (try dsimp only at h)
  (repeat' split at h) <;> first | (cases h; done) | (obtain rfl := Option.some.inj h; simp only [put_fr, ne_eq, not_false_eq_true, h0, h9, h13, h16, h20, fr_s_X9_refuse, fr_s_X9_cut_c159])
theorem fr_s_X9_cut_l159 (σ : St) (a1 : Int32) (v4_9 : Int64) (k_10 : Nat) (s : (Int32 × St)) {f : Nat} (h0 : f ≠ 0) (h9 : f ≠ 9) (h13 : f ≠ 13) (h16 : f ≠ 16) (h20 : f ≠ 20) : ∀ t, s_X9_cut_l159 σ a1 v4_9 k_10 s = some t → t.2 f = s.2 f := by
  obtain ⟨v6_10, τ_10⟩ := s
  intro t h
  unfold s_X9_cut_l159 at h
  (try dsimp only at h)
  (repeat' split at h) <;> first | (cases h; done) | exact fr_s_X9_cut_c181 _ _ _ _ _ _ _ h0 h9 h13 h16 h20 t h | (obtain rfl := Option.some.inj h; simp only [put_fr, ne_eq, not_false_eq_true, h0, h9, h13, h16, h20, fr_s_X9_refuse, fr_s_X9_cut_c159])
theorem fri_s_X9_cut_l159 (σ : St) (a1 : Int32) (v4_9 : Int64) (n k : Nat) (s : (Int32 × St)) {f : Nat} (h0 : f ≠ 0) (h9 : f ≠ 9) (h13 : f ≠ 13) (h16 : f ≠ 16) (h20 : f ≠ 20) : (iterC (s_X9_cut_l159 σ a1 v4_9) n k s).2 f = s.2 f := iterC_fr (P := (fun s => s.2 f)) (fun k s t h => fr_s_X9_cut_l159 σ a1 v4_9 k s h0 h9 h13 h16 h20 t h) n k s
theorem fr_s_X9_cut_c125 (σ : St) (a1 : Int32) (s : Int64) {f : Nat} (h0 : f ≠ 0) (h9 : f ≠ 9) (h13 : f ≠ 13) (h16 : f ≠ 16) (h20 : f ≠ 20) : (s_X9_cut_c125 σ a1 s).2 f = σ f := by
  unfold s_X9_cut_c125
  all_goals ((try dsimp only) <;> ((repeat' split) <;> (try simp only [put_fr, ne_eq, not_false_eq_true, h0, h9, h13, h16, h20, fr_s_X9_refuse, fr_s_X9_cut_c159, fri_s_X9_cut_l159])))
theorem fr_s_X9_cut_c21 (σ : St) (a1 : Int32) (s : Int32) {f : Nat} (h0 : f ≠ 0) (h9 : f ≠ 9) (h13 : f ≠ 13) (h16 : f ≠ 16) (h20 : f ≠ 20) : (s_X9_cut_c21 σ a1 s).2 f = σ f := by
  unfold s_X9_cut_c21
  all_goals ((try dsimp only) <;> ((repeat' split) <;> (try simp only [put_fr, ne_eq, not_false_eq_true, h0, h9, h13, h16, h20, fr_s_X9_refuse, fr_s_X9_cut_c159, fri_s_X9_cut_l159, fr_s_X9_cut_c125])))
theorem fr_s_X9_cut (σ : St) (a1 : Int32) {f : Nat} (h0 : f ≠ 0) (h9 : f ≠ 9) (h13 : f ≠ 13) (h16 : f ≠ 16) (h20 : f ≠ 20) : (s_X9_cut σ a1 ).2 f = σ f := by
  unfold s_X9_cut
  all_goals ((try dsimp only) <;> ((repeat' split) <;> (try simp only [put_fr, ne_eq, not_false_eq_true, h0, h9, h13, h16, h20, fr_s_X9_refuse, fr_s_X9_cut_c159, fri_s_X9_cut_l159, fr_s_X9_cut_c125, fr_s_X9_cut_c21])))
set_option maxHeartbeats 1000000 in
set_option maxRecDepth 100000 in
theorem k_X9_cut (l : Launch) (D : va_G) (ca : Nat → ClassId) (h : Nat) (ad : Nat → Nat) (σ : St) (a1 : Int32) (sz : Nat) (hI : IR σ)  (R : Int32 × St) (hR : s_X9_cut σ a1 = R) : Met l yX9_cut wsX9_cut ({ frames := 3, cells := 0, slots := 0, locals := 66 }) (va_Pc [.ref h, .int a1] (pw_pre D ca (WM ca h ad σ) sz)) (va_Qi (fun (r : Int32) (_ : Unit) => r = R.1) (fun (_ : Unit) (t : State) => pw_post D ca (WM ca h ad σ) sz (WM ca h ad (R.2)) t ∧ IR R.2) (va_A (WM ca h ad σ) sz)) 0 0 (va_A (WM ca h ad σ) sz) := by
  refine Met.ofW (cc := cX9_cut) (maxL := 11) (ret := (some .int)) (by decide) rfl ?_
  intro p e s m args below meth c s₁ B hml hv
  obtain ⟨rfl, hsz, hP, hK, hD0⟩ := hv
  have hx := B.exec
  have hb := B.bytes
  have hr := B.returns
  have hts := atoms_spec (ws := wsX9_cut) B.pre
  have hown : s.vm.findClass RX9 = some m.cls := findClass_of_methodNamed B.named
  have hlocks := B.notSynchronized
  have hu9 : ∀ w ∈ u_ws RX9 TX9 51, w ∈ wsX9_cut := fun w h => List.mem_cons_of_mem _ (uw9 w h)
  subst hsz
  have hD := hD0.self (sz := s.heap.size)
  obtain ⟨A, hAe⟩ : ∃ A, A = va_A (WM ca h ad σ) s.heap.size := ⟨_, rfl⟩
  rw [← hAe] at hD ⊢
  have hA : ∀ q : Nat, s.heap.size ≤ q → A q := fun q h => by rw [hAe]; exact Or.inr h
  have hS : va_S A s.heap s.heap [] := va_S.rf
  have hl := lv_entry ([.ref h, .int a1]) (n := 11) (Nat.le_of_ble_eq_true rfl)
  rw [lg_entry_eq]
  generalize (lg_sl ([.ref h, .int a1]) ++ List.replicate (11 - (lg_sl ([.ref h, .int a1])).length) Slot.unset).toArray = ls at hl ⊢
  have hl : lv_has ls 11 [(0, .ref h), (1, .int a1)] := hl
  obtain ⟨H, hH⟩ : ∃ H, H = s.heap := ⟨_, rfl⟩
  have hP : va_P D vwCl (WM ca h ad σ) H := by rw [hH]; exact hP
  have hS : va_S A s.heap H [] := by rw [hH]; exact hS
  obtain ⟨QQ, hQ⟩ : ∃ Q9, Q9 = MQ below (va_Qi (fun (r : Int32) (_ : Unit) => r = R.1) (fun (_ : Unit) (t : State) => pw_post D ca (WM ca h ad σ) s.heap.size (WM ca h ad (R.2)) t ∧ IR R.2) A) ([.ref h, .int a1] : List Value).toArray s 0 0 A := ⟨_, rfl⟩
  rw [← hQ]
  show W _ _ _ _ _ _ _ _ _ _ s.heap _ _ _ _ _
  rw [← hH]
  have hR : (if (s_X9_isIn a1 (σ 2 0)) = (0 : Int32) then (((s_X9_refuse σ (-1 : Int32)).1), (s_X9_refuse σ (-1 : Int32)).2) else (s_X9_cut_c21 σ a1 (iter (s_X9_cut_l21 σ a1) ((σ 6 0).toNatClampNeg - 0) 0 (0 : Int32)))) = R := hR
  refine lv_iload_n hx hb dX9_cut_0 rfl (lv_at hl 1 rfl) ?_
  refine lv_aload_n hx hb dX9_cut_1 rfl (lv_at hl 0 rfl) ?_
  refine va_get (D := D) (ci := 9) (v := .int (σ 2 0)) (C := RX9) (T := TX9) (N := 51) hx hb hts hu9 hown hK hP 0 wm_0 rfl 2 (by decide) (hts (.fieldLink RX9 127 "GrazeBookModel" "pieces" "I") (List.mem_cons_of_mem _ mw_785)) (fun _ h9 => h9) rfl dX9_cut_2 ?_
  have hF := pw_free (pn_D (A := A)) hS hA
  refine va_calli (va_runS (As := [.int a1, .int (σ 2 0)]) (rest := []) ⟨hx, hb, hml, hown, hts⟩ (k_X9_isIn l D ca a1 (σ 2 0) H.size _ rfl) (va_cwS 2 hts gX9_cut_X9_isIn rfl rfl rfl (by decide +kernel) ⟨Nat.le_of_ble_eq_true rfl, Nat.le_of_ble_eq_true rfl⟩) ⟨pw_blind, pw_give pn_P hK (pn_D (A := A))⟩ rfl rfl hl.1 rfl (lv_room (Nat.le_of_ble_eq_true rfl)) dX9_cut_5 ⟨Nat.le_of_ble_eq_true rfl, Nat.le_of_ble_eq_true rfl⟩) hS (fun q _ h => hF q h) hF (fun r_1 u t H1 locs ht hvm hw hB hz1 hk1 hS => ?_)
  subst hw
  have hP := pn_back hP hk1
  clear hB hk1 hz1 hF
  generalize H1 = H at hP hS ⊢
  refine lv_if_ne (tgt := 17) hx hb dX9_cut_8 (by decide) (fun c_2 => ?_) (fun c_2 => ?_)
  · have hR := (if_neg c_2).symm.trans hR
    refine lv_iconst (v := (0 : Int32)) hx hb dX9_cut_17 (by decide) ?_
    refine lv_istore_n (lv' := [(2, .int (0 : Int32)), (0, .ref h), (1, .int a1)]) hx hb dX9_cut_18 rfl hl (by decide) rfl (fun ls hl => ?_)
    refine lv_iconst (v := (0 : Int32)) hx hb dX9_cut_19 (by decide) ?_
    refine lv_istore_n (lv' := [(3, .int (0 : Int32)), (2, .int (0 : Int32)), (0, .ref h), (1, .int a1)]) hx hb dX9_cut_20 rfl hl (by decide) rfl (fun ls hl => ?_)
    have hE_3 : ∀ (v2_3 : Int32) (H : Heap) (locs : List Loc) (ls : Array Slot), s_X9_cut_c21 σ a1 v2_3 = R → va_P D vwCl (WM ca h ad σ) H → va_D A (WM ca h ad σ) → va_S A s.heap H locs → lv_has ls 11 [(2, .int v2_3), (0, .ref h), (1, .int a1)] → W p l e ((headSpec wsX9_cut ({ frames := 3, cells := 0, slots := 0, locals := 66 })).room) s m ([.ref h, .int a1] : List Value).toArray below meth c H locs 0 0 QQ (F0 m 63 ls []) := by
      intro v2_3 H locs ls hR hP hD hS hl
      have hR : (if (s_X9_rests σ a1) = (0 : Int32) then (if v2_3 = (0 : Int32) then (s_X9_cut_c125 σ a1 (iter (s_X9_cut_l125 σ a1) ((σ 5 0).toNatClampNeg - 0) 0 (0 : Int64))) else (((s_X9_refuse σ (-3 : Int32)).1), (s_X9_refuse σ (-3 : Int32)).2)) else (((s_X9_refuse σ (-3 : Int32)).1), (s_X9_refuse σ (-3 : Int32)).2)) = R := hR
      refine lv_aload_n hx hb dX9_cut_63 rfl (lv_at hl 1 rfl) ?_
      refine lv_iload_n hx hb dX9_cut_64 rfl (lv_at hl 2 rfl) ?_
      have hF := pw_free hD hS hA
      refine va_calli (va_runV (As := [.int a1]) (rest := []) ⟨hx, hb, hml, hown, hts⟩ (k_X9_rests l D ca h ad σ a1 H.size hI (ix_isIn c_2 (ir_2 hI)) _ rfl) (cwV 1 hts gX9_cut_X9_rests rfl rfl rfl (by decide +kernel) ⟨Nat.le_of_ble_eq_true rfl, Nat.le_of_ble_eq_true rfl⟩) ⟨pw_blind, va_recv hK hP (ci := 9) (q0 := 0) rfl wm_0, pw_give hP hK hD⟩ rfl rfl hl.1 rfl (lv_room (Nat.le_of_ble_eq_true rfl)) dX9_cut_65 ⟨Nat.le_of_ble_eq_true rfl, Nat.le_of_ble_eq_true rfl⟩) hS (fun q _ h => hF q h) hF (fun r_4 u t H1 locs ht hvm hw hB hz1 hk1 hS => ?_)
      subst hw
      obtain ⟨hP, hD⟩ := pw_back hF ht hB
      clear hB hk1 hz1 hF
      generalize H1 = H at hP hS ⊢
      refine lv_if_ne (tgt := 75) hx hb dX9_cut_68 (by decide) (fun c_5 => ?_) (fun c_5 => ?_)
      · have hR := (if_neg c_5).symm.trans hR
        refine lv_aload_n hx hb dX9_cut_75 rfl (lv_at hl 1 rfl) ?_
        refine lv_bipush (v := (-3 : Int32)) hx hb dX9_cut_76 (by decide) ?_
        have hF := pw_free hD hS hA
        refine va_calli (va_runV (As := [.int (-3 : Int32)]) (rest := []) ⟨hx, hb, hml, hown, hts⟩ (k_X9_refuse l D ca h ad σ (-3 : Int32) H.size hI (by unfold vp_in; decide) _ rfl) (cwV 1 hts gX9_cut_X9_refuse rfl rfl rfl (by decide +kernel) ⟨Nat.le_of_ble_eq_true rfl, Nat.le_of_ble_eq_true rfl⟩) ⟨pw_blind, va_recv hK hP (ci := 9) (q0 := 0) rfl wm_0, pw_give hP hK hD⟩ rfl rfl hl.1 rfl (lv_room (Nat.le_of_ble_eq_true rfl)) dX9_cut_78 ⟨Nat.le_of_ble_eq_true rfl, Nat.le_of_ble_eq_true rfl⟩) hS (fun q _ h => hF q h) hF (fun r_6 u t H1 locs ht hvm hw hB hz1 hk1 hS => ?_)
        subst hw
        obtain ⟨hB, hI_7⟩ := hB
        obtain ⟨hP, hD⟩ := pw_back hF ht hB
        clear hB hk1 hz1 hF
        generalize H1 = H at hP hS ⊢
        have hI9 : IR ((s_X9_refuse σ (-3 : Int32)).2) := hI_7
        subst hR
        rw [hQ]
        exact W.iret (v := ((s_X9_refuse σ (-3 : Int32)).1)) hx hb hr (fun t ht hW => ⟨⟨((s_X9_refuse σ (-3 : Int32)).1), (), rfl, rfl, ⟨by rw [ht]; exact hP, va_K.moved hW.alike hK, by rw [← hAe]; exact hD⟩, hI9⟩, hS.F ht⟩) hS.2.2 dX9_cut_81
      · have hR := (if_pos c_5).symm.trans hR
        refine lv_iload_n hx hb dX9_cut_71 rfl (lv_at hl 0 rfl) ?_
        refine lv_if_eq (tgt := 82) hx hb dX9_cut_72 (by decide) (fun c_8 => ?_) (fun c_8 => ?_)
        · have hR := (if_pos c_8).symm.trans hR
          refine lv_iconst (v := (0 : Int32)) hx hb dX9_cut_82 (by decide) ?_
          refine lv_aload_n hx hb dX9_cut_83 rfl (lv_at hl 1 rfl) ?_
          refine va_get (D := D) (ci := 9) (v := .ref (ad 13)) (C := RX9) (T := TX9) (N := 51) hx hb hts hu9 hown hK hP 0 wm_0 rfl 13 (by decide) (hts (.fieldLink RX9 13 "GrazeBookModel" "grass" "[I") (List.mem_cons_of_mem _ mw_796)) (fun _ h9 => h9) rfl dX9_cut_84 ?_
          refine lv_iload_n hx hb dX9_cut_87 rfl (lv_at hl 2 rfl) ?_
          refine va_iald_k (k := (a1.toNatClampNeg)) (v := (σ 13 (a1.toNatClampNeg))) hx hb hK hP 2 0 wm_a13 rfl rfl rfl (ix_isIn c_2 (ir_2 hI)) dX9_cut_88 ?_
          refine lv_bipush (v := (100 : Int32)) hx hb dX9_cut_89 (by decide) ?_
          refine lv_isub hx hb dX9_cut_91 ?_
          refine va_mmax hx hb (hml.trans hl.1.symm) hown (hts (.methodLink RX9 179 Lib.Math.max.name) (List.mem_cons_of_mem _ mw_1026)) (hts (.static Lib.Math.max.name) (List.mem_cons_of_mem _ mw_520)) (hts (.initialized "java/lang/Math") (List.mem_cons_of_mem _ mw_68)) (hts (.code Lib.Math.max.name Lib.Math.max.code 2 (some .int)) (List.mem_cons_of_mem _ mw_521)) (Nat.le_of_ble_eq_true rfl) (Nat.le_of_ble_eq_true rfl) (Nat.le_of_ble_eq_true rfl) (Nat.le_of_ble_eq_true rfl) dX9_cut_92 ?_
          refine lv_istore_n (lv' := [(3, .int (if (0 : Int32) < ((σ 13 (a1.toNatClampNeg)) - (100 : Int32)) then ((σ 13 (a1.toNatClampNeg)) - (100 : Int32)) else (0 : Int32))), (2, .int v2_3), (0, .ref h), (1, .int a1)]) hx hb dX9_cut_95 rfl hl (by decide) rfl (fun ls hl => ?_)
          refine lv_aload_n hx hb dX9_cut_96 rfl (lv_at hl 2 rfl) ?_
          refine va_get (D := D) (ci := 9) (v := .ref (ad 13)) (C := RX9) (T := TX9) (N := 51) hx hb hts hu9 hown hK hP 0 wm_0 rfl 13 (by decide) (hts (.fieldLink RX9 13 "GrazeBookModel" "grass" "[I") (List.mem_cons_of_mem _ mw_796)) (fun _ h9 => h9) rfl dX9_cut_97 ?_
          refine lv_iload_n hx hb dX9_cut_100 rfl (lv_at hl 3 rfl) ?_
          refine lv_dup2_11 hx hb dX9_cut_101 rfl rfl ?_
          refine va_iald_k (k := (a1.toNatClampNeg)) (v := (σ 13 (a1.toNatClampNeg))) hx hb hK hP 2 0 wm_a13 rfl rfl rfl (ix_isIn c_2 (ir_2 hI)) dX9_cut_102 ?_
          refine lv_iload_n hx hb dX9_cut_103 rfl (lv_at hl 0 rfl) ?_
          refine lv_isub hx hb dX9_cut_104 ?_
          refine va_iast_k (k := (a1.toNatClampNeg)) hx hb hK hP hD hS 2 0 wm_a13 rfl rfl (ix_isIn c_2 (ir_2 hI)) dX9_cut_105 (fun H locs hP hD hS => ?_)
          rw [wm_s13] at hP hD
          refine lv_aload_n hx hb dX9_cut_106 rfl (lv_at hl 2 rfl) ?_
          refine va_get (D := D) (ci := 9) (v := .ref (ad 16)) (C := RX9) (T := TX9) (N := 51) hx hb hts hu9 hown hK hP 0 wm_0 rfl 16 (by decide) (hts (.fieldLink RX9 22 "GrazeBookModel" "rest" "[I") (List.mem_cons_of_mem _ mw_799)) (fun _ h9 => h9) rfl dX9_cut_107 ?_
          refine lv_iload_n hx hb dX9_cut_110 rfl (lv_at hl 3 rfl) ?_
          refine lv_aload_n hx hb dX9_cut_111 rfl (lv_at hl 2 rfl) ?_
          refine va_get (D := D) (ci := 9) (v := .int (σ 1 0)) (C := RX9) (T := TX9) (N := 51) hx hb hts hu9 hown hK hP 0 wm_0 rfl 1 (by decide) (hts (.fieldLink RX9 141 "GrazeBookModel" "day" "I") (List.mem_cons_of_mem _ mw_784)) (fun _ h9 => h9) rfl dX9_cut_112 ?_
          refine lv_bipush (v := (20 : Int32)) hx hb dX9_cut_115 (by decide) ?_
          refine lv_iadd hx hb dX9_cut_117 ?_
          refine va_iast_k (k := (a1.toNatClampNeg)) hx hb hK hP hD hS 5 0 wm_a16 rfl rfl (ix_isIn c_2 (ir_2 hI)) dX9_cut_118 (fun H locs hP hD hS => ?_)
          rw [wm_s16] at hP hD
          refine lv_lconst (v := 0) hx hb dX9_cut_119 (by decide) ?_
          refine lv_lstore (lv' := [(4, .long (0 : Int64)), (3, .int (if (0 : Int32) < ((σ 13 (a1.toNatClampNeg)) - (100 : Int32)) then ((σ 13 (a1.toNatClampNeg)) - (100 : Int32)) else (0 : Int32))), (2, .int v2_3), (0, .ref h), (1, .int a1)]) hx hb dX9_cut_120 hl (by decide) rfl (fun ls hl => ?_)
          refine lv_iconst (v := (0 : Int32)) hx hb dX9_cut_122 (by decide) ?_
          refine lv_istore (lv' := [(6, .int (0 : Int32)), (4, .long (0 : Int64)), (3, .int (if (0 : Int32) < ((σ 13 (a1.toNatClampNeg)) - (100 : Int32)) then ((σ 13 (a1.toNatClampNeg)) - (100 : Int32)) else (0 : Int32))), (2, .int v2_3), (0, .ref h), (1, .int a1)]) hx hb dX9_cut_123 hl (by decide) rfl (fun ls hl => ?_)
          have hE_9 : ∀ (v4_9 : Int64) (H : Heap) (locs : List Loc) (ls : Array Slot), s_X9_cut_c125 σ a1 v4_9 = R → va_P D vwCl (WM ca h ad (put (put σ 13 (a1.toNatClampNeg) ((σ 13 (a1.toNatClampNeg)) - (if (0 : Int32) < ((σ 13 (a1.toNatClampNeg)) - (100 : Int32)) then ((σ 13 (a1.toNatClampNeg)) - (100 : Int32)) else (0 : Int32)))) 16 (a1.toNatClampNeg) ((σ 1 0) + (20 : Int32)))) H → va_D A (WM ca h ad (put (put σ 13 (a1.toNatClampNeg) ((σ 13 (a1.toNatClampNeg)) - (if (0 : Int32) < ((σ 13 (a1.toNatClampNeg)) - (100 : Int32)) then ((σ 13 (a1.toNatClampNeg)) - (100 : Int32)) else (0 : Int32)))) 16 (a1.toNatClampNeg) ((σ 1 0) + (20 : Int32)))) → va_S A s.heap H locs → lv_has ls 11 [(4, .long v4_9), (3, .int (if (0 : Int32) < ((σ 13 (a1.toNatClampNeg)) - (100 : Int32)) then ((σ 13 (a1.toNatClampNeg)) - (100 : Int32)) else (0 : Int32))), (0, .ref h), (1, .int a1)] → W p l e ((headSpec wsX9_cut ({ frames := 3, cells := 0, slots := 0, locals := 66 })).room) s m ([.ref h, .int a1] : List Value).toArray below meth c H locs 0 0 QQ (F0 m 153 ls []) := by
            intro v4_9 H locs ls hR hP hD hS hl
            have hR : (s_X9_cut_c159 σ a1 (iterC (s_X9_cut_l159 σ a1 v4_9) ((σ 3 0).toNatClampNeg - 0) 0 ((if (0 : Int32) < ((σ 13 (a1.toNatClampNeg)) - (100 : Int32)) then ((σ 13 (a1.toNatClampNeg)) - (100 : Int32)) else (0 : Int32)), (put (put σ 13 (a1.toNatClampNeg) ((σ 13 (a1.toNatClampNeg)) - (if (0 : Int32) < ((σ 13 (a1.toNatClampNeg)) - (100 : Int32)) then ((σ 13 (a1.toNatClampNeg)) - (100 : Int32)) else (0 : Int32)))) 16 (a1.toNatClampNeg) ((σ 1 0) + (20 : Int32)))))) = R := hR
            refine lv_iload_n hx hb dX9_cut_153 rfl (lv_at hl 1 rfl) ?_
            refine lv_istore (lv' := [(6, .int (if (0 : Int32) < ((σ 13 (a1.toNatClampNeg)) - (100 : Int32)) then ((σ 13 (a1.toNatClampNeg)) - (100 : Int32)) else (0 : Int32))), (4, .long v4_9), (3, .int (if (0 : Int32) < ((σ 13 (a1.toNatClampNeg)) - (100 : Int32)) then ((σ 13 (a1.toNatClampNeg)) - (100 : Int32)) else (0 : Int32))), (0, .ref h), (1, .int a1)]) hx hb dX9_cut_154 hl (by decide) rfl (fun ls hl => ?_)
            refine lv_iconst (v := (0 : Int32)) hx hb dX9_cut_156 (by decide) ?_
            refine lv_istore (lv' := [(7, .int (0 : Int32)), (6, .int (if (0 : Int32) < ((σ 13 (a1.toNatClampNeg)) - (100 : Int32)) then ((σ 13 (a1.toNatClampNeg)) - (100 : Int32)) else (0 : Int32))), (4, .long v4_9), (3, .int (if (0 : Int32) < ((σ 13 (a1.toNatClampNeg)) - (100 : Int32)) then ((σ 13 (a1.toNatClampNeg)) - (100 : Int32)) else (0 : Int32))), (0, .ref h), (1, .int a1)]) hx hb dX9_cut_157 hl (by decide) rfl (fun ls hl => ?_)
            have hE_10 : ∀ (v6_10 : Int32) (τ_10 : St) (hI_10 : IR τ_10) (H : Heap) (locs : List Loc) (ls : Array Slot), s_X9_cut_c159 σ a1 (v6_10, τ_10) = R → va_P D vwCl (WM ca h ad τ_10) H → va_D A (WM ca h ad τ_10) → va_S A s.heap H locs → lv_has ls 11 [(6, .int v6_10), (3, .int (if (0 : Int32) < ((σ 13 (a1.toNatClampNeg)) - (100 : Int32)) then ((σ 13 (a1.toNatClampNeg)) - (100 : Int32)) else (0 : Int32))), (0, .ref h)] → W p l e ((headSpec wsX9_cut ({ frames := 3, cells := 0, slots := 0, locals := 66 })).room) s m ([.ref h, .int a1] : List Value).toArray below meth c H locs 0 0 QQ (F0 m 260 ls []) := by
              intro v6_10 τ_10 hI_10 H locs ls hR hP hD hS hl
              have hR : ((if (0 : Int32) < ((σ 13 (a1.toNatClampNeg)) - (100 : Int32)) then ((σ 13 (a1.toNatClampNeg)) - (100 : Int32)) else (0 : Int32)), (put τ_10 9 0 ((τ_10 9 0) + v6_10))) = R := hR
              refine lv_aload_n hx hb dX9_cut_260 rfl (lv_at hl 2 rfl) ?_
              refine lv_dup hx hb dX9_cut_261 rfl ?_
              refine va_get (D := D) (ci := 9) (v := .int (τ_10 9 0)) (C := RX9) (T := TX9) (N := 51) hx hb hts hu9 hown hK hP 0 wm_0 rfl 9 (by decide) (hts (.fieldLink RX9 236 "GrazeBookModel" "reeveHay" "I") (List.mem_cons_of_mem _ mw_792)) (fun _ h9 => h9) rfl dX9_cut_262 ?_
              refine lv_iload hx hb dX9_cut_265 (lv_at hl 0 rfl) ?_
              refine lv_iadd hx hb dX9_cut_267 ?_
              refine va_put (D := D) (ci := 9) (v := .int ((τ_10 9 0) + v6_10)) (ty := .int) (C := RX9) (T := TX9) (N := 51) hx hb hts hu9 tyX9 tyX9_ok nmX9 hown hK hP hD hS 0 wm_0 rfl 9 (by decide) (hts (.fieldLink RX9 236 "GrazeBookModel" "reeveHay" "I") (List.mem_cons_of_mem _ mw_792)) (fun _ h9 => h9) rfl (by decide +kernel) rfl rfl (Nat.le_of_ble_eq_true rfl) dX9_cut_268 (fun H locs hP hD hS => ?_)
              rw [wm_p9] at hP hD
              refine lv_iload_n hx hb dX9_cut_271 rfl (lv_at hl 1 rfl) ?_
              have hI9 : IR (put τ_10 9 0 ((τ_10 9 0) + v6_10)) := hI_10
              subst hR
              rw [hQ]
              exact W.iret (v := (if (0 : Int32) < ((σ 13 (a1.toNatClampNeg)) - (100 : Int32)) then ((σ 13 (a1.toNatClampNeg)) - (100 : Int32)) else (0 : Int32))) hx hb hr (fun t ht hW => ⟨⟨(if (0 : Int32) < ((σ 13 (a1.toNatClampNeg)) - (100 : Int32)) then ((σ 13 (a1.toNatClampNeg)) - (100 : Int32)) else (0 : Int32)), (), rfl, rfl, ⟨by rw [ht]; exact hP, va_K.moved hW.alike hK, by rw [← hAe]; exact hD⟩, hI9⟩, hS.F ht⟩) hS.2.2 dX9_cut_272
            have hL_10 : ∀ (n k_10 : Nat) (v6_10 : Int32) (τ_10 : St) (hk_10 : lpk (τ_10 3 0) k_10 n) (hI_10 : IR τ_10) (H : Heap) (locs : List Loc) (ls : Array Slot), s_X9_cut_c159 σ a1 (iterC (s_X9_cut_l159 σ a1 v4_9) n k_10 (v6_10, τ_10)) = R → va_P D vwCl (WM ca h ad τ_10) H → va_D A (WM ca h ad τ_10) → va_S A s.heap H locs → lv_has ls 11 [(7, .int (nI k_10)), (6, .int v6_10), (4, .long v4_9), (3, .int (if (0 : Int32) < ((σ 13 (a1.toNatClampNeg)) - (100 : Int32)) then ((σ 13 (a1.toNatClampNeg)) - (100 : Int32)) else (0 : Int32))), (0, .ref h), (1, .int a1)] → W p l e ((headSpec wsX9_cut ({ frames := 3, cells := 0, slots := 0, locals := 66 })).room) s m ([.ref h, .int a1] : List Value).toArray below meth c H locs 0 0 QQ (F0 m 159 ls []) := by
              intro n
              induction n with
              | zero =>
                intro k_10 v6_10 τ_10 hk_10 hI_10 H locs ls hR hP hD hS hl
                refine lv_iload hx hb dX9_cut_159 (lv_at hl 0 rfl) ?_
                refine lv_aload_n hx hb dX9_cut_161 rfl (lv_at hl 4 rfl) ?_
                refine va_get (D := D) (ci := 9) (v := .int (τ_10 3 0)) (C := RX9) (T := TX9) (N := 51) hx hb hts hu9 hown hK hP 0 wm_0 rfl 3 (by decide) (hts (.fieldLink RX9 131 "GrazeBookModel" "owners" "I") (List.mem_cons_of_mem _ mw_786)) (fun _ h9 => h9) rfl dX9_cut_162 ?_
                refine lv_icmp_ge (tgt := 260) hx hb dX9_cut_165 (by decide) (fun _ => ?_) (fun c_11 => absurd (ge_end hk_10) c_11)
                exact hE_10 v6_10 τ_10 hI_10 _ _ _ hR hP hD hS (lv_sub hl [1, 3, 4] rfl)
              | succ n ih =>
                intro k_10 v6_10 τ_10 hk_10 hI_10 H locs ls hR hP hD hS hl
                obtain ⟨S_10, hB_10⟩ : ∃ s9, s_X9_cut_l159 σ a1 v4_9 k_10 (v6_10, τ_10) = s9 := ⟨_, rfl⟩
                have hR : s_X9_cut_c159 σ a1 (iterC1 (s_X9_cut_l159 σ a1 v4_9) n k_10 (v6_10, τ_10) S_10) = R := by rw [← hB_10]; exact hR
                have hB_10 : (if (lg_cmp v4_9 (0 : Int64)) ≤ (0 : Int32) then none else (s_X9_cut_c181 σ a1 v4_9 k_10 v6_10 τ_10 (iter (s_X9_cut_l181 a1 k_10 τ_10) ((τ_10 5 0).toNatClampNeg - 0) 0 (0 : Int64)))) = S_10 := hB_10
                refine lv_iload hx hb dX9_cut_159 (lv_at hl 0 rfl) ?_
                refine lv_aload_n hx hb dX9_cut_161 rfl (lv_at hl 4 rfl) ?_
                refine va_get (D := D) (ci := 9) (v := .int (τ_10 3 0)) (C := RX9) (T := TX9) (N := 51) hx hb hts hu9 hown hK hP 0 wm_0 rfl 3 (by decide) (hts (.fieldLink RX9 131 "GrazeBookModel" "owners" "I") (List.mem_cons_of_mem _ mw_786)) (fun _ h9 => h9) rfl dX9_cut_162 ?_
                refine lv_icmp_ge (tgt := 260) hx hb dX9_cut_165 (by decide) (fun c_12 => absurd c_12 (ge_go hk_10)) (fun _ => ?_)
                refine lv_lload hx hb dX9_cut_168 (lv_at hl 2 rfl) ?_
                refine lv_lconst (v := 0) hx hb dX9_cut_170 (by decide) ?_
                refine W.lcmp hx hb dX9_cut_171 ?_
                refine lv_if_le (tgt := 260) hx hb dX9_cut_172 (by decide) (fun c_13 => ?_) (fun c_13 => ?_)
                · have hB_10 := (if_pos c_13).symm.trans hB_10
                  subst hB_10
                  exact hE_10 v6_10 τ_10 hI_10 _ _ _ hR hP hD hS (lv_sub hl [1, 3, 4] rfl)
                · have hB_10 := (if_neg c_13).symm.trans hB_10
                  refine lv_lconst (v := 0) hx hb dX9_cut_175 (by decide) ?_
                  refine lv_lstore (lv' := [(8, .long (0 : Int64)), (7, .int (nI k_10)), (6, .int v6_10), (4, .long v4_9), (3, .int (if (0 : Int32) < ((σ 13 (a1.toNatClampNeg)) - (100 : Int32)) then ((σ 13 (a1.toNatClampNeg)) - (100 : Int32)) else (0 : Int32))), (0, .ref h), (1, .int a1)]) hx hb dX9_cut_176 hl (by decide) rfl (fun ls hl => ?_)
                  refine lv_iconst (v := (0 : Int32)) hx hb dX9_cut_178 (by decide) ?_
                  refine lv_istore (lv' := [(10, .int (0 : Int32)), (8, .long (0 : Int64)), (7, .int (nI k_10)), (6, .int v6_10), (4, .long v4_9), (3, .int (if (0 : Int32) < ((σ 13 (a1.toNatClampNeg)) - (100 : Int32)) then ((σ 13 (a1.toNatClampNeg)) - (100 : Int32)) else (0 : Int32))), (0, .ref h), (1, .int a1)]) hx hb dX9_cut_179 hl (by decide) rfl (fun ls hl => ?_)
                  have hE_14 : ∀ (v8_14 : Int64) (H : Heap) (locs : List Loc) (ls : Array Slot), s_X9_cut_c181 σ a1 v4_9 k_10 v6_10 τ_10 v8_14 = S_10 → va_P D vwCl (WM ca h ad τ_10) H → va_D A (WM ca h ad τ_10) → va_S A s.heap H locs → lv_has ls 11 [(8, .long v8_14), (7, .int (nI k_10)), (6, .int v6_10), (4, .long v4_9), (3, .int (if (0 : Int32) < ((σ 13 (a1.toNatClampNeg)) - (100 : Int32)) then ((σ 13 (a1.toNatClampNeg)) - (100 : Int32)) else (0 : Int32))), (0, .ref h), (1, .int a1)] → W p l e ((headSpec wsX9_cut ({ frames := 3, cells := 0, slots := 0, locals := 66 })).room) s m ([.ref h, .int a1] : List Value).toArray below meth c H locs 0 0 QQ (F0 m 224 ls []) := by
                    intro v8_14 H locs ls hB_10 hP hD hS hl
                    have hB_10 : (some ((v6_10 - (((((if (0 : Int32) < ((σ 13 (a1.toNatClampNeg)) - (100 : Int32)) then ((σ 13 (a1.toNatClampNeg)) - (100 : Int32)) else (0 : Int32)).toInt64) * v8_14) / v4_9).toInt32)), (put τ_10 20 k_10 ((τ_10 20 k_10) + (((((if (0 : Int32) < ((σ 13 (a1.toNatClampNeg)) - (100 : Int32)) then ((σ 13 (a1.toNatClampNeg)) - (100 : Int32)) else (0 : Int32)).toInt64) * v8_14) / v4_9).toInt32))))) = S_10 := hB_10
                    refine lv_iload_n hx hb dX9_cut_224 rfl (lv_at hl 4 rfl) ?_
                    refine lv_i2l (v := ((if (0 : Int32) < ((σ 13 (a1.toNatClampNeg)) - (100 : Int32)) then ((σ 13 (a1.toNatClampNeg)) - (100 : Int32)) else (0 : Int32)).toInt64)) hx hb dX9_cut_225 rfl ?_
                    refine lv_lload hx hb dX9_cut_226 (lv_at hl 0 rfl) ?_
                    refine lv_lmul hx hb dX9_cut_228 ?_
                    refine lv_lload hx hb dX9_cut_229 (lv_at hl 3 rfl) ?_
                    refine lv_ldiv hx hb dX9_cut_231 (lg_pos c_13) ?_
                    refine lv_l2i (v := (((((if (0 : Int32) < ((σ 13 (a1.toNatClampNeg)) - (100 : Int32)) then ((σ 13 (a1.toNatClampNeg)) - (100 : Int32)) else (0 : Int32)).toInt64) * v8_14) / v4_9).toInt32)) hx hb dX9_cut_232 rfl ?_
                    refine lv_istore (lv' := [(10, .int (((((if (0 : Int32) < ((σ 13 (a1.toNatClampNeg)) - (100 : Int32)) then ((σ 13 (a1.toNatClampNeg)) - (100 : Int32)) else (0 : Int32)).toInt64) * v8_14) / v4_9).toInt32)), (8, .long v8_14), (7, .int (nI k_10)), (6, .int v6_10), (4, .long v4_9), (3, .int (if (0 : Int32) < ((σ 13 (a1.toNatClampNeg)) - (100 : Int32)) then ((σ 13 (a1.toNatClampNeg)) - (100 : Int32)) else (0 : Int32))), (0, .ref h), (1, .int a1)]) hx hb dX9_cut_233 hl (by decide) rfl (fun ls hl => ?_)
                    refine lv_aload_n hx hb dX9_cut_235 rfl (lv_at hl 6 rfl) ?_
                    refine va_get (D := D) (ci := 9) (v := .ref (ad 20)) (C := RX9) (T := TX9) (N := 51) hx hb hts hu9 hown hK hP 0 wm_0 rfl 20 (by decide) (hts (.fieldLink RX9 35 "GrazeBookModel" "hay" "[I") (List.mem_cons_of_mem _ mw_803)) (fun _ h9 => h9) rfl dX9_cut_236 ?_
                    refine lv_iload hx hb dX9_cut_239 (lv_at hl 2 rfl) ?_
                    refine lv_dup2_11 hx hb dX9_cut_241 rfl rfl ?_
                    refine va_iald_k (k := k_10) (v := (τ_10 20 k_10)) hx hb hK hP 9 0 wm_a20 rfl (ix_cl hk_10) rfl (ix_loop (N := 10) hk_10 (ir_3 hI_10) (by decide) (by decide)) dX9_cut_242 ?_
                    refine lv_iload hx hb dX9_cut_243 (lv_at hl 0 rfl) ?_
                    refine lv_iadd hx hb dX9_cut_245 ?_
                    refine va_iast_k (k := k_10) hx hb hK hP hD hS 9 0 wm_a20 rfl (ix_cl hk_10) (ix_loop (N := 10) hk_10 (ir_3 hI_10) (by decide) (by decide)) dX9_cut_246 (fun H locs hP hD hS => ?_)
                    rw [wm_s20] at hP hD
                    refine lv_iload hx hb dX9_cut_247 (lv_at hl 3 rfl) ?_
                    refine lv_iload hx hb dX9_cut_249 (lv_at hl 0 rfl) ?_
                    refine lv_isub hx hb dX9_cut_251 ?_
                    refine lv_istore (lv' := [(6, .int (v6_10 - (((((if (0 : Int32) < ((σ 13 (a1.toNatClampNeg)) - (100 : Int32)) then ((σ 13 (a1.toNatClampNeg)) - (100 : Int32)) else (0 : Int32)).toInt64) * v8_14) / v4_9).toInt32))), (10, .int (((((if (0 : Int32) < ((σ 13 (a1.toNatClampNeg)) - (100 : Int32)) then ((σ 13 (a1.toNatClampNeg)) - (100 : Int32)) else (0 : Int32)).toInt64) * v8_14) / v4_9).toInt32)), (8, .long v8_14), (7, .int (nI k_10)), (4, .long v4_9), (3, .int (if (0 : Int32) < ((σ 13 (a1.toNatClampNeg)) - (100 : Int32)) then ((σ 13 (a1.toNatClampNeg)) - (100 : Int32)) else (0 : Int32))), (0, .ref h), (1, .int a1)]) hx hb dX9_cut_252 hl (by decide) rfl (fun ls hl => ?_)
                    refine lv_iinc (v := (nI (k_10 + 1))) (lv' := [(7, .int (nI (k_10 + 1))), (6, .int (v6_10 - (((((if (0 : Int32) < ((σ 13 (a1.toNatClampNeg)) - (100 : Int32)) then ((σ 13 (a1.toNatClampNeg)) - (100 : Int32)) else (0 : Int32)).toInt64) * v8_14) / v4_9).toInt32))), (10, .int (((((if (0 : Int32) < ((σ 13 (a1.toNatClampNeg)) - (100 : Int32)) then ((σ 13 (a1.toNatClampNeg)) - (100 : Int32)) else (0 : Int32)).toInt64) * v8_14) / v4_9).toInt32)), (8, .long v8_14), (4, .long v4_9), (3, .int (if (0 : Int32) < ((σ 13 (a1.toNatClampNeg)) - (100 : Int32)) then ((σ 13 (a1.toNatClampNeg)) - (100 : Int32)) else (0 : Int32))), (0, .ref h), (1, .int a1)]) hx hb dX9_cut_254 hl (k := 3) rfl (by rw [show Int32.ofInt 1 = 1 from by decide]; exact nI_1 _) (by decide) rfl (fun ls hl => ?_)
                    refine lv_goto (tgt := 159) hx hb dX9_cut_257 (by decide) ?_
                    subst hB_10
                    exact ih (k_10 + 1) (v6_10 - (((((if (0 : Int32) < ((σ 13 (a1.toNatClampNeg)) - (100 : Int32)) then ((σ 13 (a1.toNatClampNeg)) - (100 : Int32)) else (0 : Int32)).toInt64) * v8_14) / v4_9).toInt32)) (put τ_10 20 k_10 ((τ_10 20 k_10) + (((((if (0 : Int32) < ((σ 13 (a1.toNatClampNeg)) - (100 : Int32)) then ((σ 13 (a1.toNatClampNeg)) - (100 : Int32)) else (0 : Int32)).toInt64) * v8_14) / v4_9).toInt32))) (ge_next hk_10) hI_10 _ _ _ hR hP hD hS (lv_sub hl [0, 1, 4, 5, 6, 7] rfl)
                  have hL_14 : ∀ (n k_14 : Nat) (v8_14 : Int64) (hk_14 : lpk (τ_10 5 0) k_14 n) (H : Heap) (locs : List Loc) (ls : Array Slot), s_X9_cut_c181 σ a1 v4_9 k_10 v6_10 τ_10 (iter (s_X9_cut_l181 a1 k_10 τ_10) n k_14 v8_14) = S_10 → va_P D vwCl (WM ca h ad τ_10) H → va_D A (WM ca h ad τ_10) → va_S A s.heap H locs → lv_has ls 11 [(10, .int (nI k_14)), (8, .long v8_14), (7, .int (nI k_10)), (6, .int v6_10), (4, .long v4_9), (3, .int (if (0 : Int32) < ((σ 13 (a1.toNatClampNeg)) - (100 : Int32)) then ((σ 13 (a1.toNatClampNeg)) - (100 : Int32)) else (0 : Int32))), (0, .ref h), (1, .int a1)] → W p l e ((headSpec wsX9_cut ({ frames := 3, cells := 0, slots := 0, locals := 66 })).room) s m ([.ref h, .int a1] : List Value).toArray below meth c H locs 0 0 QQ (F0 m 181 ls []) := by
                    intro n
                    induction n with
                    | zero =>
                      intro k_14 v8_14 hk_14 H locs ls hB_10 hP hD hS hl
                      refine lv_iload hx hb dX9_cut_181 (lv_at hl 0 rfl) ?_
                      refine lv_aload_n hx hb dX9_cut_183 rfl (lv_at hl 6 rfl) ?_
                      refine va_get (D := D) (ci := 9) (v := .int (τ_10 5 0)) (C := RX9) (T := TX9) (N := 51) hx hb hts hu9 hown hK hP 0 wm_0 rfl 5 (by decide) (hts (.fieldLink RX9 148 "GrazeBookModel" "rights" "I") (List.mem_cons_of_mem _ mw_788)) (fun _ h9 => h9) rfl dX9_cut_184 ?_
                      refine lv_icmp_ge (tgt := 224) hx hb dX9_cut_187 (by decide) (fun _ => ?_) (fun c_15 => absurd (ge_end hk_14) c_15)
                      exact hE_14 v8_14 _ _ _ hB_10 hP hD hS (lv_sub hl [1, 2, 3, 4, 5, 6, 7] rfl)
                    | succ n ih =>
                      intro k_14 v8_14 hk_14 H locs ls hB_10 hP hD hS hl
                      obtain ⟨S_14, hB_14⟩ : ∃ s9, s_X9_cut_l181 a1 k_10 τ_10 k_14 v8_14 = s9 := ⟨_, rfl⟩
                      have hB_10 : s_X9_cut_c181 σ a1 v4_9 k_10 v6_10 τ_10 (iter (s_X9_cut_l181 a1 k_10 τ_10) n (k_14 + 1) S_14) = S_10 := by rw [← hB_14]; exact hB_10
                      have hB_14 : (if (s_X9_ownerOfRight τ_10 (nI k_14)) = (nI k_10) then (v8_14 + ((s_X9_counts τ_10 (nI k_14) a1).toInt64)) else (v8_14 + (0 : Int64))) = S_14 := hB_14
                      refine lv_iload hx hb dX9_cut_181 (lv_at hl 0 rfl) ?_
                      refine lv_aload_n hx hb dX9_cut_183 rfl (lv_at hl 6 rfl) ?_
                      refine va_get (D := D) (ci := 9) (v := .int (τ_10 5 0)) (C := RX9) (T := TX9) (N := 51) hx hb hts hu9 hown hK hP 0 wm_0 rfl 5 (by decide) (hts (.fieldLink RX9 148 "GrazeBookModel" "rights" "I") (List.mem_cons_of_mem _ mw_788)) (fun _ h9 => h9) rfl dX9_cut_184 ?_
                      refine lv_icmp_ge (tgt := 224) hx hb dX9_cut_187 (by decide) (fun c_16 => absurd c_16 (ge_go hk_14)) (fun _ => ?_)
                      refine lv_lload hx hb dX9_cut_190 (lv_at hl 1 rfl) ?_
                      refine lv_aload_n hx hb dX9_cut_192 rfl (lv_at hl 6 rfl) ?_
                      refine lv_iload hx hb dX9_cut_193 (lv_at hl 0 rfl) ?_
                      have hF := pw_free hD hS hA
                      refine va_calli (va_runV (As := [.int (nI k_14)]) (rest := [.long v8_14]) ⟨hx, hb, hml, hown, hts⟩ (k_X9_ownerOfRight l D ca h ad τ_10 (nI k_14) H.size hI_10 (ix_loop (N := 60) hk_14 (ir_5 hI_10) (by decide) (by decide)) _ rfl) (cwV 1 hts gX9_cut_X9_ownerOfRight rfl rfl rfl (by decide +kernel) ⟨Nat.le_of_ble_eq_true rfl, Nat.le_of_ble_eq_true rfl⟩) ⟨pw_blind, va_recv hK hP (ci := 9) (q0 := 0) rfl wm_0, pw_give hP hK hD⟩ rfl rfl hl.1 rfl (lv_room (Nat.le_of_ble_eq_true rfl)) dX9_cut_195 ⟨Nat.le_of_ble_eq_true rfl, Nat.le_of_ble_eq_true rfl⟩) hS (fun q _ h => hF q h) hF (fun r_17 u t H1 locs ht hvm hw hB hz1 hk1 hS => ?_)
                      subst hw
                      obtain ⟨hP, hD⟩ := pw_back hF ht hB
                      clear hB hk1 hz1 hF
                      generalize H1 = H at hP hS ⊢
                      refine lv_iload hx hb dX9_cut_198 (lv_at hl 2 rfl) ?_
                      refine lv_icmp_ne (tgt := 214) hx hb dX9_cut_200 (by decide) (fun c_18 => ?_) (fun c_18 => ?_)
                      · have hB_14 := (if_neg c_18).symm.trans hB_14
                        refine lv_lconst (v := 0) hx hb dX9_cut_214 (by decide) ?_
                        refine lv_ladd hx hb dX9_cut_215 ?_
                        refine lv_lstore (lv' := [(8, .long (v8_14 + (0 : Int64))), (10, .int (nI k_14)), (7, .int (nI k_10)), (6, .int v6_10), (4, .long v4_9), (3, .int (if (0 : Int32) < ((σ 13 (a1.toNatClampNeg)) - (100 : Int32)) then ((σ 13 (a1.toNatClampNeg)) - (100 : Int32)) else (0 : Int32))), (0, .ref h), (1, .int a1)]) hx hb dX9_cut_216 hl (by decide) rfl (fun ls hl => ?_)
                        refine lv_iinc (v := (nI (k_14 + 1))) (lv' := [(10, .int (nI (k_14 + 1))), (8, .long (v8_14 + (0 : Int64))), (7, .int (nI k_10)), (6, .int v6_10), (4, .long v4_9), (3, .int (if (0 : Int32) < ((σ 13 (a1.toNatClampNeg)) - (100 : Int32)) then ((σ 13 (a1.toNatClampNeg)) - (100 : Int32)) else (0 : Int32))), (0, .ref h), (1, .int a1)]) hx hb dX9_cut_218 hl (k := 1) rfl (by rw [show Int32.ofInt 1 = 1 from by decide]; exact nI_1 _) (by decide) rfl (fun ls hl => ?_)
                        refine lv_goto (tgt := 181) hx hb dX9_cut_221 (by decide) ?_
                        subst hB_14
                        exact ih (k_14 + 1) (v8_14 + (0 : Int64)) (ge_next hk_14)  _ _ _ hB_10 hP hD hS (lv_sub hl [0, 1, 2, 3, 4, 5, 6, 7] rfl)
                      · have hB_14 := (if_pos c_18).symm.trans hB_14
                        refine lv_aload_n hx hb dX9_cut_203 rfl (lv_at hl 6 rfl) ?_
                        refine lv_iload hx hb dX9_cut_204 (lv_at hl 0 rfl) ?_
                        refine lv_iload_n hx hb dX9_cut_206 rfl (lv_at hl 7 rfl) ?_
                        have hF := pw_free hD hS hA
                        refine va_calli (va_runV (As := [.int (nI k_14), .int a1]) (rest := [.long v8_14]) ⟨hx, hb, hml, hown, hts⟩ (k_X9_counts l D ca h ad τ_10 (nI k_14) a1 H.size hI_10 (ix_loop (N := 60) hk_14 (ir_5 hI_10) (by decide) (by decide)) _ rfl) (cwV 2 hts gX9_cut_X9_counts rfl rfl rfl (by decide +kernel) ⟨Nat.le_of_ble_eq_true rfl, Nat.le_of_ble_eq_true rfl⟩) ⟨pw_blind, va_recv hK hP (ci := 9) (q0 := 0) rfl wm_0, pw_give hP hK hD⟩ rfl rfl hl.1 rfl (lv_room (Nat.le_of_ble_eq_true rfl)) dX9_cut_207 ⟨Nat.le_of_ble_eq_true rfl, Nat.le_of_ble_eq_true rfl⟩) hS (fun q _ h => hF q h) hF (fun r_19 u t H1 locs ht hvm hw hB hz1 hk1 hS => ?_)
                        subst hw
                        obtain ⟨hP, hD⟩ := pw_back hF ht hB
                        clear hB hk1 hz1 hF
                        generalize H1 = H at hP hS ⊢
                        refine lv_i2l (v := ((s_X9_counts τ_10 (nI k_14) a1).toInt64)) hx hb dX9_cut_210 rfl ?_
                        refine lv_goto (tgt := 215) hx hb dX9_cut_211 (by decide) ?_
                        refine lv_ladd hx hb dX9_cut_215 ?_
                        refine lv_lstore (lv' := [(8, .long (v8_14 + ((s_X9_counts τ_10 (nI k_14) a1).toInt64))), (10, .int (nI k_14)), (7, .int (nI k_10)), (6, .int v6_10), (4, .long v4_9), (3, .int (if (0 : Int32) < ((σ 13 (a1.toNatClampNeg)) - (100 : Int32)) then ((σ 13 (a1.toNatClampNeg)) - (100 : Int32)) else (0 : Int32))), (0, .ref h), (1, .int a1)]) hx hb dX9_cut_216 hl (by decide) rfl (fun ls hl => ?_)
                        refine lv_iinc (v := (nI (k_14 + 1))) (lv' := [(10, .int (nI (k_14 + 1))), (8, .long (v8_14 + ((s_X9_counts τ_10 (nI k_14) a1).toInt64))), (7, .int (nI k_10)), (6, .int v6_10), (4, .long v4_9), (3, .int (if (0 : Int32) < ((σ 13 (a1.toNatClampNeg)) - (100 : Int32)) then ((σ 13 (a1.toNatClampNeg)) - (100 : Int32)) else (0 : Int32))), (0, .ref h), (1, .int a1)]) hx hb dX9_cut_218 hl (k := 1) rfl (by rw [show Int32.ofInt 1 = 1 from by decide]; exact nI_1 _) (by decide) rfl (fun ls hl => ?_)
                        refine lv_goto (tgt := 181) hx hb dX9_cut_221 (by decide) ?_
                        subst hB_14
                        exact ih (k_14 + 1) (v8_14 + ((s_X9_counts τ_10 (nI k_14) a1).toInt64)) (ge_next hk_14)  _ _ _ hB_10 hP hD hS (lv_sub hl [0, 1, 2, 3, 4, 5, 6, 7] rfl)
                  exact hL_14 _ 0 (0 : Int64) ⟨rfl, by decide⟩  _ _ _ hB_10 hP hD hS (lv_sub hl [0, 1, 2, 3, 4, 5, 6, 7] rfl)
            exact hL_10 _ 0 (if (0 : Int32) < ((σ 13 (a1.toNatClampNeg)) - (100 : Int32)) then ((σ 13 (a1.toNatClampNeg)) - (100 : Int32)) else (0 : Int32)) (put (put σ 13 (a1.toNatClampNeg) ((σ 13 (a1.toNatClampNeg)) - (if (0 : Int32) < ((σ 13 (a1.toNatClampNeg)) - (100 : Int32)) then ((σ 13 (a1.toNatClampNeg)) - (100 : Int32)) else (0 : Int32)))) 16 (a1.toNatClampNeg) ((σ 1 0) + (20 : Int32))) ⟨rfl, by decide⟩ (ir_put13 (σ := σ) hI (cut_ok (ir_13 hI (a1.toNatClampNeg)).1 (ir_13 hI (a1.toNatClampNeg)).2.1 (ir_13 hI (a1.toNatClampNeg)).2.2)) _ _ _ hR hP hD hS (lv_sub hl [0, 1, 2, 3, 4, 5] rfl)
          have hL_9 : ∀ (n k_9 : Nat) (v4_9 : Int64) (hk_9 : lpk (σ 5 0) k_9 n) (H : Heap) (locs : List Loc) (ls : Array Slot), s_X9_cut_c125 σ a1 (iter (s_X9_cut_l125 σ a1) n k_9 v4_9) = R → va_P D vwCl (WM ca h ad (put (put σ 13 (a1.toNatClampNeg) ((σ 13 (a1.toNatClampNeg)) - (if (0 : Int32) < ((σ 13 (a1.toNatClampNeg)) - (100 : Int32)) then ((σ 13 (a1.toNatClampNeg)) - (100 : Int32)) else (0 : Int32)))) 16 (a1.toNatClampNeg) ((σ 1 0) + (20 : Int32)))) H → va_D A (WM ca h ad (put (put σ 13 (a1.toNatClampNeg) ((σ 13 (a1.toNatClampNeg)) - (if (0 : Int32) < ((σ 13 (a1.toNatClampNeg)) - (100 : Int32)) then ((σ 13 (a1.toNatClampNeg)) - (100 : Int32)) else (0 : Int32)))) 16 (a1.toNatClampNeg) ((σ 1 0) + (20 : Int32)))) → va_S A s.heap H locs → lv_has ls 11 [(6, .int (nI k_9)), (4, .long v4_9), (3, .int (if (0 : Int32) < ((σ 13 (a1.toNatClampNeg)) - (100 : Int32)) then ((σ 13 (a1.toNatClampNeg)) - (100 : Int32)) else (0 : Int32))), (0, .ref h), (1, .int a1)] → W p l e ((headSpec wsX9_cut ({ frames := 3, cells := 0, slots := 0, locals := 66 })).room) s m ([.ref h, .int a1] : List Value).toArray below meth c H locs 0 0 QQ (F0 m 125 ls []) := by
            intro n
            induction n with
            | zero =>
              intro k_9 v4_9 hk_9 H locs ls hR hP hD hS hl
              refine lv_iload hx hb dX9_cut_125 (lv_at hl 0 rfl) ?_
              refine lv_aload_n hx hb dX9_cut_127 rfl (lv_at hl 3 rfl) ?_
              refine va_get (D := D) (ci := 9) (v := .int (σ 5 0)) (C := RX9) (T := TX9) (N := 51) hx hb hts hu9 hown hK hP 0 wm_0 rfl 5 (by decide) (hts (.fieldLink RX9 148 "GrazeBookModel" "rights" "I") (List.mem_cons_of_mem _ mw_788)) (fun _ h9 => h9) rfl dX9_cut_128 ?_
              refine lv_icmp_ge (tgt := 153) hx hb dX9_cut_131 (by decide) (fun _ => ?_) (fun c_20 => absurd (ge_end hk_9) c_20)
              exact hE_9 v4_9 _ _ _ hR hP hD hS (lv_sub hl [1, 2, 3, 4] rfl)
            | succ n ih =>
              intro k_9 v4_9 hk_9 H locs ls hR hP hD hS hl
              obtain ⟨S_9, hB_9⟩ : ∃ s9, s_X9_cut_l125 σ a1 k_9 v4_9 = s9 := ⟨_, rfl⟩
              have hR : s_X9_cut_c125 σ a1 (iter (s_X9_cut_l125 σ a1) n (k_9 + 1) S_9) = R := by rw [← hB_9]; exact hR
              have hB_9 : (v4_9 + ((s_X9_counts (put (put σ 13 (a1.toNatClampNeg) ((σ 13 (a1.toNatClampNeg)) - (if (0 : Int32) < ((σ 13 (a1.toNatClampNeg)) - (100 : Int32)) then ((σ 13 (a1.toNatClampNeg)) - (100 : Int32)) else (0 : Int32)))) 16 (a1.toNatClampNeg) ((σ 1 0) + (20 : Int32))) (nI k_9) a1).toInt64)) = S_9 := hB_9
              refine lv_iload hx hb dX9_cut_125 (lv_at hl 0 rfl) ?_
              refine lv_aload_n hx hb dX9_cut_127 rfl (lv_at hl 3 rfl) ?_
              refine va_get (D := D) (ci := 9) (v := .int (σ 5 0)) (C := RX9) (T := TX9) (N := 51) hx hb hts hu9 hown hK hP 0 wm_0 rfl 5 (by decide) (hts (.fieldLink RX9 148 "GrazeBookModel" "rights" "I") (List.mem_cons_of_mem _ mw_788)) (fun _ h9 => h9) rfl dX9_cut_128 ?_
              refine lv_icmp_ge (tgt := 153) hx hb dX9_cut_131 (by decide) (fun c_21 => absurd c_21 (ge_go hk_9)) (fun _ => ?_)
              refine lv_lload hx hb dX9_cut_134 (lv_at hl 1 rfl) ?_
              refine lv_aload_n hx hb dX9_cut_136 rfl (lv_at hl 3 rfl) ?_
              refine lv_iload hx hb dX9_cut_137 (lv_at hl 0 rfl) ?_
              refine lv_iload_n hx hb dX9_cut_139 rfl (lv_at hl 4 rfl) ?_
              have hF := pw_free hD hS hA
              refine va_calli (va_runV (As := [.int (nI k_9), .int a1]) (rest := [.long v4_9]) ⟨hx, hb, hml, hown, hts⟩ (k_X9_counts l D ca h ad (put (put σ 13 (a1.toNatClampNeg) ((σ 13 (a1.toNatClampNeg)) - (if (0 : Int32) < ((σ 13 (a1.toNatClampNeg)) - (100 : Int32)) then ((σ 13 (a1.toNatClampNeg)) - (100 : Int32)) else (0 : Int32)))) 16 (a1.toNatClampNeg) ((σ 1 0) + (20 : Int32))) (nI k_9) a1 H.size (ir_put13 (σ := σ) hI (cut_ok (ir_13 hI (a1.toNatClampNeg)).1 (ir_13 hI (a1.toNatClampNeg)).2.1 (ir_13 hI (a1.toNatClampNeg)).2.2)) (ix_loop (N := 60) hk_9 (ir_5 hI) (by decide) (by decide)) _ rfl) (cwV 2 hts gX9_cut_X9_counts rfl rfl rfl (by decide +kernel) ⟨Nat.le_of_ble_eq_true rfl, Nat.le_of_ble_eq_true rfl⟩) ⟨pw_blind, va_recv hK hP (ci := 9) (q0 := 0) rfl wm_0, pw_give hP hK hD⟩ rfl rfl hl.1 rfl (lv_room (Nat.le_of_ble_eq_true rfl)) dX9_cut_140 ⟨Nat.le_of_ble_eq_true rfl, Nat.le_of_ble_eq_true rfl⟩) hS (fun q _ h => hF q h) hF (fun r_22 u t H1 locs ht hvm hw hB hz1 hk1 hS => ?_)
              subst hw
              obtain ⟨hP, hD⟩ := pw_back hF ht hB
              clear hB hk1 hz1 hF
              generalize H1 = H at hP hS ⊢
              refine lv_i2l (v := ((s_X9_counts (put (put σ 13 (a1.toNatClampNeg) ((σ 13 (a1.toNatClampNeg)) - (if (0 : Int32) < ((σ 13 (a1.toNatClampNeg)) - (100 : Int32)) then ((σ 13 (a1.toNatClampNeg)) - (100 : Int32)) else (0 : Int32)))) 16 (a1.toNatClampNeg) ((σ 1 0) + (20 : Int32))) (nI k_9) a1).toInt64)) hx hb dX9_cut_143 rfl ?_
              refine lv_ladd hx hb dX9_cut_144 ?_
              refine lv_lstore (lv' := [(4, .long (v4_9 + ((s_X9_counts (put (put σ 13 (a1.toNatClampNeg) ((σ 13 (a1.toNatClampNeg)) - (if (0 : Int32) < ((σ 13 (a1.toNatClampNeg)) - (100 : Int32)) then ((σ 13 (a1.toNatClampNeg)) - (100 : Int32)) else (0 : Int32)))) 16 (a1.toNatClampNeg) ((σ 1 0) + (20 : Int32))) (nI k_9) a1).toInt64))), (6, .int (nI k_9)), (3, .int (if (0 : Int32) < ((σ 13 (a1.toNatClampNeg)) - (100 : Int32)) then ((σ 13 (a1.toNatClampNeg)) - (100 : Int32)) else (0 : Int32))), (0, .ref h), (1, .int a1)]) hx hb dX9_cut_145 hl (by decide) rfl (fun ls hl => ?_)
              refine lv_iinc (v := (nI (k_9 + 1))) (lv' := [(6, .int (nI (k_9 + 1))), (4, .long (v4_9 + ((s_X9_counts (put (put σ 13 (a1.toNatClampNeg) ((σ 13 (a1.toNatClampNeg)) - (if (0 : Int32) < ((σ 13 (a1.toNatClampNeg)) - (100 : Int32)) then ((σ 13 (a1.toNatClampNeg)) - (100 : Int32)) else (0 : Int32)))) 16 (a1.toNatClampNeg) ((σ 1 0) + (20 : Int32))) (nI k_9) a1).toInt64))), (3, .int (if (0 : Int32) < ((σ 13 (a1.toNatClampNeg)) - (100 : Int32)) then ((σ 13 (a1.toNatClampNeg)) - (100 : Int32)) else (0 : Int32))), (0, .ref h), (1, .int a1)]) hx hb dX9_cut_147 hl (k := 1) rfl (by rw [show Int32.ofInt 1 = 1 from by decide]; exact nI_1 _) (by decide) rfl (fun ls hl => ?_)
              refine lv_goto (tgt := 125) hx hb dX9_cut_150 (by decide) ?_
              subst hB_9
              exact ih (k_9 + 1) (v4_9 + ((s_X9_counts (put (put σ 13 (a1.toNatClampNeg) ((σ 13 (a1.toNatClampNeg)) - (if (0 : Int32) < ((σ 13 (a1.toNatClampNeg)) - (100 : Int32)) then ((σ 13 (a1.toNatClampNeg)) - (100 : Int32)) else (0 : Int32)))) 16 (a1.toNatClampNeg) ((σ 1 0) + (20 : Int32))) (nI k_9) a1).toInt64)) (ge_next hk_9)  _ _ _ hR hP hD hS (lv_sub hl [0, 1, 2, 3, 4] rfl)
          exact hL_9 _ 0 (0 : Int64) ⟨rfl, by decide⟩  _ _ _ hR hP hD hS (lv_sub hl [0, 1, 2, 4, 5] rfl)
        · have hR := (if_neg c_8).symm.trans hR
          refine lv_aload_n hx hb dX9_cut_75 rfl (lv_at hl 1 rfl) ?_
          refine lv_bipush (v := (-3 : Int32)) hx hb dX9_cut_76 (by decide) ?_
          have hF := pw_free hD hS hA
          refine va_calli (va_runV (As := [.int (-3 : Int32)]) (rest := []) ⟨hx, hb, hml, hown, hts⟩ (k_X9_refuse l D ca h ad σ (-3 : Int32) H.size hI (by unfold vp_in; decide) _ rfl) (cwV 1 hts gX9_cut_X9_refuse rfl rfl rfl (by decide +kernel) ⟨Nat.le_of_ble_eq_true rfl, Nat.le_of_ble_eq_true rfl⟩) ⟨pw_blind, va_recv hK hP (ci := 9) (q0 := 0) rfl wm_0, pw_give hP hK hD⟩ rfl rfl hl.1 rfl (lv_room (Nat.le_of_ble_eq_true rfl)) dX9_cut_78 ⟨Nat.le_of_ble_eq_true rfl, Nat.le_of_ble_eq_true rfl⟩) hS (fun q _ h => hF q h) hF (fun r_23 u t H1 locs ht hvm hw hB hz1 hk1 hS => ?_)
          subst hw
          obtain ⟨hB, hI_24⟩ := hB
          obtain ⟨hP, hD⟩ := pw_back hF ht hB
          clear hB hk1 hz1 hF
          generalize H1 = H at hP hS ⊢
          have hI9 : IR ((s_X9_refuse σ (-3 : Int32)).2) := hI_24
          subst hR
          rw [hQ]
          exact W.iret (v := ((s_X9_refuse σ (-3 : Int32)).1)) hx hb hr (fun t ht hW => ⟨⟨((s_X9_refuse σ (-3 : Int32)).1), (), rfl, rfl, ⟨by rw [ht]; exact hP, va_K.moved hW.alike hK, by rw [← hAe]; exact hD⟩, hI9⟩, hS.F ht⟩) hS.2.2 dX9_cut_81
    have hL_3 : ∀ (n k_3 : Nat) (v2_3 : Int32) (hk_3 : lpk (σ 6 0) k_3 n) (H : Heap) (locs : List Loc) (ls : Array Slot), s_X9_cut_c21 σ a1 (iter (s_X9_cut_l21 σ a1) n k_3 v2_3) = R → va_P D vwCl (WM ca h ad σ) H → va_D A (WM ca h ad σ) → va_S A s.heap H locs → lv_has ls 11 [(3, .int (nI k_3)), (2, .int v2_3), (0, .ref h), (1, .int a1)] → W p l e ((headSpec wsX9_cut ({ frames := 3, cells := 0, slots := 0, locals := 66 })).room) s m ([.ref h, .int a1] : List Value).toArray below meth c H locs 0 0 QQ (F0 m 21 ls []) := by
      intro n
      induction n with
      | zero =>
        intro k_3 v2_3 hk_3 H locs ls hR hP hD hS hl
        refine lv_iload_n hx hb dX9_cut_21 rfl (lv_at hl 0 rfl) ?_
        refine lv_aload_n hx hb dX9_cut_22 rfl (lv_at hl 2 rfl) ?_
        refine va_get (D := D) (ci := 9) (v := .int (σ 6 0)) (C := RX9) (T := TX9) (N := 51) hx hb hts hu9 hown hK hP 0 wm_0 rfl 6 (by decide) (hts (.fieldLink RX9 164 "GrazeBookModel" "herds" "I") (List.mem_cons_of_mem _ mw_789)) (fun _ h9 => h9) rfl dX9_cut_23 ?_
        refine lv_icmp_ge (tgt := 63) hx hb dX9_cut_26 (by decide) (fun _ => ?_) (fun c_25 => absurd (ge_end hk_3) c_25)
        exact hE_3 v2_3 _ _ _ hR hP hD hS (lv_sub hl [1, 2, 3] rfl)
      | succ n ih =>
        intro k_3 v2_3 hk_3 H locs ls hR hP hD hS hl
        obtain ⟨S_3, hB_3⟩ : ∃ s9, s_X9_cut_l21 σ a1 k_3 v2_3 = s9 := ⟨_, rfl⟩
        have hR : s_X9_cut_c21 σ a1 (iter (s_X9_cut_l21 σ a1) n (k_3 + 1) S_3) = R := by rw [← hB_3]; exact hR
        have hB_3 : (if v2_3 = (0 : Int32) then (if (s_X9_isOut σ (nI k_3)) = (0 : Int32) then (0 : Int32) else (if (σ 38 k_3) = a1 then (1 : Int32) else (0 : Int32))) else (1 : Int32)) = S_3 := hB_3
        refine lv_iload_n hx hb dX9_cut_21 rfl (lv_at hl 0 rfl) ?_
        refine lv_aload_n hx hb dX9_cut_22 rfl (lv_at hl 2 rfl) ?_
        refine va_get (D := D) (ci := 9) (v := .int (σ 6 0)) (C := RX9) (T := TX9) (N := 51) hx hb hts hu9 hown hK hP 0 wm_0 rfl 6 (by decide) (hts (.fieldLink RX9 164 "GrazeBookModel" "herds" "I") (List.mem_cons_of_mem _ mw_789)) (fun _ h9 => h9) rfl dX9_cut_23 ?_
        refine lv_icmp_ge (tgt := 63) hx hb dX9_cut_26 (by decide) (fun c_26 => absurd c_26 (ge_go hk_3)) (fun _ => ?_)
        refine lv_iload_n hx hb dX9_cut_29 rfl (lv_at hl 1 rfl) ?_
        refine lv_if_ne (tgt := 51) hx hb dX9_cut_30 (by decide) (fun c_27 => ?_) (fun c_27 => ?_)
        · have hB_3 := (if_neg c_27).symm.trans hB_3
          refine lv_iconst (v := (1 : Int32)) hx hb dX9_cut_51 (by decide) ?_
          refine lv_goto (tgt := 56) hx hb dX9_cut_52 (by decide) ?_
          refine lv_istore_n (lv' := [(2, .int (1 : Int32)), (3, .int (nI k_3)), (0, .ref h), (1, .int a1)]) hx hb dX9_cut_56 rfl hl (by decide) rfl (fun ls hl => ?_)
          refine lv_iinc (v := (nI (k_3 + 1))) (lv' := [(3, .int (nI (k_3 + 1))), (2, .int (1 : Int32)), (0, .ref h), (1, .int a1)]) hx hb dX9_cut_57 hl (k := 1) rfl (by rw [show Int32.ofInt 1 = 1 from by decide]; exact nI_1 _) (by decide) rfl (fun ls hl => ?_)
          refine lv_goto (tgt := 21) hx hb dX9_cut_60 (by decide) ?_
          subst hB_3
          exact ih (k_3 + 1) (1 : Int32) (ge_next hk_3)  _ _ _ hR hP hD hS (lv_sub hl [0, 1, 2, 3] rfl)
        · have hB_3 := (if_pos c_27).symm.trans hB_3
          refine lv_aload_n hx hb dX9_cut_33 rfl (lv_at hl 2 rfl) ?_
          refine lv_iload_n hx hb dX9_cut_34 rfl (lv_at hl 0 rfl) ?_
          have hF := pw_free hD hS hA
          refine va_calli (va_runV (As := [.int (nI k_3)]) (rest := []) ⟨hx, hb, hml, hown, hts⟩ (k_X9_isOut l D ca h ad σ (nI k_3) H.size hI (ix_loop (N := 20) hk_3 (ir_6 hI) (by decide) (by decide)) _ rfl) (cwV 1 hts gX9_cut_X9_isOut rfl rfl rfl (by decide +kernel) ⟨Nat.le_of_ble_eq_true rfl, Nat.le_of_ble_eq_true rfl⟩) ⟨pw_blind, va_recv hK hP (ci := 9) (q0 := 0) rfl wm_0, pw_give hP hK hD⟩ rfl rfl hl.1 rfl (lv_room (Nat.le_of_ble_eq_true rfl)) dX9_cut_35 ⟨Nat.le_of_ble_eq_true rfl, Nat.le_of_ble_eq_true rfl⟩) hS (fun q _ h => hF q h) hF (fun r_28 u t H1 locs ht hvm hw hB hz1 hk1 hS => ?_)
          subst hw
          obtain ⟨hP, hD⟩ := pw_back hF ht hB
          clear hB hk1 hz1 hF
          generalize H1 = H at hP hS ⊢
          refine lv_if_eq (tgt := 55) hx hb dX9_cut_38 (by decide) (fun c_29 => ?_) (fun c_29 => ?_)
          · have hB_3 := (if_pos c_29).symm.trans hB_3
            refine lv_iconst (v := (0 : Int32)) hx hb dX9_cut_55 (by decide) ?_
            refine lv_istore_n (lv' := [(2, .int (0 : Int32)), (3, .int (nI k_3)), (0, .ref h), (1, .int a1)]) hx hb dX9_cut_56 rfl hl (by decide) rfl (fun ls hl => ?_)
            refine lv_iinc (v := (nI (k_3 + 1))) (lv' := [(3, .int (nI (k_3 + 1))), (2, .int (0 : Int32)), (0, .ref h), (1, .int a1)]) hx hb dX9_cut_57 hl (k := 1) rfl (by rw [show Int32.ofInt 1 = 1 from by decide]; exact nI_1 _) (by decide) rfl (fun ls hl => ?_)
            refine lv_goto (tgt := 21) hx hb dX9_cut_60 (by decide) ?_
            subst hB_3
            exact ih (k_3 + 1) (0 : Int32) (ge_next hk_3)  _ _ _ hR hP hD hS (lv_sub hl [0, 1, 2, 3] rfl)
          · have hB_3 := (if_neg c_29).symm.trans hB_3
            refine lv_aload_n hx hb dX9_cut_41 rfl (lv_at hl 2 rfl) ?_
            refine va_get (D := D) (ci := 9) (v := .ref (ad 38)) (C := RX9) (T := TX9) (N := 51) hx hb hts hu9 hown hK hP 0 wm_0 rfl 38 (by decide) (hts (.fieldLink RX9 89 "GrazeBookModel" "hPiece" "[I") (List.mem_cons_of_mem _ mw_821)) (fun _ h9 => h9) rfl dX9_cut_42 ?_
            refine lv_iload_n hx hb dX9_cut_45 rfl (lv_at hl 0 rfl) ?_
            refine va_iald_k (k := k_3) (v := (σ 38 k_3)) hx hb hK hP 27 0 wm_a38 rfl (ix_cl hk_3) rfl (ix_loop (N := 20) hk_3 (ir_6 hI) (by decide) (by decide)) dX9_cut_46 ?_
            refine lv_iload_n hx hb dX9_cut_47 rfl (lv_at hl 3 rfl) ?_
            refine lv_icmp_ne (tgt := 55) hx hb dX9_cut_48 (by decide) (fun c_30 => ?_) (fun c_30 => ?_)
            · have hB_3 := (if_neg c_30).symm.trans hB_3
              refine lv_iconst (v := (0 : Int32)) hx hb dX9_cut_55 (by decide) ?_
              refine lv_istore_n (lv' := [(2, .int (0 : Int32)), (3, .int (nI k_3)), (0, .ref h), (1, .int a1)]) hx hb dX9_cut_56 rfl hl (by decide) rfl (fun ls hl => ?_)
              refine lv_iinc (v := (nI (k_3 + 1))) (lv' := [(3, .int (nI (k_3 + 1))), (2, .int (0 : Int32)), (0, .ref h), (1, .int a1)]) hx hb dX9_cut_57 hl (k := 1) rfl (by rw [show Int32.ofInt 1 = 1 from by decide]; exact nI_1 _) (by decide) rfl (fun ls hl => ?_)
              refine lv_goto (tgt := 21) hx hb dX9_cut_60 (by decide) ?_
              subst hB_3
              exact ih (k_3 + 1) (0 : Int32) (ge_next hk_3)  _ _ _ hR hP hD hS (lv_sub hl [0, 1, 2, 3] rfl)
            · have hB_3 := (if_pos c_30).symm.trans hB_3
              refine lv_iconst (v := (1 : Int32)) hx hb dX9_cut_51 (by decide) ?_
              refine lv_goto (tgt := 56) hx hb dX9_cut_52 (by decide) ?_
              refine lv_istore_n (lv' := [(2, .int (1 : Int32)), (3, .int (nI k_3)), (0, .ref h), (1, .int a1)]) hx hb dX9_cut_56 rfl hl (by decide) rfl (fun ls hl => ?_)
              refine lv_iinc (v := (nI (k_3 + 1))) (lv' := [(3, .int (nI (k_3 + 1))), (2, .int (1 : Int32)), (0, .ref h), (1, .int a1)]) hx hb dX9_cut_57 hl (k := 1) rfl (by rw [show Int32.ofInt 1 = 1 from by decide]; exact nI_1 _) (by decide) rfl (fun ls hl => ?_)
              refine lv_goto (tgt := 21) hx hb dX9_cut_60 (by decide) ?_
              subst hB_3
              exact ih (k_3 + 1) (1 : Int32) (ge_next hk_3)  _ _ _ hR hP hD hS (lv_sub hl [0, 1, 2, 3] rfl)
    exact hL_3 _ 0 (0 : Int32) ⟨rfl, by decide⟩  _ _ _ hR hP hD hS (lv_sub hl [0, 1, 2, 3] rfl)
  · have hR := (if_pos c_2).symm.trans hR
    refine lv_aload_n hx hb dX9_cut_11 rfl (lv_at hl 0 rfl) ?_
    refine lv_iconst (v := (-1 : Int32)) hx hb dX9_cut_12 (by decide) ?_
    have hF := pw_free hD hS hA
    refine va_calli (va_runV (As := [.int (-1 : Int32)]) (rest := []) ⟨hx, hb, hml, hown, hts⟩ (k_X9_refuse l D ca h ad σ (-1 : Int32) H.size hI (by unfold vp_in; decide) _ rfl) (cwV 1 hts gX9_cut_X9_refuse rfl rfl rfl (by decide +kernel) ⟨Nat.le_of_ble_eq_true rfl, Nat.le_of_ble_eq_true rfl⟩) ⟨pw_blind, va_recv hK hP (ci := 9) (q0 := 0) rfl wm_0, pw_give hP hK hD⟩ rfl rfl hl.1 rfl (lv_room (Nat.le_of_ble_eq_true rfl)) dX9_cut_13 ⟨Nat.le_of_ble_eq_true rfl, Nat.le_of_ble_eq_true rfl⟩) hS (fun q _ h => hF q h) hF (fun r_31 u t H1 locs ht hvm hw hB hz1 hk1 hS => ?_)
    subst hw
    obtain ⟨hB, hI_32⟩ := hB
    obtain ⟨hP, hD⟩ := pw_back hF ht hB
    clear hB hk1 hz1 hF
    generalize H1 = H at hP hS ⊢
    have hI9 : IR ((s_X9_refuse σ (-1 : Int32)).2) := hI_32
    subst hR
    rw [hQ]
    exact W.iret (v := ((s_X9_refuse σ (-1 : Int32)).1)) hx hb hr (fun t ht hW => ⟨⟨((s_X9_refuse σ (-1 : Int32)).1), (), rfl, rfl, ⟨by rw [ht]; exact hP, va_K.moved hW.alike hK, by rw [← hAe]; exact hD⟩, hI9⟩, hS.F ht⟩) hS.2.2 dX9_cut_16

def s_X9_lapses_c208  : St → St := fun x9 => match x9 with
  | τ_3 => τ_3
def s_X9_lapses_l208  (k_3 : Nat) : St → St := fun x9 => match x9 with
  | τ_3 => (if (τ_3 34 k_3) = (0 : Int32) then τ_3 else (put (put τ_3 33 k_3 (1 : Int32)) 12 0 ((τ_3 12 0) + (1 : Int32))))
def s_X9_lapses_c130  : St → St := fun x9 => match x9 with
  | τ_2 => (s_X9_lapses_c208 (iter s_X9_lapses_l208 ((τ_2 5 0).toNatClampNeg - 0) 0 τ_2))
def s_X9_lapses_l130  (k_2 : Nat) : St → St := fun x9 => match x9 with
  | τ_2 => (if (s_X9_isInForce τ_2 (nI k_2)) = (0 : Int32) then (put τ_2 34 k_2 (0 : Int32)) else (if ((τ_2 1 0) - (100 : Int32)) < (τ_2 28 k_2) then (put τ_2 34 k_2 (0 : Int32)) else (if (τ_2 32 k_2) = (-9 : Int32) then (put τ_2 34 k_2 (1 : Int32)) else (if ((τ_2 1 0) - (99 : Int32)) ≤ (τ_2 32 k_2) then (put τ_2 34 k_2 (0 : Int32)) else (put τ_2 34 k_2 (1 : Int32))))))
def s_X9_lapses_c7  : St → St := fun x9 => match x9 with
  | τ_1 => (s_X9_lapses_c130 (iter s_X9_lapses_l130 ((τ_1 5 0).toNatClampNeg - 0) 0 τ_1))
def s_X9_lapses_c42 (k_1 : Nat) : St → St := fun x9 => match x9 with
  | τ_16 => (if (τ_16 34 k_1) = (0 : Int32) then τ_16 else (put τ_16 32 k_1 (τ_16 1 0)))
def s_X9_lapses_l42 (k_1 : Nat) (k_16 : Nat) : St → Option St := fun x9 => match x9 with
  | τ_16 => (if (s_X9_isInForce τ_16 (nI k_1)) = (0 : Int32) then none else (if (τ_16 34 k_1) = (0 : Int32) then (if (τ_16 31 k_16) = (nI k_1) then (if (τ_16 34 k_16) = (0 : Int32) then (some (put τ_16 34 k_1 (0 : Int32))) else (some (put τ_16 34 k_1 (1 : Int32)))) else (some (put τ_16 34 k_1 (0 : Int32)))) else (some (put τ_16 34 k_1 (1 : Int32)))))
def s_X9_lapses_j37 (k_1 : Nat) (τ_1 : St) (y0_15 : Int32) : St := (s_X9_lapses_c42 k_1 (iterC (s_X9_lapses_l42 k_1) ((τ_1 5 0).toNatClampNeg - (k_1 + 1)) (k_1 + 1) (put τ_1 34 k_1 y0_15)))
def s_X9_lapses_l7  (k_1 : Nat) : St → St := fun x9 => match x9 with
  | τ_1 => (if (s_X9_partsOf τ_1 (nI k_1)) ≤ (0 : Int32) then (s_X9_lapses_j37 k_1 τ_1 (0 : Int32)) else (if (s_X9_isAsked τ_1 (nI k_1)) = (0 : Int32) then (s_X9_lapses_j37 k_1 τ_1 (0 : Int32)) else (s_X9_lapses_j37 k_1 τ_1 (1 : Int32))))
def s_X9_lapses (σ : St) : St := (s_X9_lapses_c7 (iterD s_X9_lapses_l7 (σ 5 0).toNatClampNeg σ))
theorem fr_s_X9_lapses_c208  (s : St) {f : Nat} (h12 : f ≠ 12) (h32 : f ≠ 32) (h33 : f ≠ 33) (h34 : f ≠ 34) : (s_X9_lapses_c208 s) f = s f := by
  unfold s_X9_lapses_c208
  all_goals ((try dsimp only) <;> ((repeat' split) <;> (try simp only [put_fr, ne_eq, not_false_eq_true, h12, h32, h33, h34])))
theorem fr_s_X9_lapses_l208  (k_3 : Nat) (s : St) {f : Nat} (h12 : f ≠ 12) (h32 : f ≠ 32) (h33 : f ≠ 33) (h34 : f ≠ 34) : (s_X9_lapses_l208 k_3 s) f = s f := by
  unfold s_X9_lapses_l208
  all_goals ((try dsimp only) <;> ((repeat' split) <;> (try simp only [put_fr, ne_eq, not_false_eq_true, h12, h32, h33, h34, fr_s_X9_lapses_c208])))
theorem fri_s_X9_lapses_l208  (n k : Nat) (s : St) {f : Nat} (h12 : f ≠ 12) (h32 : f ≠ 32) (h33 : f ≠ 33) (h34 : f ≠ 34) : (iter s_X9_lapses_l208 n k s) f = s f := iter_fr (P := (fun s => s f)) (fun k s => fr_s_X9_lapses_l208  k s h12 h32 h33 h34) n k s
theorem fr_s_X9_lapses_c130  (s : St) {f : Nat} (h12 : f ≠ 12) (h32 : f ≠ 32) (h33 : f ≠ 33) (h34 : f ≠ 34) : (s_X9_lapses_c130 s) f = s f := by
  unfold s_X9_lapses_c130
  all_goals ((try dsimp only) <;> ((repeat' split) <;> (try simp only [put_fr, ne_eq, not_false_eq_true, h12, h32, h33, h34, fr_s_X9_lapses_c208, fri_s_X9_lapses_l208])))
theorem fr_s_X9_lapses_l130  (k_2 : Nat) (s : St) {f : Nat} (h12 : f ≠ 12) (h32 : f ≠ 32) (h33 : f ≠ 33) (h34 : f ≠ 34) : (s_X9_lapses_l130 k_2 s) f = s f := by
  unfold s_X9_lapses_l130
  all_goals ((try dsimp only) <;> ((repeat' split) <;> (try simp only [put_fr, ne_eq, not_false_eq_true, h12, h32, h33, h34, fr_s_X9_lapses_c208, fri_s_X9_lapses_l208, fr_s_X9_lapses_c130])))
theorem fri_s_X9_lapses_l130  (n k : Nat) (s : St) {f : Nat} (h12 : f ≠ 12) (h32 : f ≠ 32) (h33 : f ≠ 33) (h34 : f ≠ 34) : (iter s_X9_lapses_l130 n k s) f = s f := iter_fr (P := (fun s => s f)) (fun k s => fr_s_X9_lapses_l130  k s h12 h32 h33 h34) n k s
theorem fr_s_X9_lapses_c7  (s : St) {f : Nat} (h12 : f ≠ 12) (h32 : f ≠ 32) (h33 : f ≠ 33) (h34 : f ≠ 34) : (s_X9_lapses_c7 s) f = s f := by
  unfold s_X9_lapses_c7
  all_goals ((try dsimp only) <;> ((repeat' split) <;> (try simp only [put_fr, ne_eq, not_false_eq_true, h12, h32, h33, h34, fr_s_X9_lapses_c208, fri_s_X9_lapses_l208, fr_s_X9_lapses_c130, fri_s_X9_lapses_l130])))
theorem fr_s_X9_lapses_c42 (k_1 : Nat) (s : St) {f : Nat} (h12 : f ≠ 12) (h32 : f ≠ 32) (h33 : f ≠ 33) (h34 : f ≠ 34) : (s_X9_lapses_c42 k_1 s) f = s f := by
  unfold s_X9_lapses_c42
  all_goals ((try dsimp only) <;> ((repeat' split) <;> (try simp only [put_fr, ne_eq, not_false_eq_true, h12, h32, h33, h34, fr_s_X9_lapses_c208, fri_s_X9_lapses_l208, fr_s_X9_lapses_c130, fri_s_X9_lapses_l130, fr_s_X9_lapses_c7])))
theorem fr_s_X9_lapses_l42 (k_1 : Nat) (k_16 : Nat) (s : St) {f : Nat} (h12 : f ≠ 12) (h32 : f ≠ 32) (h33 : f ≠ 33) (h34 : f ≠ 34) : ∀ t, s_X9_lapses_l42 k_1 k_16 s = some t → t f = s f := by
  intro t h
  unfold s_X9_lapses_l42 at h
  (try dsimp only at h)
  (repeat' split at h) <;> first | (cases h; done) | (obtain rfl := Option.some.inj h; simp only [put_fr, ne_eq, not_false_eq_true, h12, h32, h33, h34, fr_s_X9_lapses_c208, fri_s_X9_lapses_l208, fr_s_X9_lapses_c130, fri_s_X9_lapses_l130, fr_s_X9_lapses_c7, fr_s_X9_lapses_c42])
theorem fri_s_X9_lapses_l42 (k_1 : Nat) (n k : Nat) (s : St) {f : Nat} (h12 : f ≠ 12) (h32 : f ≠ 32) (h33 : f ≠ 33) (h34 : f ≠ 34) : (iterC (s_X9_lapses_l42 k_1) n k s) f = s f := iterC_fr (P := (fun s => s f)) (fun k s t h => fr_s_X9_lapses_l42 k_1 k s h12 h32 h33 h34 t h) n k s
theorem fr_s_X9_lapses_j37 (k_1 : Nat) (τ_1 : St) (y0_15 : Int32) {f : Nat} (h12 : f ≠ 12) (h32 : f ≠ 32) (h33 : f ≠ 33) (h34 : f ≠ 34) : (s_X9_lapses_j37 k_1 τ_1 y0_15) f = τ_1 f := by
  unfold s_X9_lapses_j37
  all_goals ((try dsimp only) <;> ((repeat' split) <;> (try simp only [put_fr, ne_eq, not_false_eq_true, h12, h32, h33, h34, fr_s_X9_lapses_c208, fri_s_X9_lapses_l208, fr_s_X9_lapses_c130, fri_s_X9_lapses_l130, fr_s_X9_lapses_c7, fr_s_X9_lapses_c42, fri_s_X9_lapses_l42])))
theorem fr_s_X9_lapses_l7  (k_1 : Nat) (s : St) {f : Nat} (h12 : f ≠ 12) (h32 : f ≠ 32) (h33 : f ≠ 33) (h34 : f ≠ 34) : (s_X9_lapses_l7 k_1 s) f = s f := by
  unfold s_X9_lapses_l7
  all_goals ((try dsimp only) <;> ((repeat' split) <;> (try simp only [put_fr, ne_eq, not_false_eq_true, h12, h32, h33, h34, fr_s_X9_lapses_c208, fri_s_X9_lapses_l208, fr_s_X9_lapses_c130, fri_s_X9_lapses_l130, fr_s_X9_lapses_c7, fr_s_X9_lapses_c42, fri_s_X9_lapses_l42, fr_s_X9_lapses_j37])))
theorem fri_s_X9_lapses_l7  (n : Nat) (s : St) {f : Nat} (h12 : f ≠ 12) (h32 : f ≠ 32) (h33 : f ≠ 33) (h34 : f ≠ 34) : (iterD s_X9_lapses_l7 n s) f = s f := iterD_fr (P := (fun s => s f)) (fun k s => fr_s_X9_lapses_l7  k s h12 h32 h33 h34) n s
theorem fr_s_X9_lapses (σ : St) {f : Nat} (h12 : f ≠ 12) (h32 : f ≠ 32) (h33 : f ≠ 33) (h34 : f ≠ 34) : (s_X9_lapses σ ) f = σ f := by
  unfold s_X9_lapses
  all_goals ((try dsimp only) <;> ((repeat' split) <;> (try simp only [put_fr, ne_eq, not_false_eq_true, h12, h32, h33, h34, fr_s_X9_lapses_c208, fri_s_X9_lapses_l208, fr_s_X9_lapses_c130, fri_s_X9_lapses_l130, fr_s_X9_lapses_c7, fr_s_X9_lapses_c42, fri_s_X9_lapses_l42, fr_s_X9_lapses_j37, fri_s_X9_lapses_l7])))
set_option maxHeartbeats 1000000 in
set_option maxRecDepth 100000 in
theorem k_X9_lapses (l : Launch) (D : va_G) (ca : Nat → ClassId) (h : Nat) (ad : Nat → Nat) (σ : St) (sz : Nat) (hI : IR σ)  (R : St) (hR : s_X9_lapses σ = R) : Met l yX9_lapses wsX9_lapses ({ frames := 2, cells := 0, slots := 0, locals := 45 }) (va_Pc [.ref h] (pw_pre D ca (WM ca h ad σ) sz)) (va_Qv (fun _ : Unit => True) (fun (_ : Unit) (t : State) => pw_post D ca (WM ca h ad σ) sz (WM ca h ad R) t ∧ IR R) (va_A (WM ca h ad σ) sz)) 0 0 (va_A (WM ca h ad σ) sz) := by
  refine Met.ofW (cc := cX9_lapses) (maxL := 3) (ret := none) (by decide) rfl ?_
  intro p e s m args below meth c s₁ B hml hv
  obtain ⟨rfl, hsz, hP, hK, hD0⟩ := hv
  have hx := B.exec
  have hb := B.bytes
  have hr := B.returns
  have hts := atoms_spec (ws := wsX9_lapses) B.pre
  have hown : s.vm.findClass RX9 = some m.cls := findClass_of_methodNamed B.named
  have hlocks := B.notSynchronized
  have hu9 : ∀ w ∈ u_ws RX9 TX9 51, w ∈ wsX9_lapses := fun w h => List.mem_cons_of_mem _ (uw9 w h)
  subst hsz
  have hD := hD0.self (sz := s.heap.size)
  obtain ⟨A, hAe⟩ : ∃ A, A = va_A (WM ca h ad σ) s.heap.size := ⟨_, rfl⟩
  rw [← hAe] at hD ⊢
  have hA : ∀ q : Nat, s.heap.size ≤ q → A q := fun q h => by rw [hAe]; exact Or.inr h
  have hS : va_S A s.heap s.heap [] := va_S.rf
  have hl := lv_entry ([.ref h]) (n := 3) (Nat.le_of_ble_eq_true rfl)
  rw [lg_entry_eq]
  generalize (lg_sl ([.ref h]) ++ List.replicate (3 - (lg_sl ([.ref h])).length) Slot.unset).toArray = ls at hl ⊢
  have hl : lv_has ls 3 [(0, .ref h)] := hl
  obtain ⟨H, hH⟩ : ∃ H, H = s.heap := ⟨_, rfl⟩
  have hP : va_P D vwCl (WM ca h ad σ) H := by rw [hH]; exact hP
  have hS : va_S A s.heap H [] := by rw [hH]; exact hS
  obtain ⟨QQ, hQ⟩ : ∃ Q9, Q9 = MQ below (va_Qv (fun _ : Unit => True) (fun (_ : Unit) (t : State) => pw_post D ca (WM ca h ad σ) s.heap.size (WM ca h ad R) t ∧ IR R) A) ([.ref h] : List Value).toArray s 0 0 A := ⟨_, rfl⟩
  rw [← hQ]
  show W _ _ _ _ _ _ _ _ _ _ s.heap _ _ _ _ _
  rw [← hH]
  have hR : (s_X9_lapses_c7 (iterD s_X9_lapses_l7 (σ 5 0).toNatClampNeg σ)) = R := hR
  refine lv_aload_n hx hb dX9_lapses_0 rfl (lv_at hl 0 rfl) ?_
  refine va_get (D := D) (ci := 9) (v := .int (σ 5 0)) (C := RX9) (T := TX9) (N := 51) hx hb hts hu9 hown hK hP 0 wm_0 rfl 5 (by decide) (hts (.fieldLink RX9 148 "GrazeBookModel" "rights" "I") (List.mem_cons_of_mem _ mw_788)) (fun _ h9 => h9) rfl dX9_lapses_1 ?_
  refine lv_iconst (v := (1 : Int32)) hx hb dX9_lapses_4 (by decide) ?_
  refine lv_isub hx hb dX9_lapses_5 ?_
  refine lv_istore_n (lv' := [(1, .int ((σ 5 0) - (1 : Int32))), (0, .ref h)]) hx hb dX9_lapses_6 rfl hl (by decide) rfl (fun ls hl => ?_)
  have hE_1 : ∀ (τ_1 : St) (hI_1 : IR τ_1) (H : Heap) (locs : List Loc) (ls : Array Slot), s_X9_lapses_c7 τ_1 = R → va_P D vwCl (WM ca h ad τ_1) H → va_D A (WM ca h ad τ_1) → va_S A s.heap H locs → lv_has ls 3 [(0, .ref h)] → W p l e ((headSpec wsX9_lapses ({ frames := 2, cells := 0, slots := 0, locals := 45 })).room) s m ([.ref h] : List Value).toArray below meth c H locs 0 0 QQ (F0 m 128 ls []) := by
    intro τ_1 hI_1 H locs ls hR hP hD hS hl
    have hR : (s_X9_lapses_c130 (iter s_X9_lapses_l130 ((τ_1 5 0).toNatClampNeg - 0) 0 τ_1)) = R := hR
    refine lv_iconst (v := (0 : Int32)) hx hb dX9_lapses_128 (by decide) ?_
    refine lv_istore_n (lv' := [(1, .int (0 : Int32)), (0, .ref h)]) hx hb dX9_lapses_129 rfl hl (by decide) rfl (fun ls hl => ?_)
    have hE_2 : ∀ (τ_2 : St) (hI_2 : IR τ_2) (H : Heap) (locs : List Loc) (ls : Array Slot), s_X9_lapses_c130 τ_2 = R → va_P D vwCl (WM ca h ad τ_2) H → va_D A (WM ca h ad τ_2) → va_S A s.heap H locs → lv_has ls 3 [(0, .ref h)] → W p l e ((headSpec wsX9_lapses ({ frames := 2, cells := 0, slots := 0, locals := 45 })).room) s m ([.ref h] : List Value).toArray below meth c H locs 0 0 QQ (F0 m 206 ls []) := by
      intro τ_2 hI_2 H locs ls hR hP hD hS hl
      have hR : (s_X9_lapses_c208 (iter s_X9_lapses_l208 ((τ_2 5 0).toNatClampNeg - 0) 0 τ_2)) = R := hR
      refine lv_iconst (v := (0 : Int32)) hx hb dX9_lapses_206 (by decide) ?_
      refine lv_istore_n (lv' := [(1, .int (0 : Int32)), (0, .ref h)]) hx hb dX9_lapses_207 rfl hl (by decide) rfl (fun ls hl => ?_)
      have hE_3 : ∀ (τ_3 : St) (hI_3 : IR τ_3) (H : Heap) (locs : List Loc) (ls : Array Slot), s_X9_lapses_c208 τ_3 = R → va_P D vwCl (WM ca h ad τ_3) H → va_D A (WM ca h ad τ_3) → va_S A s.heap H locs → lv_has ls 3 [] → W p l e ((headSpec wsX9_lapses ({ frames := 2, cells := 0, slots := 0, locals := 45 })).room) s m ([.ref h] : List Value).toArray below meth c H locs 0 0 QQ (F0 m 251 ls []) := by
        intro τ_3 hI_3 H locs ls hR hP hD hS hl
        have hR : τ_3 = R := hR
        have hI9 : IR τ_3 := hI_3
        subst hR
        rw [hQ]
        exact W.vret hx hb hr (fun t ht hW => ⟨⟨(), rfl, trivial, ⟨by rw [ht]; exact hP, va_K.moved hW.alike hK, by rw [← hAe]; exact hD⟩, hI9⟩, hS.F ht⟩) hS.2.2 dX9_lapses_251
      have hL_3 : ∀ (n k_3 : Nat) (τ_3 : St) (hk_3 : lpk (τ_3 5 0) k_3 n) (hI_3 : IR τ_3) (H : Heap) (locs : List Loc) (ls : Array Slot), s_X9_lapses_c208 (iter s_X9_lapses_l208 n k_3 τ_3) = R → va_P D vwCl (WM ca h ad τ_3) H → va_D A (WM ca h ad τ_3) → va_S A s.heap H locs → lv_has ls 3 [(1, .int (nI k_3)), (0, .ref h)] → W p l e ((headSpec wsX9_lapses ({ frames := 2, cells := 0, slots := 0, locals := 45 })).room) s m ([.ref h] : List Value).toArray below meth c H locs 0 0 QQ (F0 m 208 ls []) := by
        intro n
        induction n with
        | zero =>
          intro k_3 τ_3 hk_3 hI_3 H locs ls hR hP hD hS hl
          refine lv_iload_n hx hb dX9_lapses_208 rfl (lv_at hl 0 rfl) ?_
          refine lv_aload_n hx hb dX9_lapses_209 rfl (lv_at hl 1 rfl) ?_
          refine va_get (D := D) (ci := 9) (v := .int (τ_3 5 0)) (C := RX9) (T := TX9) (N := 51) hx hb hts hu9 hown hK hP 0 wm_0 rfl 5 (by decide) (hts (.fieldLink RX9 148 "GrazeBookModel" "rights" "I") (List.mem_cons_of_mem _ mw_788)) (fun _ h9 => h9) rfl dX9_lapses_210 ?_
          refine lv_icmp_ge (tgt := 251) hx hb dX9_lapses_213 (by decide) (fun _ => ?_) (fun c_4 => absurd (ge_end hk_3) c_4)
          exact hE_3 τ_3 hI_3 _ _ _ hR hP hD hS (lv_sub hl [] rfl)
        | succ n ih =>
          intro k_3 τ_3 hk_3 hI_3 H locs ls hR hP hD hS hl
          obtain ⟨S_3, hB_3⟩ : ∃ s9, s_X9_lapses_l208 k_3 τ_3 = s9 := ⟨_, rfl⟩
          have hR : s_X9_lapses_c208 (iter s_X9_lapses_l208 n (k_3 + 1) S_3) = R := by rw [← hB_3]; exact hR
          have hB_3 : (if (τ_3 34 k_3) = (0 : Int32) then τ_3 else (put (put τ_3 33 k_3 (1 : Int32)) 12 0 ((τ_3 12 0) + (1 : Int32)))) = S_3 := hB_3
          refine lv_iload_n hx hb dX9_lapses_208 rfl (lv_at hl 0 rfl) ?_
          refine lv_aload_n hx hb dX9_lapses_209 rfl (lv_at hl 1 rfl) ?_
          refine va_get (D := D) (ci := 9) (v := .int (τ_3 5 0)) (C := RX9) (T := TX9) (N := 51) hx hb hts hu9 hown hK hP 0 wm_0 rfl 5 (by decide) (hts (.fieldLink RX9 148 "GrazeBookModel" "rights" "I") (List.mem_cons_of_mem _ mw_788)) (fun _ h9 => h9) rfl dX9_lapses_210 ?_
          refine lv_icmp_ge (tgt := 251) hx hb dX9_lapses_213 (by decide) (fun c_5 => absurd c_5 (ge_go hk_3)) (fun _ => ?_)
          refine lv_aload_n hx hb dX9_lapses_216 rfl (lv_at hl 1 rfl) ?_
          refine va_get (D := D) (ci := 9) (v := .ref (ad 34)) (C := RX9) (T := TX9) (N := 51) hx hb hts hu9 hown hK hP 0 wm_0 rfl 34 (by decide) (hts (.fieldLink RX9 77 "GrazeBookModel" "uses" "[Z") (List.mem_cons_of_mem _ mw_817)) (fun _ h9 => h9) rfl dX9_lapses_217 ?_
          refine lv_iload_n hx hb dX9_lapses_220 rfl (lv_at hl 0 rfl) ?_
          refine va_zald_k (k := k_3) (v := (τ_3 34 k_3)) hx hb hK hP 23 1 wm_a34 rfl (ix_cl hk_3) rfl (ix_loop (N := 60) hk_3 (ir_5 hI_3) (by decide) (by decide)) dX9_lapses_221 ?_
          refine lv_if_ne (tgt := 228) hx hb dX9_lapses_222 (by decide) (fun c_6 => ?_) (fun c_6 => ?_)
          · have hB_3 := (if_neg c_6).symm.trans hB_3
            refine lv_aload_n hx hb dX9_lapses_228 rfl (lv_at hl 1 rfl) ?_
            refine va_get (D := D) (ci := 9) (v := .ref (ad 33)) (C := RX9) (T := TX9) (N := 51) hx hb hts hu9 hown hK hP 0 wm_0 rfl 33 (by decide) (hts (.fieldLink RX9 74 "GrazeBookModel" "rGone" "[Z") (List.mem_cons_of_mem _ mw_816)) (fun _ h9 => h9) rfl dX9_lapses_229 ?_
            refine lv_iload_n hx hb dX9_lapses_232 rfl (lv_at hl 0 rfl) ?_
            refine lv_iconst (v := (1 : Int32)) hx hb dX9_lapses_233 (by decide) ?_
            refine va_zast_k (k := k_3) hx hb hK hP hD hS 22 1 wm_a33 rfl (ix_cl hk_3) (ix_loop (N := 60) hk_3 (ir_5 hI_3) (by decide) (by decide)) (by decide) dX9_lapses_234 (fun H locs hP hD hS => ?_)
            rw [wm_s33] at hP hD
            refine lv_aload_n hx hb dX9_lapses_235 rfl (lv_at hl 1 rfl) ?_
            refine lv_dup hx hb dX9_lapses_236 rfl ?_
            refine va_get (D := D) (ci := 9) (v := .int (τ_3 12 0)) (C := RX9) (T := TX9) (N := 51) hx hb hts hu9 hown hK hP 0 wm_0 rfl 12 (by decide) (hts (.fieldLink RX9 211 "GrazeBookModel" "lapsed" "I") (List.mem_cons_of_mem _ mw_795)) (fun _ h9 => h9) rfl dX9_lapses_237 ?_
            refine lv_iconst (v := (1 : Int32)) hx hb dX9_lapses_240 (by decide) ?_
            refine lv_iadd hx hb dX9_lapses_241 ?_
            refine va_put (D := D) (ci := 9) (v := .int ((τ_3 12 0) + (1 : Int32))) (ty := .int) (C := RX9) (T := TX9) (N := 51) hx hb hts hu9 tyX9 tyX9_ok nmX9 hown hK hP hD hS 0 wm_0 rfl 12 (by decide) (hts (.fieldLink RX9 211 "GrazeBookModel" "lapsed" "I") (List.mem_cons_of_mem _ mw_795)) (fun _ h9 => h9) rfl (by decide +kernel) rfl rfl (Nat.le_of_ble_eq_true rfl) dX9_lapses_242 (fun H locs hP hD hS => ?_)
            rw [wm_p12] at hP hD
            refine lv_iinc (v := (nI (k_3 + 1))) (lv' := [(1, .int (nI (k_3 + 1))), (0, .ref h)]) hx hb dX9_lapses_245 hl (k := 0) rfl (by rw [show Int32.ofInt 1 = 1 from by decide]; exact nI_1 _) (by decide) rfl (fun ls hl => ?_)
            refine lv_goto (tgt := 208) hx hb dX9_lapses_248 (by decide) ?_
            subst hB_3
            exact ih (k_3 + 1) (put (put τ_3 33 k_3 (1 : Int32)) 12 0 ((τ_3 12 0) + (1 : Int32))) (ge_next hk_3) hI_3 _ _ _ hR hP hD hS (lv_sub hl [0, 1] rfl)
          · have hB_3 := (if_pos c_6).symm.trans hB_3
            refine lv_goto (tgt := 245) hx hb dX9_lapses_225 (by decide) ?_
            refine lv_iinc (v := (nI (k_3 + 1))) (lv' := [(1, .int (nI (k_3 + 1))), (0, .ref h)]) hx hb dX9_lapses_245 hl (k := 0) rfl (by rw [show Int32.ofInt 1 = 1 from by decide]; exact nI_1 _) (by decide) rfl (fun ls hl => ?_)
            refine lv_goto (tgt := 208) hx hb dX9_lapses_248 (by decide) ?_
            subst hB_3
            exact ih (k_3 + 1) τ_3 (ge_next hk_3) hI_3 _ _ _ hR hP hD hS (lv_sub hl [0, 1] rfl)
      exact hL_3 _ 0 τ_2 ⟨rfl, by decide⟩ hI_2 _ _ _ hR hP hD hS (lv_sub hl [0, 1] rfl)
    have hL_2 : ∀ (n k_2 : Nat) (τ_2 : St) (hk_2 : lpk (τ_2 5 0) k_2 n) (hI_2 : IR τ_2) (H : Heap) (locs : List Loc) (ls : Array Slot), s_X9_lapses_c130 (iter s_X9_lapses_l130 n k_2 τ_2) = R → va_P D vwCl (WM ca h ad τ_2) H → va_D A (WM ca h ad τ_2) → va_S A s.heap H locs → lv_has ls 3 [(1, .int (nI k_2)), (0, .ref h)] → W p l e ((headSpec wsX9_lapses ({ frames := 2, cells := 0, slots := 0, locals := 45 })).room) s m ([.ref h] : List Value).toArray below meth c H locs 0 0 QQ (F0 m 130 ls []) := by
      intro n
      induction n with
      | zero =>
        intro k_2 τ_2 hk_2 hI_2 H locs ls hR hP hD hS hl
        refine lv_iload_n hx hb dX9_lapses_130 rfl (lv_at hl 0 rfl) ?_
        refine lv_aload_n hx hb dX9_lapses_131 rfl (lv_at hl 1 rfl) ?_
        refine va_get (D := D) (ci := 9) (v := .int (τ_2 5 0)) (C := RX9) (T := TX9) (N := 51) hx hb hts hu9 hown hK hP 0 wm_0 rfl 5 (by decide) (hts (.fieldLink RX9 148 "GrazeBookModel" "rights" "I") (List.mem_cons_of_mem _ mw_788)) (fun _ h9 => h9) rfl dX9_lapses_132 ?_
        refine lv_icmp_ge (tgt := 206) hx hb dX9_lapses_135 (by decide) (fun _ => ?_) (fun c_7 => absurd (ge_end hk_2) c_7)
        exact hE_2 τ_2 hI_2 _ _ _ hR hP hD hS (lv_sub hl [1] rfl)
      | succ n ih =>
        intro k_2 τ_2 hk_2 hI_2 H locs ls hR hP hD hS hl
        obtain ⟨S_2, hB_2⟩ : ∃ s9, s_X9_lapses_l130 k_2 τ_2 = s9 := ⟨_, rfl⟩
        have hR : s_X9_lapses_c130 (iter s_X9_lapses_l130 n (k_2 + 1) S_2) = R := by rw [← hB_2]; exact hR
        have hB_2 : (if (s_X9_isInForce τ_2 (nI k_2)) = (0 : Int32) then (put τ_2 34 k_2 (0 : Int32)) else (if ((τ_2 1 0) - (100 : Int32)) < (τ_2 28 k_2) then (put τ_2 34 k_2 (0 : Int32)) else (if (τ_2 32 k_2) = (-9 : Int32) then (put τ_2 34 k_2 (1 : Int32)) else (if ((τ_2 1 0) - (99 : Int32)) ≤ (τ_2 32 k_2) then (put τ_2 34 k_2 (0 : Int32)) else (put τ_2 34 k_2 (1 : Int32)))))) = S_2 := hB_2
        refine lv_iload_n hx hb dX9_lapses_130 rfl (lv_at hl 0 rfl) ?_
        refine lv_aload_n hx hb dX9_lapses_131 rfl (lv_at hl 1 rfl) ?_
        refine va_get (D := D) (ci := 9) (v := .int (τ_2 5 0)) (C := RX9) (T := TX9) (N := 51) hx hb hts hu9 hown hK hP 0 wm_0 rfl 5 (by decide) (hts (.fieldLink RX9 148 "GrazeBookModel" "rights" "I") (List.mem_cons_of_mem _ mw_788)) (fun _ h9 => h9) rfl dX9_lapses_132 ?_
        refine lv_icmp_ge (tgt := 206) hx hb dX9_lapses_135 (by decide) (fun c_8 => absurd c_8 (ge_go hk_2)) (fun _ => ?_)
        refine lv_aload_n hx hb dX9_lapses_138 rfl (lv_at hl 1 rfl) ?_
        refine va_get (D := D) (ci := 9) (v := .ref (ad 34)) (C := RX9) (T := TX9) (N := 51) hx hb hts hu9 hown hK hP 0 wm_0 rfl 34 (by decide) (hts (.fieldLink RX9 77 "GrazeBookModel" "uses" "[Z") (List.mem_cons_of_mem _ mw_817)) (fun _ h9 => h9) rfl dX9_lapses_139 ?_
        refine lv_iload_n hx hb dX9_lapses_142 rfl (lv_at hl 0 rfl) ?_
        refine lv_aload_n hx hb dX9_lapses_143 rfl (lv_at hl 1 rfl) ?_
        refine lv_iload_n hx hb dX9_lapses_144 rfl (lv_at hl 0 rfl) ?_
        have hF := pw_free hD hS hA
        refine va_calli (va_runV (As := [.int (nI k_2)]) (rest := [.int (nI k_2), .ref (ad 34)]) ⟨hx, hb, hml, hown, hts⟩ (k_X9_isInForce l D ca h ad τ_2 (nI k_2) H.size hI_2 (ix_loop (N := 60) hk_2 (ir_5 hI_2) (by decide) (by decide)) _ rfl) (cwV 1 hts gX9_lapses_X9_isInForce rfl rfl rfl (by decide +kernel) ⟨Nat.le_of_ble_eq_true rfl, Nat.le_of_ble_eq_true rfl⟩) ⟨pw_blind, va_recv hK hP (ci := 9) (q0 := 0) rfl wm_0, pw_give hP hK hD⟩ rfl rfl hl.1 rfl (lv_room (Nat.le_of_ble_eq_true rfl)) dX9_lapses_145 ⟨Nat.le_of_ble_eq_true rfl, Nat.le_of_ble_eq_true rfl⟩) hS (fun q _ h => hF q h) hF (fun r_9 u t H1 locs ht hvm hw hB hz1 hk1 hS => ?_)
        subst hw
        obtain ⟨hP, hD⟩ := pw_back hF ht hB
        clear hB hk1 hz1 hF
        generalize H1 = H at hP hS ⊢
        refine lv_if_eq (tgt := 198) hx hb dX9_lapses_148 (by decide) (fun c_10 => ?_) (fun c_10 => ?_)
        · have hB_2 := (if_pos c_10).symm.trans hB_2
          refine lv_iconst (v := (0 : Int32)) hx hb dX9_lapses_198 (by decide) ?_
          refine va_zast_k (k := k_2) hx hb hK hP hD hS 23 1 wm_a34 rfl (ix_cl hk_2) (ix_loop (N := 60) hk_2 (ir_5 hI_2) (by decide) (by decide)) (by decide) dX9_lapses_199 (fun H locs hP hD hS => ?_)
          rw [wm_s34] at hP hD
          refine lv_iinc (v := (nI (k_2 + 1))) (lv' := [(1, .int (nI (k_2 + 1))), (0, .ref h)]) hx hb dX9_lapses_200 hl (k := 0) rfl (by rw [show Int32.ofInt 1 = 1 from by decide]; exact nI_1 _) (by decide) rfl (fun ls hl => ?_)
          refine lv_goto (tgt := 130) hx hb dX9_lapses_203 (by decide) ?_
          subst hB_2
          exact ih (k_2 + 1) (put τ_2 34 k_2 (0 : Int32)) (ge_next hk_2) hI_2 _ _ _ hR hP hD hS (lv_sub hl [0, 1] rfl)
        · have hB_2 := (if_neg c_10).symm.trans hB_2
          refine lv_aload_n hx hb dX9_lapses_151 rfl (lv_at hl 1 rfl) ?_
          refine va_get (D := D) (ci := 9) (v := .ref (ad 28)) (C := RX9) (T := TX9) (N := 51) hx hb hts hu9 hown hK hP 0 wm_0 rfl 28 (by decide) (hts (.fieldLink RX9 59 "GrazeBookModel" "rFrom" "[I") (List.mem_cons_of_mem _ mw_811)) (fun _ h9 => h9) rfl dX9_lapses_152 ?_
          refine lv_iload_n hx hb dX9_lapses_155 rfl (lv_at hl 0 rfl) ?_
          refine va_iald_k (k := k_2) (v := (τ_2 28 k_2)) hx hb hK hP 17 0 wm_a28 rfl (ix_cl hk_2) rfl (ix_loop (N := 60) hk_2 (ir_5 hI_2) (by decide) (by decide)) dX9_lapses_156 ?_
          refine lv_aload_n hx hb dX9_lapses_157 rfl (lv_at hl 1 rfl) ?_
          refine va_get (D := D) (ci := 9) (v := .int (τ_2 1 0)) (C := RX9) (T := TX9) (N := 51) hx hb hts hu9 hown hK hP 0 wm_0 rfl 1 (by decide) (hts (.fieldLink RX9 141 "GrazeBookModel" "day" "I") (List.mem_cons_of_mem _ mw_784)) (fun _ h9 => h9) rfl dX9_lapses_158 ?_
          refine lv_bipush (v := (100 : Int32)) hx hb dX9_lapses_161 (by decide) ?_
          refine lv_isub hx hb dX9_lapses_163 ?_
          refine lv_icmp_gt (tgt := 198) hx hb dX9_lapses_164 (by decide) (fun c_11 => ?_) (fun c_11 => ?_)
          · have hB_2 := (if_pos c_11).symm.trans hB_2
            refine lv_iconst (v := (0 : Int32)) hx hb dX9_lapses_198 (by decide) ?_
            refine va_zast_k (k := k_2) hx hb hK hP hD hS 23 1 wm_a34 rfl (ix_cl hk_2) (ix_loop (N := 60) hk_2 (ir_5 hI_2) (by decide) (by decide)) (by decide) dX9_lapses_199 (fun H locs hP hD hS => ?_)
            rw [wm_s34] at hP hD
            refine lv_iinc (v := (nI (k_2 + 1))) (lv' := [(1, .int (nI (k_2 + 1))), (0, .ref h)]) hx hb dX9_lapses_200 hl (k := 0) rfl (by rw [show Int32.ofInt 1 = 1 from by decide]; exact nI_1 _) (by decide) rfl (fun ls hl => ?_)
            refine lv_goto (tgt := 130) hx hb dX9_lapses_203 (by decide) ?_
            subst hB_2
            exact ih (k_2 + 1) (put τ_2 34 k_2 (0 : Int32)) (ge_next hk_2) hI_2 _ _ _ hR hP hD hS (lv_sub hl [0, 1] rfl)
          · have hB_2 := (if_neg c_11).symm.trans hB_2
            refine lv_aload_n hx hb dX9_lapses_167 rfl (lv_at hl 1 rfl) ?_
            refine va_get (D := D) (ci := 9) (v := .ref (ad 32)) (C := RX9) (T := TX9) (N := 51) hx hb hts hu9 hown hK hP 0 wm_0 rfl 32 (by decide) (hts (.fieldLink RX9 71 "GrazeBookModel" "rUsed" "[I") (List.mem_cons_of_mem _ mw_815)) (fun _ h9 => h9) rfl dX9_lapses_168 ?_
            refine lv_iload_n hx hb dX9_lapses_171 rfl (lv_at hl 0 rfl) ?_
            refine va_iald_k (k := k_2) (v := (τ_2 32 k_2)) hx hb hK hP 21 0 wm_a32 rfl (ix_cl hk_2) rfl (ix_loop (N := 60) hk_2 (ir_5 hI_2) (by decide) (by decide)) dX9_lapses_172 ?_
            refine lv_bipush (v := (-9 : Int32)) hx hb dX9_lapses_173 (by decide) ?_
            refine lv_icmp_eq (tgt := 194) hx hb dX9_lapses_175 (by decide) (fun c_12 => ?_) (fun c_12 => ?_)
            · have hB_2 := (if_pos c_12).symm.trans hB_2
              refine lv_iconst (v := (1 : Int32)) hx hb dX9_lapses_194 (by decide) ?_
              refine lv_goto (tgt := 199) hx hb dX9_lapses_195 (by decide) ?_
              refine va_zast_k (k := k_2) hx hb hK hP hD hS 23 1 wm_a34 rfl (ix_cl hk_2) (ix_loop (N := 60) hk_2 (ir_5 hI_2) (by decide) (by decide)) (by decide) dX9_lapses_199 (fun H locs hP hD hS => ?_)
              rw [wm_s34] at hP hD
              refine lv_iinc (v := (nI (k_2 + 1))) (lv' := [(1, .int (nI (k_2 + 1))), (0, .ref h)]) hx hb dX9_lapses_200 hl (k := 0) rfl (by rw [show Int32.ofInt 1 = 1 from by decide]; exact nI_1 _) (by decide) rfl (fun ls hl => ?_)
              refine lv_goto (tgt := 130) hx hb dX9_lapses_203 (by decide) ?_
              subst hB_2
              exact ih (k_2 + 1) (put τ_2 34 k_2 (1 : Int32)) (ge_next hk_2) hI_2 _ _ _ hR hP hD hS (lv_sub hl [0, 1] rfl)
            · have hB_2 := (if_neg c_12).symm.trans hB_2
              refine lv_aload_n hx hb dX9_lapses_178 rfl (lv_at hl 1 rfl) ?_
              refine va_get (D := D) (ci := 9) (v := .ref (ad 32)) (C := RX9) (T := TX9) (N := 51) hx hb hts hu9 hown hK hP 0 wm_0 rfl 32 (by decide) (hts (.fieldLink RX9 71 "GrazeBookModel" "rUsed" "[I") (List.mem_cons_of_mem _ mw_815)) (fun _ h9 => h9) rfl dX9_lapses_179 ?_
              refine lv_iload_n hx hb dX9_lapses_182 rfl (lv_at hl 0 rfl) ?_
              refine va_iald_k (k := k_2) (v := (τ_2 32 k_2)) hx hb hK hP 21 0 wm_a32 rfl (ix_cl hk_2) rfl (ix_loop (N := 60) hk_2 (ir_5 hI_2) (by decide) (by decide)) dX9_lapses_183 ?_
              refine lv_aload_n hx hb dX9_lapses_184 rfl (lv_at hl 1 rfl) ?_
              refine va_get (D := D) (ci := 9) (v := .int (τ_2 1 0)) (C := RX9) (T := TX9) (N := 51) hx hb hts hu9 hown hK hP 0 wm_0 rfl 1 (by decide) (hts (.fieldLink RX9 141 "GrazeBookModel" "day" "I") (List.mem_cons_of_mem _ mw_784)) (fun _ h9 => h9) rfl dX9_lapses_185 ?_
              refine lv_bipush (v := (99 : Int32)) hx hb dX9_lapses_188 (by decide) ?_
              refine lv_isub hx hb dX9_lapses_190 ?_
              refine lv_icmp_ge (tgt := 198) hx hb dX9_lapses_191 (by decide) (fun c_13 => ?_) (fun c_13 => ?_)
              · have hB_2 := (if_pos c_13).symm.trans hB_2
                refine lv_iconst (v := (0 : Int32)) hx hb dX9_lapses_198 (by decide) ?_
                refine va_zast_k (k := k_2) hx hb hK hP hD hS 23 1 wm_a34 rfl (ix_cl hk_2) (ix_loop (N := 60) hk_2 (ir_5 hI_2) (by decide) (by decide)) (by decide) dX9_lapses_199 (fun H locs hP hD hS => ?_)
                rw [wm_s34] at hP hD
                refine lv_iinc (v := (nI (k_2 + 1))) (lv' := [(1, .int (nI (k_2 + 1))), (0, .ref h)]) hx hb dX9_lapses_200 hl (k := 0) rfl (by rw [show Int32.ofInt 1 = 1 from by decide]; exact nI_1 _) (by decide) rfl (fun ls hl => ?_)
                refine lv_goto (tgt := 130) hx hb dX9_lapses_203 (by decide) ?_
                subst hB_2
                exact ih (k_2 + 1) (put τ_2 34 k_2 (0 : Int32)) (ge_next hk_2) hI_2 _ _ _ hR hP hD hS (lv_sub hl [0, 1] rfl)
              · have hB_2 := (if_neg c_13).symm.trans hB_2
                refine lv_iconst (v := (1 : Int32)) hx hb dX9_lapses_194 (by decide) ?_
                refine lv_goto (tgt := 199) hx hb dX9_lapses_195 (by decide) ?_
                refine va_zast_k (k := k_2) hx hb hK hP hD hS 23 1 wm_a34 rfl (ix_cl hk_2) (ix_loop (N := 60) hk_2 (ir_5 hI_2) (by decide) (by decide)) (by decide) dX9_lapses_199 (fun H locs hP hD hS => ?_)
                rw [wm_s34] at hP hD
                refine lv_iinc (v := (nI (k_2 + 1))) (lv' := [(1, .int (nI (k_2 + 1))), (0, .ref h)]) hx hb dX9_lapses_200 hl (k := 0) rfl (by rw [show Int32.ofInt 1 = 1 from by decide]; exact nI_1 _) (by decide) rfl (fun ls hl => ?_)
                refine lv_goto (tgt := 130) hx hb dX9_lapses_203 (by decide) ?_
                subst hB_2
                exact ih (k_2 + 1) (put τ_2 34 k_2 (1 : Int32)) (ge_next hk_2) hI_2 _ _ _ hR hP hD hS (lv_sub hl [0, 1] rfl)
    exact hL_2 _ 0 τ_1 ⟨rfl, by decide⟩ hI_1 _ _ _ hR hP hD hS (lv_sub hl [0, 1] rfl)
  have hL_1 : ∀ (n : Nat) (τ_1 : St) (hk_1 : n ≤ (σ 5 0).toNatClampNeg) (hI_1 : IR τ_1) (H : Heap) (locs : List Loc) (ls : Array Slot), s_X9_lapses_c7 (iterD s_X9_lapses_l7 n τ_1) = R → va_P D vwCl (WM ca h ad τ_1) H → va_D A (WM ca h ad τ_1) → va_S A s.heap H locs → lv_has ls 3 [(1, .int (nI n - (1 : Int32))), (0, .ref h)] → W p l e ((headSpec wsX9_lapses ({ frames := 2, cells := 0, slots := 0, locals := 45 })).room) s m ([.ref h] : List Value).toArray below meth c H locs 0 0 QQ (F0 m 7 ls []) := by
    intro n
    induction n with
    | zero =>
      intro τ_1 hk_1 hI_1 H locs ls hR hP hD hS hl
      refine lv_iload_n hx hb dX9_lapses_7 rfl (lv_at hl 0 rfl) ?_
      refine lv_if_lt (tgt := 128) hx hb dX9_lapses_8 (by decide) (fun _ => ?_) (fun c9 => absurd (by decide) c9)
      exact hE_1 τ_1 hI_1 _ _ _ hR hP hD hS (lv_sub hl [1] rfl)
    | succ k_1 ih =>
      intro τ_1 hk_1 hI_1 H locs ls hR hP hD hS hl
      obtain ⟨S_1, hB_1⟩ : ∃ s9, s_X9_lapses_l7 k_1 τ_1 = s9 := ⟨_, rfl⟩
      have hR : s_X9_lapses_c7 (iterD s_X9_lapses_l7 k_1 S_1) = R := by rw [← hB_1]; exact hR
      have hB_1 : (if (s_X9_partsOf τ_1 (nI k_1)) ≤ (0 : Int32) then (s_X9_lapses_j37 k_1 τ_1 (0 : Int32)) else (if (s_X9_isAsked τ_1 (nI k_1)) = (0 : Int32) then (s_X9_lapses_j37 k_1 τ_1 (0 : Int32)) else (s_X9_lapses_j37 k_1 τ_1 (1 : Int32)))) = S_1 := hB_1
      rw [nI_pred] at hl
      refine lv_iload_n hx hb dX9_lapses_7 rfl (lv_at hl 0 rfl) ?_
      refine lv_if_lt (tgt := 128) hx hb dX9_lapses_8 (by decide) (fun c9 => absurd c9 (nI_pos (dn_lt hk_1))) (fun _ => ?_)
      refine lv_aload_n hx hb dX9_lapses_11 rfl (lv_at hl 1 rfl) ?_
      refine va_get (D := D) (ci := 9) (v := .ref (ad 34)) (C := RX9) (T := TX9) (N := 51) hx hb hts hu9 hown hK hP 0 wm_0 rfl 34 (by decide) (hts (.fieldLink RX9 77 "GrazeBookModel" "uses" "[Z") (List.mem_cons_of_mem _ mw_817)) (fun _ h9 => h9) rfl dX9_lapses_12 ?_
      refine lv_iload_n hx hb dX9_lapses_15 rfl (lv_at hl 0 rfl) ?_
      refine lv_aload_n hx hb dX9_lapses_16 rfl (lv_at hl 1 rfl) ?_
      refine lv_iload_n hx hb dX9_lapses_17 rfl (lv_at hl 0 rfl) ?_
      have hF := pw_free hD hS hA
      refine va_calli (va_runV (As := [.int (nI k_1)]) (rest := [.int (nI k_1), .ref (ad 34)]) ⟨hx, hb, hml, hown, hts⟩ (k_X9_partsOf l D ca h ad τ_1 (nI k_1) H.size hI_1 (ix_down (N := 60) hk_1 (ir_5 hI) (by decide) (by decide)) _ rfl) (cwV 1 hts gX9_lapses_X9_partsOf rfl rfl rfl (by decide +kernel) ⟨Nat.le_of_ble_eq_true rfl, Nat.le_of_ble_eq_true rfl⟩) ⟨pw_blind, va_recv hK hP (ci := 9) (q0 := 0) rfl wm_0, pw_give hP hK hD⟩ rfl rfl hl.1 rfl (lv_room (Nat.le_of_ble_eq_true rfl)) dX9_lapses_18 ⟨Nat.le_of_ble_eq_true rfl, Nat.le_of_ble_eq_true rfl⟩) hS (fun q _ h => hF q h) hF (fun r_14 u t H1 locs ht hvm hw hB hz1 hk1 hS => ?_)
      subst hw
      obtain ⟨hP, hD⟩ := pw_back hF ht hB
      clear hB hk1 hz1 hF
      generalize H1 = H at hP hS ⊢
      have hJ_15 : ∀ (y0_15 : Int32)  (hz_15 : vp_nar .boolean y0_15 = y0_15) (H : Heap) (locs : List Loc) (ls : Array Slot), s_X9_lapses_j37 k_1 τ_1 y0_15 = S_1 → va_P D vwCl (WM ca h ad τ_1) H → va_D A (WM ca h ad τ_1) → va_S A s.heap H locs → lv_has ls 3 [(1, .int (nI k_1)), (0, .ref h)] → W p l e ((headSpec wsX9_lapses ({ frames := 2, cells := 0, slots := 0, locals := 45 })).room) s m ([.ref h] : List Value).toArray below meth c H locs 0 0 QQ (F0 m 37 ls [.int y0_15, .int (nI k_1), .ref (ad 34)]) := by
        intro y0_15 hz_15 H locs ls hB_1 hP hD hS hl
        have hB_1 : (s_X9_lapses_c42 k_1 (iterC (s_X9_lapses_l42 k_1) ((τ_1 5 0).toNatClampNeg - (k_1 + 1)) (k_1 + 1) (put τ_1 34 k_1 y0_15))) = S_1 := hB_1
        refine va_zast_k (k := k_1) hx hb hK hP hD hS 23 1 wm_a34 rfl (ix_cld hk_1) (ix_down (N := 60) hk_1 (ir_5 hI) (by decide) (by decide)) hz_15 dX9_lapses_37 (fun H locs hP hD hS => ?_)
        rw [wm_s34] at hP hD
        refine lv_iload_n hx hb dX9_lapses_38 rfl (lv_at hl 0 rfl) ?_
        refine lv_iconst (v := (1 : Int32)) hx hb dX9_lapses_39 (by decide) ?_
        refine lv_iadd hx hb dX9_lapses_40 ?_
        refine lv_istore_n (lv' := [(2, .int ((nI k_1) + (1 : Int32))), (1, .int (nI k_1)), (0, .ref h)]) hx hb dX9_lapses_41 rfl hl (by decide) rfl (fun ls hl => ?_)
        have hE_16 : ∀ (τ_16 : St) (hI_16 : IR τ_16) (H : Heap) (locs : List Loc) (ls : Array Slot), s_X9_lapses_c42 k_1 τ_16 = S_1 → va_P D vwCl (WM ca h ad τ_16) H → va_D A (WM ca h ad τ_16) → va_S A s.heap H locs → lv_has ls 3 [(1, .int (nI k_1)), (0, .ref h)] → W p l e ((headSpec wsX9_lapses ({ frames := 2, cells := 0, slots := 0, locals := 45 })).room) s m ([.ref h] : List Value).toArray below meth c H locs 0 0 QQ (F0 m 103 ls []) := by
          intro τ_16 hI_16 H locs ls hB_1 hP hD hS hl
          have hB_1 : (if (τ_16 34 k_1) = (0 : Int32) then τ_16 else (put τ_16 32 k_1 (τ_16 1 0))) = S_1 := hB_1
          refine lv_aload_n hx hb dX9_lapses_103 rfl (lv_at hl 1 rfl) ?_
          refine va_get (D := D) (ci := 9) (v := .ref (ad 34)) (C := RX9) (T := TX9) (N := 51) hx hb hts hu9 hown hK hP 0 wm_0 rfl 34 (by decide) (hts (.fieldLink RX9 77 "GrazeBookModel" "uses" "[Z") (List.mem_cons_of_mem _ mw_817)) (fun _ h9 => h9) rfl dX9_lapses_104 ?_
          refine lv_iload_n hx hb dX9_lapses_107 rfl (lv_at hl 0 rfl) ?_
          refine va_zald_k (k := k_1) (v := (τ_16 34 k_1)) hx hb hK hP 23 1 wm_a34 rfl (ix_cld hk_1) rfl (ix_down (N := 60) hk_1 (ir_5 hI) (by decide) (by decide)) dX9_lapses_108 ?_
          refine lv_if_eq (tgt := 122) hx hb dX9_lapses_109 (by decide) (fun c_17 => ?_) (fun c_17 => ?_)
          · have hB_1 := (if_pos c_17).symm.trans hB_1
            refine lv_iinc (v := ((nI k_1) + (-1 : Int32))) (lv' := [(1, .int ((nI k_1) + (-1 : Int32))), (0, .ref h)]) hx hb dX9_lapses_122 hl (k := 0) rfl (by rw [show Int32.ofInt (-1) = (-1 : Int32) from by decide]) (by decide) rfl (fun ls hl => ?_)
            refine lv_goto (tgt := 7) hx hb dX9_lapses_125 (by decide) ?_
            subst hB_1
            rw [m1_sub] at hl
            exact ih τ_16 (Nat.le_of_succ_le hk_1) hI_16 _ _ _ hR hP hD hS (lv_sub hl [0, 1] rfl)
          · have hB_1 := (if_neg c_17).symm.trans hB_1
            refine lv_aload_n hx hb dX9_lapses_112 rfl (lv_at hl 1 rfl) ?_
            refine va_get (D := D) (ci := 9) (v := .ref (ad 32)) (C := RX9) (T := TX9) (N := 51) hx hb hts hu9 hown hK hP 0 wm_0 rfl 32 (by decide) (hts (.fieldLink RX9 71 "GrazeBookModel" "rUsed" "[I") (List.mem_cons_of_mem _ mw_815)) (fun _ h9 => h9) rfl dX9_lapses_113 ?_
            refine lv_iload_n hx hb dX9_lapses_116 rfl (lv_at hl 0 rfl) ?_
            refine lv_aload_n hx hb dX9_lapses_117 rfl (lv_at hl 1 rfl) ?_
            refine va_get (D := D) (ci := 9) (v := .int (τ_16 1 0)) (C := RX9) (T := TX9) (N := 51) hx hb hts hu9 hown hK hP 0 wm_0 rfl 1 (by decide) (hts (.fieldLink RX9 141 "GrazeBookModel" "day" "I") (List.mem_cons_of_mem _ mw_784)) (fun _ h9 => h9) rfl dX9_lapses_118 ?_
            refine va_iast_k (k := k_1) hx hb hK hP hD hS 21 0 wm_a32 rfl (ix_cld hk_1) (ix_down (N := 60) hk_1 (ir_5 hI) (by decide) (by decide)) dX9_lapses_121 (fun H locs hP hD hS => ?_)
            rw [wm_s32] at hP hD
            refine lv_iinc (v := ((nI k_1) + (-1 : Int32))) (lv' := [(1, .int ((nI k_1) + (-1 : Int32))), (0, .ref h)]) hx hb dX9_lapses_122 hl (k := 0) rfl (by rw [show Int32.ofInt (-1) = (-1 : Int32) from by decide]) (by decide) rfl (fun ls hl => ?_)
            refine lv_goto (tgt := 7) hx hb dX9_lapses_125 (by decide) ?_
            subst hB_1
            rw [m1_sub] at hl
            exact ih (put τ_16 32 k_1 (τ_16 1 0)) (Nat.le_of_succ_le hk_1) hI_16 _ _ _ hR hP hD hS (lv_sub hl [0, 1] rfl)
        have hL_16 : ∀ (n k_16 : Nat) (τ_16 : St) (hk_16 : lpk (τ_16 5 0) k_16 n) (hI_16 : IR τ_16) (H : Heap) (locs : List Loc) (ls : Array Slot), s_X9_lapses_c42 k_1 (iterC (s_X9_lapses_l42 k_1) n k_16 τ_16) = S_1 → va_P D vwCl (WM ca h ad τ_16) H → va_D A (WM ca h ad τ_16) → va_S A s.heap H locs → lv_has ls 3 [(2, .int (nI k_16)), (1, .int (nI k_1)), (0, .ref h)] → W p l e ((headSpec wsX9_lapses ({ frames := 2, cells := 0, slots := 0, locals := 45 })).room) s m ([.ref h] : List Value).toArray below meth c H locs 0 0 QQ (F0 m 42 ls []) := by
          intro n
          induction n with
          | zero =>
            intro k_16 τ_16 hk_16 hI_16 H locs ls hB_1 hP hD hS hl
            refine lv_iload_n hx hb dX9_lapses_42 rfl (lv_at hl 0 rfl) ?_
            refine lv_aload_n hx hb dX9_lapses_43 rfl (lv_at hl 2 rfl) ?_
            refine va_get (D := D) (ci := 9) (v := .int (τ_16 5 0)) (C := RX9) (T := TX9) (N := 51) hx hb hts hu9 hown hK hP 0 wm_0 rfl 5 (by decide) (hts (.fieldLink RX9 148 "GrazeBookModel" "rights" "I") (List.mem_cons_of_mem _ mw_788)) (fun _ h9 => h9) rfl dX9_lapses_44 ?_
            refine lv_icmp_ge (tgt := 103) hx hb dX9_lapses_47 (by decide) (fun _ => ?_) (fun c_18 => absurd (ge_end hk_16) c_18)
            exact hE_16 τ_16 hI_16 _ _ _ hB_1 hP hD hS (lv_sub hl [1, 2] rfl)
          | succ n ih =>
            intro k_16 τ_16 hk_16 hI_16 H locs ls hB_1 hP hD hS hl
            obtain ⟨S_16, hB_16⟩ : ∃ s9, s_X9_lapses_l42 k_1 k_16 τ_16 = s9 := ⟨_, rfl⟩
            have hB_1 : s_X9_lapses_c42 k_1 (iterC1 (s_X9_lapses_l42 k_1) n k_16 τ_16 S_16) = S_1 := by rw [← hB_16]; exact hB_1
            have hB_16 : (if (s_X9_isInForce τ_16 (nI k_1)) = (0 : Int32) then none else (if (τ_16 34 k_1) = (0 : Int32) then (if (τ_16 31 k_16) = (nI k_1) then (if (τ_16 34 k_16) = (0 : Int32) then (some (put τ_16 34 k_1 (0 : Int32))) else (some (put τ_16 34 k_1 (1 : Int32)))) else (some (put τ_16 34 k_1 (0 : Int32)))) else (some (put τ_16 34 k_1 (1 : Int32))))) = S_16 := hB_16
            refine lv_iload_n hx hb dX9_lapses_42 rfl (lv_at hl 0 rfl) ?_
            refine lv_aload_n hx hb dX9_lapses_43 rfl (lv_at hl 2 rfl) ?_
            refine va_get (D := D) (ci := 9) (v := .int (τ_16 5 0)) (C := RX9) (T := TX9) (N := 51) hx hb hts hu9 hown hK hP 0 wm_0 rfl 5 (by decide) (hts (.fieldLink RX9 148 "GrazeBookModel" "rights" "I") (List.mem_cons_of_mem _ mw_788)) (fun _ h9 => h9) rfl dX9_lapses_44 ?_
            refine lv_icmp_ge (tgt := 103) hx hb dX9_lapses_47 (by decide) (fun c_19 => absurd c_19 (ge_go hk_16)) (fun _ => ?_)
            refine lv_aload_n hx hb dX9_lapses_50 rfl (lv_at hl 2 rfl) ?_
            refine lv_iload_n hx hb dX9_lapses_51 rfl (lv_at hl 1 rfl) ?_
            have hF := pw_free hD hS hA
            refine va_calli (va_runV (As := [.int (nI k_1)]) (rest := []) ⟨hx, hb, hml, hown, hts⟩ (k_X9_isInForce l D ca h ad τ_16 (nI k_1) H.size hI_16 (ix_down (N := 60) hk_1 (ir_5 hI) (by decide) (by decide)) _ rfl) (cwV 1 hts gX9_lapses_X9_isInForce rfl rfl rfl (by decide +kernel) ⟨Nat.le_of_ble_eq_true rfl, Nat.le_of_ble_eq_true rfl⟩) ⟨pw_blind, va_recv hK hP (ci := 9) (q0 := 0) rfl wm_0, pw_give hP hK hD⟩ rfl rfl hl.1 rfl (lv_room (Nat.le_of_ble_eq_true rfl)) dX9_lapses_52 ⟨Nat.le_of_ble_eq_true rfl, Nat.le_of_ble_eq_true rfl⟩) hS (fun q _ h => hF q h) hF (fun r_20 u t H1 locs ht hvm hw hB hz1 hk1 hS => ?_)
            subst hw
            obtain ⟨hP, hD⟩ := pw_back hF ht hB
            clear hB hk1 hz1 hF
            generalize H1 = H at hP hS ⊢
            refine lv_if_eq (tgt := 103) hx hb dX9_lapses_55 (by decide) (fun c_21 => ?_) (fun c_21 => ?_)
            · have hB_16 := (if_pos c_21).symm.trans hB_16
              subst hB_16
              exact hE_16 τ_16 hI_16 _ _ _ hB_1 hP hD hS (lv_sub hl [1, 2] rfl)
            · have hB_16 := (if_neg c_21).symm.trans hB_16
              refine lv_aload_n hx hb dX9_lapses_58 rfl (lv_at hl 2 rfl) ?_
              refine va_get (D := D) (ci := 9) (v := .ref (ad 34)) (C := RX9) (T := TX9) (N := 51) hx hb hts hu9 hown hK hP 0 wm_0 rfl 34 (by decide) (hts (.fieldLink RX9 77 "GrazeBookModel" "uses" "[Z") (List.mem_cons_of_mem _ mw_817)) (fun _ h9 => h9) rfl dX9_lapses_59 ?_
              refine lv_iload_n hx hb dX9_lapses_62 rfl (lv_at hl 1 rfl) ?_
              refine lv_aload_n hx hb dX9_lapses_63 rfl (lv_at hl 2 rfl) ?_
              refine va_get (D := D) (ci := 9) (v := .ref (ad 34)) (C := RX9) (T := TX9) (N := 51) hx hb hts hu9 hown hK hP 0 wm_0 rfl 34 (by decide) (hts (.fieldLink RX9 77 "GrazeBookModel" "uses" "[Z") (List.mem_cons_of_mem _ mw_817)) (fun _ h9 => h9) rfl dX9_lapses_64 ?_
              refine lv_iload_n hx hb dX9_lapses_67 rfl (lv_at hl 1 rfl) ?_
              refine va_zald_k (k := k_1) (v := (τ_16 34 k_1)) hx hb hK hP 23 1 wm_a34 rfl (ix_cld hk_1) rfl (ix_down (N := 60) hk_1 (ir_5 hI) (by decide) (by decide)) dX9_lapses_68 ?_
              refine lv_if_ne (tgt := 91) hx hb dX9_lapses_69 (by decide) (fun c_22 => ?_) (fun c_22 => ?_)
              · have hB_16 := (if_neg c_22).symm.trans hB_16
                refine lv_iconst (v := (1 : Int32)) hx hb dX9_lapses_91 (by decide) ?_
                refine lv_goto (tgt := 96) hx hb dX9_lapses_92 (by decide) ?_
                refine va_zast_k (k := k_1) hx hb hK hP hD hS 23 1 wm_a34 rfl (ix_cld hk_1) (ix_down (N := 60) hk_1 (ir_5 hI) (by decide) (by decide)) (by decide) dX9_lapses_96 (fun H locs hP hD hS => ?_)
                rw [wm_s34] at hP hD
                refine lv_iinc (v := (nI (k_16 + 1))) (lv' := [(2, .int (nI (k_16 + 1))), (1, .int (nI k_1)), (0, .ref h)]) hx hb dX9_lapses_97 hl (k := 0) rfl (by rw [show Int32.ofInt 1 = 1 from by decide]; exact nI_1 _) (by decide) rfl (fun ls hl => ?_)
                refine lv_goto (tgt := 42) hx hb dX9_lapses_100 (by decide) ?_
                subst hB_16
                exact ih (k_16 + 1) (put τ_16 34 k_1 (1 : Int32)) (ge_next hk_16) hI_16 _ _ _ hB_1 hP hD hS (lv_sub hl [0, 1, 2] rfl)
              · have hB_16 := (if_pos c_22).symm.trans hB_16
                refine lv_aload_n hx hb dX9_lapses_72 rfl (lv_at hl 2 rfl) ?_
                refine va_get (D := D) (ci := 9) (v := .ref (ad 31)) (C := RX9) (T := TX9) (N := 51) hx hb hts hu9 hown hK hP 0 wm_0 rfl 31 (by decide) (hts (.fieldLink RX9 68 "GrazeBookModel" "rOf" "[I") (List.mem_cons_of_mem _ mw_814)) (fun _ h9 => h9) rfl dX9_lapses_73 ?_
                refine lv_iload_n hx hb dX9_lapses_76 rfl (lv_at hl 0 rfl) ?_
                refine va_iald_k (k := k_16) (v := (τ_16 31 k_16)) hx hb hK hP 20 0 wm_a31 rfl (ix_cl hk_16) rfl (ix_loop (N := 60) hk_16 (ir_5 hI_16) (by decide) (by decide)) dX9_lapses_77 ?_
                refine lv_iload_n hx hb dX9_lapses_78 rfl (lv_at hl 1 rfl) ?_
                refine lv_icmp_ne (tgt := 95) hx hb dX9_lapses_79 (by decide) (fun c_23 => ?_) (fun c_23 => ?_)
                · have hB_16 := (if_neg c_23).symm.trans hB_16
                  refine lv_iconst (v := (0 : Int32)) hx hb dX9_lapses_95 (by decide) ?_
                  refine va_zast_k (k := k_1) hx hb hK hP hD hS 23 1 wm_a34 rfl (ix_cld hk_1) (ix_down (N := 60) hk_1 (ir_5 hI) (by decide) (by decide)) (by decide) dX9_lapses_96 (fun H locs hP hD hS => ?_)
                  rw [wm_s34] at hP hD
                  refine lv_iinc (v := (nI (k_16 + 1))) (lv' := [(2, .int (nI (k_16 + 1))), (1, .int (nI k_1)), (0, .ref h)]) hx hb dX9_lapses_97 hl (k := 0) rfl (by rw [show Int32.ofInt 1 = 1 from by decide]; exact nI_1 _) (by decide) rfl (fun ls hl => ?_)
                  refine lv_goto (tgt := 42) hx hb dX9_lapses_100 (by decide) ?_
                  subst hB_16
                  exact ih (k_16 + 1) (put τ_16 34 k_1 (0 : Int32)) (ge_next hk_16) hI_16 _ _ _ hB_1 hP hD hS (lv_sub hl [0, 1, 2] rfl)
                · have hB_16 := (if_pos c_23).symm.trans hB_16
                  refine lv_aload_n hx hb dX9_lapses_82 rfl (lv_at hl 2 rfl) ?_
                  refine va_get (D := D) (ci := 9) (v := .ref (ad 34)) (C := RX9) (T := TX9) (N := 51) hx hb hts hu9 hown hK hP 0 wm_0 rfl 34 (by decide) (hts (.fieldLink RX9 77 "GrazeBookModel" "uses" "[Z") (List.mem_cons_of_mem _ mw_817)) (fun _ h9 => h9) rfl dX9_lapses_83 ?_
                  refine lv_iload_n hx hb dX9_lapses_86 rfl (lv_at hl 0 rfl) ?_
                  refine va_zald_k (k := k_16) (v := (τ_16 34 k_16)) hx hb hK hP 23 1 wm_a34 rfl (ix_cl hk_16) rfl (ix_loop (N := 60) hk_16 (ir_5 hI_16) (by decide) (by decide)) dX9_lapses_87 ?_
                  refine lv_if_eq (tgt := 95) hx hb dX9_lapses_88 (by decide) (fun c_24 => ?_) (fun c_24 => ?_)
                  · have hB_16 := (if_pos c_24).symm.trans hB_16
                    refine lv_iconst (v := (0 : Int32)) hx hb dX9_lapses_95 (by decide) ?_
                    refine va_zast_k (k := k_1) hx hb hK hP hD hS 23 1 wm_a34 rfl (ix_cld hk_1) (ix_down (N := 60) hk_1 (ir_5 hI) (by decide) (by decide)) (by decide) dX9_lapses_96 (fun H locs hP hD hS => ?_)
                    rw [wm_s34] at hP hD
                    refine lv_iinc (v := (nI (k_16 + 1))) (lv' := [(2, .int (nI (k_16 + 1))), (1, .int (nI k_1)), (0, .ref h)]) hx hb dX9_lapses_97 hl (k := 0) rfl (by rw [show Int32.ofInt 1 = 1 from by decide]; exact nI_1 _) (by decide) rfl (fun ls hl => ?_)
                    refine lv_goto (tgt := 42) hx hb dX9_lapses_100 (by decide) ?_
                    subst hB_16
                    exact ih (k_16 + 1) (put τ_16 34 k_1 (0 : Int32)) (ge_next hk_16) hI_16 _ _ _ hB_1 hP hD hS (lv_sub hl [0, 1, 2] rfl)
                  · have hB_16 := (if_neg c_24).symm.trans hB_16
                    refine lv_iconst (v := (1 : Int32)) hx hb dX9_lapses_91 (by decide) ?_
                    refine lv_goto (tgt := 96) hx hb dX9_lapses_92 (by decide) ?_
                    refine va_zast_k (k := k_1) hx hb hK hP hD hS 23 1 wm_a34 rfl (ix_cld hk_1) (ix_down (N := 60) hk_1 (ir_5 hI) (by decide) (by decide)) (by decide) dX9_lapses_96 (fun H locs hP hD hS => ?_)
                    rw [wm_s34] at hP hD
                    refine lv_iinc (v := (nI (k_16 + 1))) (lv' := [(2, .int (nI (k_16 + 1))), (1, .int (nI k_1)), (0, .ref h)]) hx hb dX9_lapses_97 hl (k := 0) rfl (by rw [show Int32.ofInt 1 = 1 from by decide]; exact nI_1 _) (by decide) rfl (fun ls hl => ?_)
                    refine lv_goto (tgt := 42) hx hb dX9_lapses_100 (by decide) ?_
                    subst hB_16
                    exact ih (k_16 + 1) (put τ_16 34 k_1 (1 : Int32)) (ge_next hk_16) hI_16 _ _ _ hB_1 hP hD hS (lv_sub hl [0, 1, 2] rfl)
        rw [nI_1] at hl
        exact hL_16 _ (k_1 + 1) (put τ_1 34 k_1 y0_15) ⟨rfl, Nat.lt_of_le_of_lt hk_1 (tn_lt _)⟩ hI_1 _ _ _ hB_1 hP hD hS (lv_sub hl [0, 1, 2] rfl)
      refine lv_if_le (tgt := 36) hx hb dX9_lapses_21 (by decide) (fun c_25 => ?_) (fun c_25 => ?_)
      · have hB_1 := (if_pos c_25).symm.trans hB_1
        refine lv_iconst (v := (0 : Int32)) hx hb dX9_lapses_36 (by decide) ?_
        exact hJ_15 (0 : Int32) (by decide) _ _ _ hB_1 hP hD hS (lv_sub hl [0, 1] rfl)
      · have hB_1 := (if_neg c_25).symm.trans hB_1
        refine lv_aload_n hx hb dX9_lapses_24 rfl (lv_at hl 1 rfl) ?_
        refine lv_iload_n hx hb dX9_lapses_25 rfl (lv_at hl 0 rfl) ?_
        have hF := pw_free hD hS hA
        refine va_calli (va_runV (As := [.int (nI k_1)]) (rest := [.int (nI k_1), .ref (ad 34)]) ⟨hx, hb, hml, hown, hts⟩ (k_X9_isAsked l D ca h ad τ_1 (nI k_1) H.size hI_1 (ix_down (N := 60) hk_1 (ir_5 hI) (by decide) (by decide)) _ rfl) (cwV 1 hts gX9_lapses_X9_isAsked rfl rfl rfl (by decide +kernel) ⟨Nat.le_of_ble_eq_true rfl, Nat.le_of_ble_eq_true rfl⟩) ⟨pw_blind, va_recv hK hP (ci := 9) (q0 := 0) rfl wm_0, pw_give hP hK hD⟩ rfl rfl hl.1 rfl (lv_room (Nat.le_of_ble_eq_true rfl)) dX9_lapses_26 ⟨Nat.le_of_ble_eq_true rfl, Nat.le_of_ble_eq_true rfl⟩) hS (fun q _ h => hF q h) hF (fun r_26 u t H1 locs ht hvm hw hB hz1 hk1 hS => ?_)
        subst hw
        obtain ⟨hP, hD⟩ := pw_back hF ht hB
        clear hB hk1 hz1 hF
        generalize H1 = H at hP hS ⊢
        refine lv_if_eq (tgt := 36) hx hb dX9_lapses_29 (by decide) (fun c_27 => ?_) (fun c_27 => ?_)
        · have hB_1 := (if_pos c_27).symm.trans hB_1
          refine lv_iconst (v := (0 : Int32)) hx hb dX9_lapses_36 (by decide) ?_
          exact hJ_15 (0 : Int32) (by decide) _ _ _ hB_1 hP hD hS (lv_sub hl [0, 1] rfl)
        · have hB_1 := (if_neg c_27).symm.trans hB_1
          refine lv_iconst (v := (1 : Int32)) hx hb dX9_lapses_32 (by decide) ?_
          refine lv_goto (tgt := 37) hx hb dX9_lapses_33 (by decide) ?_
          exact hJ_15 (1 : Int32) (by decide) _ _ _ hB_1 hP hD hS (lv_sub hl [0, 1] rfl)
  rw [dn_eq (ir_5 hI).1] at hl
  exact hL_1 _ σ (Nat.le_refl _) hI _ _ _ hR hP hD hS (lv_sub hl [0, 1] rfl)

def s_X9_planned (σ : St) (a1 : Int32) (a2 : Int32) : Int32 := (if (s_X9_isIn a1 (σ 49 0)) = (0 : Int32) then (-9 : Int32) else (if (s_X9_isIn a2 (σ 50 0)) = (0 : Int32) then (-9 : Int32) else (σ 48 ((((σ 50 0) * a1) + a2).toNatClampNeg))))
set_option maxHeartbeats 1000000 in
set_option maxRecDepth 100000 in
theorem k_X9_planned (l : Launch) (D : va_G) (ca : Nat → ClassId) (h : Nat) (ad : Nat → Nat) (σ : St) (a1 : Int32) (a2 : Int32) (sz : Nat) (hI : IR σ)  (R : Int32) (hR : s_X9_planned σ a1 a2 = R) : Met l yX9_planned wsX9_planned ({ frames := 1, cells := 0, slots := 0, locals := 21 }) (va_Pc [.ref h, .int a1, .int a2] (pw_pre D ca (WM ca h ad σ) sz)) (va_Qi (fun (r : Int32) (_ : Unit) => r = R) (fun (_ : Unit) (t : State) => pw_post D ca (WM ca h ad σ) sz (WM ca h ad σ) t) (va_A (WM ca h ad σ) sz)) 0 0 (va_A (WM ca h ad σ) sz) := by
  refine Met.ofW (cc := cX9_planned) (maxL := 3) (ret := (some .int)) (by decide) rfl ?_
  intro p e s m args below meth c s₁ B hml hv
  obtain ⟨rfl, hsz, hP, hK, hD0⟩ := hv
  have hx := B.exec
  have hb := B.bytes
  have hr := B.returns
  have hts := atoms_spec (ws := wsX9_planned) B.pre
  have hown : s.vm.findClass RX9 = some m.cls := findClass_of_methodNamed B.named
  have hlocks := B.notSynchronized
  have hu9 : ∀ w ∈ u_ws RX9 TX9 51, w ∈ wsX9_planned := fun w h => List.mem_cons_of_mem _ (uw9 w h)
  subst hsz
  have hD := hD0.self (sz := s.heap.size)
  obtain ⟨A, hAe⟩ : ∃ A, A = va_A (WM ca h ad σ) s.heap.size := ⟨_, rfl⟩
  rw [← hAe] at hD ⊢
  have hA : ∀ q : Nat, s.heap.size ≤ q → A q := fun q h => by rw [hAe]; exact Or.inr h
  have hS : va_S A s.heap s.heap [] := va_S.rf
  have hl := lv_entry ([.ref h, .int a1, .int a2]) (n := 3) (Nat.le_of_ble_eq_true rfl)
  rw [lg_entry_eq]
  generalize (lg_sl ([.ref h, .int a1, .int a2]) ++ List.replicate (3 - (lg_sl ([.ref h, .int a1, .int a2])).length) Slot.unset).toArray = ls at hl ⊢
  have hl : lv_has ls 3 [(0, .ref h), (1, .int a1), (2, .int a2)] := hl
  obtain ⟨H, hH⟩ : ∃ H, H = s.heap := ⟨_, rfl⟩
  have hP : va_P D vwCl (WM ca h ad σ) H := by rw [hH]; exact hP
  have hS : va_S A s.heap H [] := by rw [hH]; exact hS
  obtain ⟨QQ, hQ⟩ : ∃ Q9, Q9 = MQ below (va_Qi (fun (r : Int32) (_ : Unit) => r = R) (fun (_ : Unit) (t : State) => pw_post D ca (WM ca h ad σ) s.heap.size (WM ca h ad σ) t) A) ([.ref h, .int a1, .int a2] : List Value).toArray s 0 0 A := ⟨_, rfl⟩
  rw [← hQ]
  show W _ _ _ _ _ _ _ _ _ _ s.heap _ _ _ _ _
  rw [← hH]
  have hR : (if (s_X9_isIn a1 (σ 49 0)) = (0 : Int32) then (-9 : Int32) else (if (s_X9_isIn a2 (σ 50 0)) = (0 : Int32) then (-9 : Int32) else (σ 48 ((((σ 50 0) * a1) + a2).toNatClampNeg)))) = R := hR
  refine lv_iload_n hx hb dX9_planned_0 rfl (lv_at hl 1 rfl) ?_
  refine lv_aload_n hx hb dX9_planned_1 rfl (lv_at hl 0 rfl) ?_
  refine va_get (D := D) (ci := 9) (v := .int (σ 49 0)) (C := RX9) (T := TX9) (N := 51) hx hb hts hu9 hown hK hP 0 wm_0 rfl 49 (by decide) (hts (.fieldLink RX9 250 "GrazeBookModel" "planSteps" "I") (List.mem_cons_of_mem _ mw_832)) (fun _ h9 => h9) rfl dX9_planned_2 ?_
  have hF := pw_free (pn_D (A := A)) hS hA
  refine va_calli (va_runS (As := [.int a1, .int (σ 49 0)]) (rest := []) ⟨hx, hb, hml, hown, hts⟩ (k_X9_isIn l D ca a1 (σ 49 0) H.size _ rfl) (va_cwS 2 hts gX9_planned_X9_isIn rfl rfl rfl (by decide +kernel) ⟨Nat.le_of_ble_eq_true rfl, Nat.le_of_ble_eq_true rfl⟩) ⟨pw_blind, pw_give pn_P hK (pn_D (A := A))⟩ rfl rfl hl.1 rfl (lv_room (Nat.le_of_ble_eq_true rfl)) dX9_planned_5 ⟨Nat.le_of_ble_eq_true rfl, Nat.le_of_ble_eq_true rfl⟩) hS (fun q _ h => hF q h) hF (fun r_1 u t H1 locs ht hvm hw hB hz1 hk1 hS => ?_)
  subst hw
  have hP := pn_back hP hk1
  clear hB hk1 hz1 hF
  generalize H1 = H at hP hS ⊢
  refine lv_if_eq (tgt := 38) hx hb dX9_planned_8 (by decide) (fun c_2 => ?_) (fun c_2 => ?_)
  · have hR := (if_pos c_2).symm.trans hR
    refine lv_bipush (v := (-9 : Int32)) hx hb dX9_planned_38 (by decide) ?_
    subst hR
    rw [hQ]
    exact W.iret (v := (-9 : Int32)) hx hb hr (fun t ht hW => ⟨⟨(-9 : Int32), (), rfl, rfl, ⟨by rw [ht]; exact hP, va_K.moved hW.alike hK, by rw [← hAe]; exact hD⟩⟩, hS.F ht⟩) hS.2.2 dX9_planned_40
  · have hR := (if_neg c_2).symm.trans hR
    refine lv_iload_n hx hb dX9_planned_11 rfl (lv_at hl 2 rfl) ?_
    refine lv_aload_n hx hb dX9_planned_12 rfl (lv_at hl 0 rfl) ?_
    refine va_get (D := D) (ci := 9) (v := .int (σ 50 0)) (C := RX9) (T := TX9) (N := 51) hx hb hts hu9 hown hK hP 0 wm_0 rfl 50 (by decide) (hts (.fieldLink RX9 253 "GrazeBookModel" "planHerds" "I") (List.mem_cons_of_mem _ mw_833)) (fun _ h9 => h9) rfl dX9_planned_13 ?_
    have hF := pw_free (pn_D (A := A)) hS hA
    refine va_calli (va_runS (As := [.int a2, .int (σ 50 0)]) (rest := []) ⟨hx, hb, hml, hown, hts⟩ (k_X9_isIn l D ca a2 (σ 50 0) H.size _ rfl) (va_cwS 2 hts gX9_planned_X9_isIn rfl rfl rfl (by decide +kernel) ⟨Nat.le_of_ble_eq_true rfl, Nat.le_of_ble_eq_true rfl⟩) ⟨pw_blind, pw_give pn_P hK (pn_D (A := A))⟩ rfl rfl hl.1 rfl (lv_room (Nat.le_of_ble_eq_true rfl)) dX9_planned_16 ⟨Nat.le_of_ble_eq_true rfl, Nat.le_of_ble_eq_true rfl⟩) hS (fun q _ h => hF q h) hF (fun r_3 u t H1 locs ht hvm hw hB hz1 hk1 hS => ?_)
    subst hw
    have hP := pn_back hP hk1
    clear hB hk1 hz1 hF
    generalize H1 = H at hP hS ⊢
    refine lv_if_eq (tgt := 38) hx hb dX9_planned_19 (by decide) (fun c_4 => ?_) (fun c_4 => ?_)
    · have hR := (if_pos c_4).symm.trans hR
      refine lv_bipush (v := (-9 : Int32)) hx hb dX9_planned_38 (by decide) ?_
      subst hR
      rw [hQ]
      exact W.iret (v := (-9 : Int32)) hx hb hr (fun t ht hW => ⟨⟨(-9 : Int32), (), rfl, rfl, ⟨by rw [ht]; exact hP, va_K.moved hW.alike hK, by rw [← hAe]; exact hD⟩⟩, hS.F ht⟩) hS.2.2 dX9_planned_40
    · have hR := (if_neg c_4).symm.trans hR
      refine lv_aload_n hx hb dX9_planned_22 rfl (lv_at hl 0 rfl) ?_
      refine va_get (D := D) (ci := 9) (v := .ref (ad 48)) (C := RX9) (T := TX9) (N := 51) hx hb hts hu9 hown hK hP 0 wm_0 rfl 48 (by decide) (hts (.fieldLink RX9 119 "GrazeBookModel" "best" "[I") (List.mem_cons_of_mem _ mw_831)) (fun _ h9 => h9) rfl dX9_planned_23 ?_
      refine lv_aload_n hx hb dX9_planned_26 rfl (lv_at hl 0 rfl) ?_
      refine va_get (D := D) (ci := 9) (v := .int (σ 50 0)) (C := RX9) (T := TX9) (N := 51) hx hb hts hu9 hown hK hP 0 wm_0 rfl 50 (by decide) (hts (.fieldLink RX9 253 "GrazeBookModel" "planHerds" "I") (List.mem_cons_of_mem _ mw_833)) (fun _ h9 => h9) rfl dX9_planned_27 ?_
      refine lv_iload_n hx hb dX9_planned_30 rfl (lv_at hl 1 rfl) ?_
      refine lv_imul hx hb dX9_planned_31 ?_
      refine lv_iload_n hx hb dX9_planned_32 rfl (lv_at hl 2 rfl) ?_
      refine lv_iadd hx hb dX9_planned_33 ?_
      refine va_iald_k (k := ((((σ 50 0) * a1) + a2).toNatClampNeg)) (v := (σ 48 ((((σ 50 0) * a1) + a2).toNatClampNeg))) hx hb hK hP 37 0 wm_a48 rfl rfl rfl (ix_plan c_2 c_4 (ir_49 hI)) dX9_planned_34 ?_
      refine lv_goto (tgt := 40) hx hb dX9_planned_35 (by decide) ?_
      subst hR
      rw [hQ]
      exact W.iret (v := (σ 48 ((((σ 50 0) * a1) + a2).toNatClampNeg))) hx hb hr (fun t ht hW => ⟨⟨(σ 48 ((((σ 50 0) * a1) + a2).toNatClampNeg)), (), rfl, rfl, ⟨by rw [ht]; exact hP, va_K.moved hW.alike hK, by rw [← hAe]; exact hD⟩⟩, hS.F ht⟩) hS.2.2 dX9_planned_40

def s_X9_pieceOf_c101 (σ : St) : Int32 → Int32 × St := fun x9 => match x9 with
  | v3_10 => (v3_10, σ)
def s_X9_pieceOf_l101 (σ : St) (a1 : Int32) (k_10 : Nat) : Int32 → Int32 := fun x9 => match x9 with
  | v3_10 => (if (s_X9_isOut σ (nI k_10)) = (0 : Int32) then (v3_10 + (0 : Int32)) else (if (σ 38 k_10) = a1 then (v3_10 + (1 : Int32)) else (v3_10 + (0 : Int32))))
def s_X9_pieceOf (σ : St) (a1 : Int32) (a2 : Int32) : Int32 × St := (if (s_X9_isIn a1 (σ 2 0)) = (0 : Int32) then (((s_X9_refuse σ (-1 : Int32)).1), (s_X9_refuse σ (-1 : Int32)).2) else (if a2 = (0 : Int32) then ((σ 13 (a1.toNatClampNeg)), σ) else (if a2 = (1 : Int32) then ((σ 14 (a1.toNatClampNeg)), σ) else (if a2 = (2 : Int32) then ((σ 15 (a1.toNatClampNeg)), σ) else (if a2 = (3 : Int32) then ((σ 16 (a1.toNatClampNeg)), σ) else (if a2 = (4 : Int32) then ((s_X9_partsOn σ a1), σ) else (if a2 = (5 : Int32) then (s_X9_pieceOf_c101 σ (iter (s_X9_pieceOf_l101 σ a1) ((σ 6 0).toNatClampNeg - 0) 0 (0 : Int32))) else (if a2 = (6 : Int32) then ((σ 17 (a1.toNatClampNeg)), σ) else (((s_X9_refuse σ (-2 : Int32)).1), (s_X9_refuse σ (-2 : Int32)).2)))))))))
theorem fr_s_X9_pieceOf_c101 (σ : St) (s : Int32) {f : Nat} (h0 : f ≠ 0) : (s_X9_pieceOf_c101 σ s).2 f = σ f := by
  unfold s_X9_pieceOf_c101
  all_goals ((try dsimp only) <;> ((repeat' split) <;> (try simp only [put_fr, ne_eq, not_false_eq_true, h0, fr_s_X9_refuse])))
theorem fr_s_X9_pieceOf (σ : St) (a1 : Int32) (a2 : Int32) {f : Nat} (h0 : f ≠ 0) : (s_X9_pieceOf σ a1 a2 ).2 f = σ f := by
  unfold s_X9_pieceOf
  all_goals ((try dsimp only) <;> ((repeat' split) <;> (try simp only [put_fr, ne_eq, not_false_eq_true, h0, fr_s_X9_refuse, fr_s_X9_pieceOf_c101])))
set_option maxHeartbeats 1000000 in
set_option maxRecDepth 100000 in
theorem k_X9_pieceOf (l : Launch) (D : va_G) (ca : Nat → ClassId) (h : Nat) (ad : Nat → Nat) (σ : St) (a1 : Int32) (a2 : Int32) (sz : Nat) (hI : IR σ)  (R : Int32 × St) (hR : s_X9_pieceOf σ a1 a2 = R) : Met l yX9_pieceOf wsX9_pieceOf ({ frames := 3, cells := 0, slots := 0, locals := 64 }) (va_Pc [.ref h, .int a1, .int a2] (pw_pre D ca (WM ca h ad σ) sz)) (va_Qi (fun (r : Int32) (_ : Unit) => r = R.1) (fun (_ : Unit) (t : State) => pw_post D ca (WM ca h ad σ) sz (WM ca h ad (R.2)) t ∧ IR R.2) (va_A (WM ca h ad σ) sz)) 0 0 (va_A (WM ca h ad σ) sz) := by
  refine Met.ofW (cc := cX9_pieceOf) (maxL := 5) (ret := (some .int)) (by decide) rfl ?_
  intro p e s m args below meth c s₁ B hml hv
  obtain ⟨rfl, hsz, hP, hK, hD0⟩ := hv
  have hx := B.exec
  have hb := B.bytes
  have hr := B.returns
  have hts := atoms_spec (ws := wsX9_pieceOf) B.pre
  have hown : s.vm.findClass RX9 = some m.cls := findClass_of_methodNamed B.named
  have hlocks := B.notSynchronized
  have hu9 : ∀ w ∈ u_ws RX9 TX9 51, w ∈ wsX9_pieceOf := fun w h => List.mem_cons_of_mem _ (uw9 w h)
  subst hsz
  have hD := hD0.self (sz := s.heap.size)
  obtain ⟨A, hAe⟩ : ∃ A, A = va_A (WM ca h ad σ) s.heap.size := ⟨_, rfl⟩
  rw [← hAe] at hD ⊢
  have hA : ∀ q : Nat, s.heap.size ≤ q → A q := fun q h => by rw [hAe]; exact Or.inr h
  have hS : va_S A s.heap s.heap [] := va_S.rf
  have hl := lv_entry ([.ref h, .int a1, .int a2]) (n := 5) (Nat.le_of_ble_eq_true rfl)
  rw [lg_entry_eq]
  generalize (lg_sl ([.ref h, .int a1, .int a2]) ++ List.replicate (5 - (lg_sl ([.ref h, .int a1, .int a2])).length) Slot.unset).toArray = ls at hl ⊢
  have hl : lv_has ls 5 [(0, .ref h), (1, .int a1), (2, .int a2)] := hl
  obtain ⟨H, hH⟩ : ∃ H, H = s.heap := ⟨_, rfl⟩
  have hP : va_P D vwCl (WM ca h ad σ) H := by rw [hH]; exact hP
  have hS : va_S A s.heap H [] := by rw [hH]; exact hS
  obtain ⟨QQ, hQ⟩ : ∃ Q9, Q9 = MQ below (va_Qi (fun (r : Int32) (_ : Unit) => r = R.1) (fun (_ : Unit) (t : State) => pw_post D ca (WM ca h ad σ) s.heap.size (WM ca h ad (R.2)) t ∧ IR R.2) A) ([.ref h, .int a1, .int a2] : List Value).toArray s 0 0 A := ⟨_, rfl⟩
  rw [← hQ]
  show W _ _ _ _ _ _ _ _ _ _ s.heap _ _ _ _ _
  rw [← hH]
  have hR : (if (s_X9_isIn a1 (σ 2 0)) = (0 : Int32) then (((s_X9_refuse σ (-1 : Int32)).1), (s_X9_refuse σ (-1 : Int32)).2) else (if a2 = (0 : Int32) then ((σ 13 (a1.toNatClampNeg)), σ) else (if a2 = (1 : Int32) then ((σ 14 (a1.toNatClampNeg)), σ) else (if a2 = (2 : Int32) then ((σ 15 (a1.toNatClampNeg)), σ) else (if a2 = (3 : Int32) then ((σ 16 (a1.toNatClampNeg)), σ) else (if a2 = (4 : Int32) then ((s_X9_partsOn σ a1), σ) else (if a2 = (5 : Int32) then (s_X9_pieceOf_c101 σ (iter (s_X9_pieceOf_l101 σ a1) ((σ 6 0).toNatClampNeg - 0) 0 (0 : Int32))) else (if a2 = (6 : Int32) then ((σ 17 (a1.toNatClampNeg)), σ) else (((s_X9_refuse σ (-2 : Int32)).1), (s_X9_refuse σ (-2 : Int32)).2))))))))) = R := hR
  refine lv_iload_n hx hb dX9_pieceOf_0 rfl (lv_at hl 1 rfl) ?_
  refine lv_aload_n hx hb dX9_pieceOf_1 rfl (lv_at hl 0 rfl) ?_
  refine va_get (D := D) (ci := 9) (v := .int (σ 2 0)) (C := RX9) (T := TX9) (N := 51) hx hb hts hu9 hown hK hP 0 wm_0 rfl 2 (by decide) (hts (.fieldLink RX9 127 "GrazeBookModel" "pieces" "I") (List.mem_cons_of_mem _ mw_785)) (fun _ h9 => h9) rfl dX9_pieceOf_2 ?_
  have hF := pw_free (pn_D (A := A)) hS hA
  refine va_calli (va_runS (As := [.int a1, .int (σ 2 0)]) (rest := []) ⟨hx, hb, hml, hown, hts⟩ (k_X9_isIn l D ca a1 (σ 2 0) H.size _ rfl) (va_cwS 2 hts gX9_pieceOf_X9_isIn rfl rfl rfl (by decide +kernel) ⟨Nat.le_of_ble_eq_true rfl, Nat.le_of_ble_eq_true rfl⟩) ⟨pw_blind, pw_give pn_P hK (pn_D (A := A))⟩ rfl rfl hl.1 rfl (lv_room (Nat.le_of_ble_eq_true rfl)) dX9_pieceOf_5 ⟨Nat.le_of_ble_eq_true rfl, Nat.le_of_ble_eq_true rfl⟩) hS (fun q _ h => hF q h) hF (fun r_1 u t H1 locs ht hvm hw hB hz1 hk1 hS => ?_)
  subst hw
  have hP := pn_back hP hk1
  clear hB hk1 hz1 hF
  generalize H1 = H at hP hS ⊢
  refine lv_if_ne (tgt := 17) hx hb dX9_pieceOf_8 (by decide) (fun c_2 => ?_) (fun c_2 => ?_)
  · have hR := (if_neg c_2).symm.trans hR
    refine lv_iconst (v := (0 : Int32)) hx hb dX9_pieceOf_17 (by decide) ?_
    refine lv_istore_n (lv' := [(3, .int (0 : Int32)), (0, .ref h), (1, .int a1), (2, .int a2)]) hx hb dX9_pieceOf_18 rfl hl (by decide) rfl (fun ls hl => ?_)
    refine lv_iload_n hx hb dX9_pieceOf_19 rfl (lv_at hl 3 rfl) ?_
    by_cases c_3 : a2 = (0 : Int32)
    · have hR := (if_pos c_3).symm.trans hR
      refine lv_tableIn (tgt := 64) hx hb dX9_pieceOf_20 (by rw [c_3]; decide) (by rw [c_3]; decide) (by rw [c_3]; rfl) (by decide) ?_
      refine lv_aload_n hx hb dX9_pieceOf_64 rfl (lv_at hl 1 rfl) ?_
      refine va_get (D := D) (ci := 9) (v := .ref (ad 13)) (C := RX9) (T := TX9) (N := 51) hx hb hts hu9 hown hK hP 0 wm_0 rfl 13 (by decide) (hts (.fieldLink RX9 13 "GrazeBookModel" "grass" "[I") (List.mem_cons_of_mem _ mw_796)) (fun _ h9 => h9) rfl dX9_pieceOf_65 ?_
      refine lv_iload_n hx hb dX9_pieceOf_68 rfl (lv_at hl 2 rfl) ?_
      refine va_iald_k (k := (a1.toNatClampNeg)) (v := (σ 13 (a1.toNatClampNeg))) hx hb hK hP 2 0 wm_a13 rfl rfl rfl (ix_isIn c_2 (ir_2 hI)) dX9_pieceOf_69 ?_
      have hI9 : IR σ := hI
      subst hR
      rw [hQ]
      exact W.iret (v := (σ 13 (a1.toNatClampNeg))) hx hb hr (fun t ht hW => ⟨⟨(σ 13 (a1.toNatClampNeg)), (), rfl, rfl, ⟨by rw [ht]; exact hP, va_K.moved hW.alike hK, by rw [← hAe]; exact hD⟩, hI9⟩, hS.F ht⟩) hS.2.2 dX9_pieceOf_70
    have hR := (if_neg c_3).symm.trans hR
    by_cases c_4 : a2 = (1 : Int32)
    · have hR := (if_pos c_4).symm.trans hR
      refine lv_tableIn (tgt := 71) hx hb dX9_pieceOf_20 (by rw [c_4]; decide) (by rw [c_4]; decide) (by rw [c_4]; rfl) (by decide) ?_
      refine lv_aload_n hx hb dX9_pieceOf_71 rfl (lv_at hl 1 rfl) ?_
      refine va_get (D := D) (ci := 9) (v := .ref (ad 14)) (C := RX9) (T := TX9) (N := 51) hx hb hts hu9 hown hK hP 0 wm_0 rfl 14 (by decide) (hts (.fieldLink RX9 16 "GrazeBookModel" "full" "[I") (List.mem_cons_of_mem _ mw_797)) (fun _ h9 => h9) rfl dX9_pieceOf_72 ?_
      refine lv_iload_n hx hb dX9_pieceOf_75 rfl (lv_at hl 2 rfl) ?_
      refine va_iald_k (k := (a1.toNatClampNeg)) (v := (σ 14 (a1.toNatClampNeg))) hx hb hK hP 3 0 wm_a14 rfl rfl rfl (ix_isIn c_2 (ir_2 hI)) dX9_pieceOf_76 ?_
      have hI9 : IR σ := hI
      subst hR
      rw [hQ]
      exact W.iret (v := (σ 14 (a1.toNatClampNeg))) hx hb hr (fun t ht hW => ⟨⟨(σ 14 (a1.toNatClampNeg)), (), rfl, rfl, ⟨by rw [ht]; exact hP, va_K.moved hW.alike hK, by rw [← hAe]; exact hD⟩, hI9⟩, hS.F ht⟩) hS.2.2 dX9_pieceOf_77
    have hR := (if_neg c_4).symm.trans hR
    by_cases c_5 : a2 = (2 : Int32)
    · have hR := (if_pos c_5).symm.trans hR
      refine lv_tableIn (tgt := 78) hx hb dX9_pieceOf_20 (by rw [c_5]; decide) (by rw [c_5]; decide) (by rw [c_5]; rfl) (by decide) ?_
      refine lv_aload_n hx hb dX9_pieceOf_78 rfl (lv_at hl 1 rfl) ?_
      refine va_get (D := D) (ci := 9) (v := .ref (ad 15)) (C := RX9) (T := TX9) (N := 51) hx hb hts hu9 hown hK hP 0 wm_0 rfl 15 (by decide) (hts (.fieldLink RX9 19 "GrazeBookModel" "bears" "[I") (List.mem_cons_of_mem _ mw_798)) (fun _ h9 => h9) rfl dX9_pieceOf_79 ?_
      refine lv_iload_n hx hb dX9_pieceOf_82 rfl (lv_at hl 2 rfl) ?_
      refine va_iald_k (k := (a1.toNatClampNeg)) (v := (σ 15 (a1.toNatClampNeg))) hx hb hK hP 4 0 wm_a15 rfl rfl rfl (ix_isIn c_2 (ir_2 hI)) dX9_pieceOf_83 ?_
      have hI9 : IR σ := hI
      subst hR
      rw [hQ]
      exact W.iret (v := (σ 15 (a1.toNatClampNeg))) hx hb hr (fun t ht hW => ⟨⟨(σ 15 (a1.toNatClampNeg)), (), rfl, rfl, ⟨by rw [ht]; exact hP, va_K.moved hW.alike hK, by rw [← hAe]; exact hD⟩, hI9⟩, hS.F ht⟩) hS.2.2 dX9_pieceOf_84
    have hR := (if_neg c_5).symm.trans hR
    by_cases c_6 : a2 = (3 : Int32)
    · have hR := (if_pos c_6).symm.trans hR
      refine lv_tableIn (tgt := 85) hx hb dX9_pieceOf_20 (by rw [c_6]; decide) (by rw [c_6]; decide) (by rw [c_6]; rfl) (by decide) ?_
      refine lv_aload_n hx hb dX9_pieceOf_85 rfl (lv_at hl 1 rfl) ?_
      refine va_get (D := D) (ci := 9) (v := .ref (ad 16)) (C := RX9) (T := TX9) (N := 51) hx hb hts hu9 hown hK hP 0 wm_0 rfl 16 (by decide) (hts (.fieldLink RX9 22 "GrazeBookModel" "rest" "[I") (List.mem_cons_of_mem _ mw_799)) (fun _ h9 => h9) rfl dX9_pieceOf_86 ?_
      refine lv_iload_n hx hb dX9_pieceOf_89 rfl (lv_at hl 2 rfl) ?_
      refine va_iald_k (k := (a1.toNatClampNeg)) (v := (σ 16 (a1.toNatClampNeg))) hx hb hK hP 5 0 wm_a16 rfl rfl rfl (ix_isIn c_2 (ir_2 hI)) dX9_pieceOf_90 ?_
      have hI9 : IR σ := hI
      subst hR
      rw [hQ]
      exact W.iret (v := (σ 16 (a1.toNatClampNeg))) hx hb hr (fun t ht hW => ⟨⟨(σ 16 (a1.toNatClampNeg)), (), rfl, rfl, ⟨by rw [ht]; exact hP, va_K.moved hW.alike hK, by rw [← hAe]; exact hD⟩, hI9⟩, hS.F ht⟩) hS.2.2 dX9_pieceOf_91
    have hR := (if_neg c_6).symm.trans hR
    by_cases c_7 : a2 = (4 : Int32)
    · have hR := (if_pos c_7).symm.trans hR
      refine lv_tableIn (tgt := 92) hx hb dX9_pieceOf_20 (by rw [c_7]; decide) (by rw [c_7]; decide) (by rw [c_7]; rfl) (by decide) ?_
      refine lv_aload_n hx hb dX9_pieceOf_92 rfl (lv_at hl 1 rfl) ?_
      refine lv_iload_n hx hb dX9_pieceOf_93 rfl (lv_at hl 2 rfl) ?_
      have hF := pw_free hD hS hA
      refine va_calli (va_runV (As := [.int a1]) (rest := []) ⟨hx, hb, hml, hown, hts⟩ (k_X9_partsOn l D ca h ad σ a1 H.size hI _ rfl) (cwV 1 hts gX9_pieceOf_X9_partsOn rfl rfl rfl (by decide +kernel) ⟨Nat.le_of_ble_eq_true rfl, Nat.le_of_ble_eq_true rfl⟩) ⟨pw_blind, va_recv hK hP (ci := 9) (q0 := 0) rfl wm_0, pw_give hP hK hD⟩ rfl rfl hl.1 rfl (lv_room (Nat.le_of_ble_eq_true rfl)) dX9_pieceOf_94 ⟨Nat.le_of_ble_eq_true rfl, Nat.le_of_ble_eq_true rfl⟩) hS (fun q _ h => hF q h) hF (fun r_8 u t H1 locs ht hvm hw hB hz1 hk1 hS => ?_)
      subst hw
      obtain ⟨hP, hD⟩ := pw_back hF ht hB
      clear hB hk1 hz1 hF
      generalize H1 = H at hP hS ⊢
      have hI9 : IR σ := hI
      subst hR
      rw [hQ]
      exact W.iret (v := (s_X9_partsOn σ a1)) hx hb hr (fun t ht hW => ⟨⟨(s_X9_partsOn σ a1), (), rfl, rfl, ⟨by rw [ht]; exact hP, va_K.moved hW.alike hK, by rw [← hAe]; exact hD⟩, hI9⟩, hS.F ht⟩) hS.2.2 dX9_pieceOf_97
    have hR := (if_neg c_7).symm.trans hR
    by_cases c_9 : a2 = (5 : Int32)
    · have hR := (if_pos c_9).symm.trans hR
      refine lv_tableIn (tgt := 98) hx hb dX9_pieceOf_20 (by rw [c_9]; decide) (by rw [c_9]; decide) (by rw [c_9]; rfl) (by decide) ?_
      refine lv_iconst (v := (0 : Int32)) hx hb dX9_pieceOf_98 (by decide) ?_
      refine lv_istore (lv' := [(4, .int (0 : Int32)), (3, .int (0 : Int32)), (0, .ref h), (1, .int a1), (2, .int a2)]) hx hb dX9_pieceOf_99 hl (by decide) rfl (fun ls hl => ?_)
      have hE_10 : ∀ (v3_10 : Int32) (H : Heap) (locs : List Loc) (ls : Array Slot), s_X9_pieceOf_c101 σ v3_10 = R → va_P D vwCl (WM ca h ad σ) H → va_D A (WM ca h ad σ) → va_S A s.heap H locs → lv_has ls 5 [(3, .int v3_10)] → W p l e ((headSpec wsX9_pieceOf ({ frames := 3, cells := 0, slots := 0, locals := 64 })).room) s m ([.ref h, .int a1, .int a2] : List Value).toArray below meth c H locs 0 0 QQ (F0 m 144 ls []) := by
        intro v3_10 H locs ls hR hP hD hS hl
        have hR : (v3_10, σ) = R := hR
        refine lv_iload_n hx hb dX9_pieceOf_144 rfl (lv_at hl 0 rfl) ?_
        have hI9 : IR σ := hI
        subst hR
        rw [hQ]
        exact W.iret (v := v3_10) hx hb hr (fun t ht hW => ⟨⟨v3_10, (), rfl, rfl, ⟨by rw [ht]; exact hP, va_K.moved hW.alike hK, by rw [← hAe]; exact hD⟩, hI9⟩, hS.F ht⟩) hS.2.2 dX9_pieceOf_145
      have hL_10 : ∀ (n k_10 : Nat) (v3_10 : Int32) (hk_10 : lpk (σ 6 0) k_10 n) (H : Heap) (locs : List Loc) (ls : Array Slot), s_X9_pieceOf_c101 σ (iter (s_X9_pieceOf_l101 σ a1) n k_10 v3_10) = R → va_P D vwCl (WM ca h ad σ) H → va_D A (WM ca h ad σ) → va_S A s.heap H locs → lv_has ls 5 [(4, .int (nI k_10)), (3, .int v3_10), (0, .ref h), (1, .int a1)] → W p l e ((headSpec wsX9_pieceOf ({ frames := 3, cells := 0, slots := 0, locals := 64 })).room) s m ([.ref h, .int a1, .int a2] : List Value).toArray below meth c H locs 0 0 QQ (F0 m 101 ls []) := by
        intro n
        induction n with
        | zero =>
          intro k_10 v3_10 hk_10 H locs ls hR hP hD hS hl
          refine lv_iload hx hb dX9_pieceOf_101 (lv_at hl 0 rfl) ?_
          refine lv_aload_n hx hb dX9_pieceOf_103 rfl (lv_at hl 2 rfl) ?_
          refine va_get (D := D) (ci := 9) (v := .int (σ 6 0)) (C := RX9) (T := TX9) (N := 51) hx hb hts hu9 hown hK hP 0 wm_0 rfl 6 (by decide) (hts (.fieldLink RX9 164 "GrazeBookModel" "herds" "I") (List.mem_cons_of_mem _ mw_789)) (fun _ h9 => h9) rfl dX9_pieceOf_104 ?_
          refine lv_icmp_ge (tgt := 144) hx hb dX9_pieceOf_107 (by decide) (fun _ => ?_) (fun c_11 => absurd (ge_end hk_10) c_11)
          exact hE_10 v3_10 _ _ _ hR hP hD hS (lv_sub hl [1] rfl)
        | succ n ih =>
          intro k_10 v3_10 hk_10 H locs ls hR hP hD hS hl
          obtain ⟨S_10, hB_10⟩ : ∃ s9, s_X9_pieceOf_l101 σ a1 k_10 v3_10 = s9 := ⟨_, rfl⟩
          have hR : s_X9_pieceOf_c101 σ (iter (s_X9_pieceOf_l101 σ a1) n (k_10 + 1) S_10) = R := by rw [← hB_10]; exact hR
          have hB_10 : (if (s_X9_isOut σ (nI k_10)) = (0 : Int32) then (v3_10 + (0 : Int32)) else (if (σ 38 k_10) = a1 then (v3_10 + (1 : Int32)) else (v3_10 + (0 : Int32)))) = S_10 := hB_10
          refine lv_iload hx hb dX9_pieceOf_101 (lv_at hl 0 rfl) ?_
          refine lv_aload_n hx hb dX9_pieceOf_103 rfl (lv_at hl 2 rfl) ?_
          refine va_get (D := D) (ci := 9) (v := .int (σ 6 0)) (C := RX9) (T := TX9) (N := 51) hx hb hts hu9 hown hK hP 0 wm_0 rfl 6 (by decide) (hts (.fieldLink RX9 164 "GrazeBookModel" "herds" "I") (List.mem_cons_of_mem _ mw_789)) (fun _ h9 => h9) rfl dX9_pieceOf_104 ?_
          refine lv_icmp_ge (tgt := 144) hx hb dX9_pieceOf_107 (by decide) (fun c_12 => absurd c_12 (ge_go hk_10)) (fun _ => ?_)
          refine lv_iload_n hx hb dX9_pieceOf_110 rfl (lv_at hl 1 rfl) ?_
          refine lv_aload_n hx hb dX9_pieceOf_111 rfl (lv_at hl 2 rfl) ?_
          refine lv_iload hx hb dX9_pieceOf_112 (lv_at hl 0 rfl) ?_
          have hF := pw_free hD hS hA
          refine va_calli (va_runV (As := [.int (nI k_10)]) (rest := [.int v3_10]) ⟨hx, hb, hml, hown, hts⟩ (k_X9_isOut l D ca h ad σ (nI k_10) H.size hI (ix_loop (N := 20) hk_10 (ir_6 hI) (by decide) (by decide)) _ rfl) (cwV 1 hts gX9_pieceOf_X9_isOut rfl rfl rfl (by decide +kernel) ⟨Nat.le_of_ble_eq_true rfl, Nat.le_of_ble_eq_true rfl⟩) ⟨pw_blind, va_recv hK hP (ci := 9) (q0 := 0) rfl wm_0, pw_give hP hK hD⟩ rfl rfl hl.1 rfl (lv_room (Nat.le_of_ble_eq_true rfl)) dX9_pieceOf_114 ⟨Nat.le_of_ble_eq_true rfl, Nat.le_of_ble_eq_true rfl⟩) hS (fun q _ h => hF q h) hF (fun r_13 u t H1 locs ht hvm hw hB hz1 hk1 hS => ?_)
          subst hw
          obtain ⟨hP, hD⟩ := pw_back hF ht hB
          clear hB hk1 hz1 hF
          generalize H1 = H at hP hS ⊢
          refine lv_if_eq (tgt := 135) hx hb dX9_pieceOf_117 (by decide) (fun c_14 => ?_) (fun c_14 => ?_)
          · have hB_10 := (if_pos c_14).symm.trans hB_10
            refine lv_iconst (v := (0 : Int32)) hx hb dX9_pieceOf_135 (by decide) ?_
            refine lv_iadd hx hb dX9_pieceOf_136 ?_
            refine lv_istore_n (lv' := [(3, .int (v3_10 + (0 : Int32))), (4, .int (nI k_10)), (0, .ref h), (1, .int a1)]) hx hb dX9_pieceOf_137 rfl hl (by decide) rfl (fun ls hl => ?_)
            refine lv_iinc (v := (nI (k_10 + 1))) (lv' := [(4, .int (nI (k_10 + 1))), (3, .int (v3_10 + (0 : Int32))), (0, .ref h), (1, .int a1)]) hx hb dX9_pieceOf_138 hl (k := 1) rfl (by rw [show Int32.ofInt 1 = 1 from by decide]; exact nI_1 _) (by decide) rfl (fun ls hl => ?_)
            refine lv_goto (tgt := 101) hx hb dX9_pieceOf_141 (by decide) ?_
            subst hB_10
            exact ih (k_10 + 1) (v3_10 + (0 : Int32)) (ge_next hk_10)  _ _ _ hR hP hD hS (lv_sub hl [0, 1, 2, 3] rfl)
          · have hB_10 := (if_neg c_14).symm.trans hB_10
            refine lv_aload_n hx hb dX9_pieceOf_120 rfl (lv_at hl 2 rfl) ?_
            refine va_get (D := D) (ci := 9) (v := .ref (ad 38)) (C := RX9) (T := TX9) (N := 51) hx hb hts hu9 hown hK hP 0 wm_0 rfl 38 (by decide) (hts (.fieldLink RX9 89 "GrazeBookModel" "hPiece" "[I") (List.mem_cons_of_mem _ mw_821)) (fun _ h9 => h9) rfl dX9_pieceOf_121 ?_
            refine lv_iload hx hb dX9_pieceOf_124 (lv_at hl 0 rfl) ?_
            refine va_iald_k (k := k_10) (v := (σ 38 k_10)) hx hb hK hP 27 0 wm_a38 rfl (ix_cl hk_10) rfl (ix_loop (N := 20) hk_10 (ir_6 hI) (by decide) (by decide)) dX9_pieceOf_126 ?_
            refine lv_iload_n hx hb dX9_pieceOf_127 rfl (lv_at hl 3 rfl) ?_
            refine lv_icmp_ne (tgt := 135) hx hb dX9_pieceOf_128 (by decide) (fun c_15 => ?_) (fun c_15 => ?_)
            · have hB_10 := (if_neg c_15).symm.trans hB_10
              refine lv_iconst (v := (0 : Int32)) hx hb dX9_pieceOf_135 (by decide) ?_
              refine lv_iadd hx hb dX9_pieceOf_136 ?_
              refine lv_istore_n (lv' := [(3, .int (v3_10 + (0 : Int32))), (4, .int (nI k_10)), (0, .ref h), (1, .int a1)]) hx hb dX9_pieceOf_137 rfl hl (by decide) rfl (fun ls hl => ?_)
              refine lv_iinc (v := (nI (k_10 + 1))) (lv' := [(4, .int (nI (k_10 + 1))), (3, .int (v3_10 + (0 : Int32))), (0, .ref h), (1, .int a1)]) hx hb dX9_pieceOf_138 hl (k := 1) rfl (by rw [show Int32.ofInt 1 = 1 from by decide]; exact nI_1 _) (by decide) rfl (fun ls hl => ?_)
              refine lv_goto (tgt := 101) hx hb dX9_pieceOf_141 (by decide) ?_
              subst hB_10
              exact ih (k_10 + 1) (v3_10 + (0 : Int32)) (ge_next hk_10)  _ _ _ hR hP hD hS (lv_sub hl [0, 1, 2, 3] rfl)
            · have hB_10 := (if_pos c_15).symm.trans hB_10
              refine lv_iconst (v := (1 : Int32)) hx hb dX9_pieceOf_131 (by decide) ?_
              refine lv_goto (tgt := 136) hx hb dX9_pieceOf_132 (by decide) ?_
              refine lv_iadd hx hb dX9_pieceOf_136 ?_
              refine lv_istore_n (lv' := [(3, .int (v3_10 + (1 : Int32))), (4, .int (nI k_10)), (0, .ref h), (1, .int a1)]) hx hb dX9_pieceOf_137 rfl hl (by decide) rfl (fun ls hl => ?_)
              refine lv_iinc (v := (nI (k_10 + 1))) (lv' := [(4, .int (nI (k_10 + 1))), (3, .int (v3_10 + (1 : Int32))), (0, .ref h), (1, .int a1)]) hx hb dX9_pieceOf_138 hl (k := 1) rfl (by rw [show Int32.ofInt 1 = 1 from by decide]; exact nI_1 _) (by decide) rfl (fun ls hl => ?_)
              refine lv_goto (tgt := 101) hx hb dX9_pieceOf_141 (by decide) ?_
              subst hB_10
              exact ih (k_10 + 1) (v3_10 + (1 : Int32)) (ge_next hk_10)  _ _ _ hR hP hD hS (lv_sub hl [0, 1, 2, 3] rfl)
      exact hL_10 _ 0 (0 : Int32) ⟨rfl, by decide⟩  _ _ _ hR hP hD hS (lv_sub hl [0, 1, 2, 3] rfl)
    have hR := (if_neg c_9).symm.trans hR
    by_cases c_16 : a2 = (6 : Int32)
    · have hR := (if_pos c_16).symm.trans hR
      refine lv_tableIn (tgt := 146) hx hb dX9_pieceOf_20 (by rw [c_16]; decide) (by rw [c_16]; decide) (by rw [c_16]; rfl) (by decide) ?_
      refine lv_aload_n hx hb dX9_pieceOf_146 rfl (lv_at hl 1 rfl) ?_
      refine va_get (D := D) (ci := 9) (v := .ref (ad 17)) (C := RX9) (T := TX9) (N := 51) hx hb hts hu9 hown hK hP 0 wm_0 rfl 17 (by decide) (hts (.fieldLink RX9 25 "GrazeBookModel" "eaten" "[I") (List.mem_cons_of_mem _ mw_800)) (fun _ h9 => h9) rfl dX9_pieceOf_147 ?_
      refine lv_iload_n hx hb dX9_pieceOf_150 rfl (lv_at hl 2 rfl) ?_
      refine va_iald_k (k := (a1.toNatClampNeg)) (v := (σ 17 (a1.toNatClampNeg))) hx hb hK hP 6 0 wm_a17 rfl rfl rfl (ix_isIn c_2 (ir_2 hI)) dX9_pieceOf_151 ?_
      have hI9 : IR σ := hI
      subst hR
      rw [hQ]
      exact W.iret (v := (σ 17 (a1.toNatClampNeg))) hx hb hr (fun t ht hW => ⟨⟨(σ 17 (a1.toNatClampNeg)), (), rfl, rfl, ⟨by rw [ht]; exact hP, va_K.moved hW.alike hK, by rw [← hAe]; exact hD⟩, hI9⟩, hS.F ht⟩) hS.2.2 dX9_pieceOf_152
    have hR := (if_neg c_16).symm.trans hR
    refine lv_tableOut (tgt := 153) hx hb dX9_pieceOf_20 (sw_out6 c_3 c_4 c_5 c_6 c_7 c_9 c_16) (by decide) ?_
    refine lv_aload_n hx hb dX9_pieceOf_153 rfl (lv_at hl 1 rfl) ?_
    refine lv_bipush (v := (-2 : Int32)) hx hb dX9_pieceOf_154 (by decide) ?_
    have hF := pw_free hD hS hA
    refine va_calli (va_runV (As := [.int (-2 : Int32)]) (rest := []) ⟨hx, hb, hml, hown, hts⟩ (k_X9_refuse l D ca h ad σ (-2 : Int32) H.size hI (by unfold vp_in; decide) _ rfl) (cwV 1 hts gX9_pieceOf_X9_refuse rfl rfl rfl (by decide +kernel) ⟨Nat.le_of_ble_eq_true rfl, Nat.le_of_ble_eq_true rfl⟩) ⟨pw_blind, va_recv hK hP (ci := 9) (q0 := 0) rfl wm_0, pw_give hP hK hD⟩ rfl rfl hl.1 rfl (lv_room (Nat.le_of_ble_eq_true rfl)) dX9_pieceOf_156 ⟨Nat.le_of_ble_eq_true rfl, Nat.le_of_ble_eq_true rfl⟩) hS (fun q _ h => hF q h) hF (fun r_17 u t H1 locs ht hvm hw hB hz1 hk1 hS => ?_)
    subst hw
    obtain ⟨hB, hI_18⟩ := hB
    obtain ⟨hP, hD⟩ := pw_back hF ht hB
    clear hB hk1 hz1 hF
    generalize H1 = H at hP hS ⊢
    have hI9 : IR ((s_X9_refuse σ (-2 : Int32)).2) := hI_18
    subst hR
    rw [hQ]
    exact W.iret (v := ((s_X9_refuse σ (-2 : Int32)).1)) hx hb hr (fun t ht hW => ⟨⟨((s_X9_refuse σ (-2 : Int32)).1), (), rfl, rfl, ⟨by rw [ht]; exact hP, va_K.moved hW.alike hK, by rw [← hAe]; exact hD⟩, hI9⟩, hS.F ht⟩) hS.2.2 dX9_pieceOf_159
  · have hR := (if_pos c_2).symm.trans hR
    refine lv_aload_n hx hb dX9_pieceOf_11 rfl (lv_at hl 0 rfl) ?_
    refine lv_iconst (v := (-1 : Int32)) hx hb dX9_pieceOf_12 (by decide) ?_
    have hF := pw_free hD hS hA
    refine va_calli (va_runV (As := [.int (-1 : Int32)]) (rest := []) ⟨hx, hb, hml, hown, hts⟩ (k_X9_refuse l D ca h ad σ (-1 : Int32) H.size hI (by unfold vp_in; decide) _ rfl) (cwV 1 hts gX9_pieceOf_X9_refuse rfl rfl rfl (by decide +kernel) ⟨Nat.le_of_ble_eq_true rfl, Nat.le_of_ble_eq_true rfl⟩) ⟨pw_blind, va_recv hK hP (ci := 9) (q0 := 0) rfl wm_0, pw_give hP hK hD⟩ rfl rfl hl.1 rfl (lv_room (Nat.le_of_ble_eq_true rfl)) dX9_pieceOf_13 ⟨Nat.le_of_ble_eq_true rfl, Nat.le_of_ble_eq_true rfl⟩) hS (fun q _ h => hF q h) hF (fun r_19 u t H1 locs ht hvm hw hB hz1 hk1 hS => ?_)
    subst hw
    obtain ⟨hB, hI_20⟩ := hB
    obtain ⟨hP, hD⟩ := pw_back hF ht hB
    clear hB hk1 hz1 hF
    generalize H1 = H at hP hS ⊢
    have hI9 : IR ((s_X9_refuse σ (-1 : Int32)).2) := hI_20
    subst hR
    rw [hQ]
    exact W.iret (v := ((s_X9_refuse σ (-1 : Int32)).1)) hx hb hr (fun t ht hW => ⟨⟨((s_X9_refuse σ (-1 : Int32)).1), (), rfl, rfl, ⟨by rw [ht]; exact hP, va_K.moved hW.alike hK, by rw [← hAe]; exact hD⟩, hI9⟩, hS.F ht⟩) hS.2.2 dX9_pieceOf_16

def s_X9_rightOf (σ : St) (a1 : Int32) (a2 : Int32) : Int32 × St := (if (s_X9_isIn a1 (σ 5 0)) = (0 : Int32) then (((s_X9_refuse σ (-1 : Int32)).1), (s_X9_refuse σ (-1 : Int32)).2) else (if a2 = (0 : Int32) then ((σ 25 (a1.toNatClampNeg)), σ) else (if a2 = (1 : Int32) then ((s_X9_ownerOfRight σ a1), σ) else (if a2 = (2 : Int32) then ((s_X9_partsOf σ a1), σ) else (if a2 = (3 : Int32) then ((σ 28 (a1.toNatClampNeg)), σ) else (if a2 = (4 : Int32) then ((σ 29 (a1.toNatClampNeg)), σ) else (if a2 = (5 : Int32) then (if (σ 33 (a1.toNatClampNeg)) = (0 : Int32) then ((0 : Int32), σ) else ((1 : Int32), σ)) else (if a2 = (6 : Int32) then (if (s_X9_isInForce σ a1) = (0 : Int32) then ((0 : Int32), σ) else ((1 : Int32), σ)) else (if a2 = (7 : Int32) then ((σ 31 (a1.toNatClampNeg)), σ) else (if a2 = (8 : Int32) then ((σ 32 (a1.toNatClampNeg)), σ) else (((s_X9_refuse σ (-2 : Int32)).1), (s_X9_refuse σ (-2 : Int32)).2)))))))))))
theorem fr_s_X9_rightOf (σ : St) (a1 : Int32) (a2 : Int32) {f : Nat} (h0 : f ≠ 0) : (s_X9_rightOf σ a1 a2 ).2 f = σ f := by
  unfold s_X9_rightOf
  all_goals ((try dsimp only) <;> ((repeat' split) <;> (try simp only [put_fr, ne_eq, not_false_eq_true, h0, fr_s_X9_refuse])))
set_option maxHeartbeats 1000000 in
set_option maxRecDepth 100000 in
theorem k_X9_rightOf (l : Launch) (D : va_G) (ca : Nat → ClassId) (h : Nat) (ad : Nat → Nat) (σ : St) (a1 : Int32) (a2 : Int32) (sz : Nat) (hI : IR σ)  (R : Int32 × St) (hR : s_X9_rightOf σ a1 a2 = R) : Met l yX9_rightOf wsX9_rightOf ({ frames := 2, cells := 0, slots := 0, locals := 44 }) (va_Pc [.ref h, .int a1, .int a2] (pw_pre D ca (WM ca h ad σ) sz)) (va_Qi (fun (r : Int32) (_ : Unit) => r = R.1) (fun (_ : Unit) (t : State) => pw_post D ca (WM ca h ad σ) sz (WM ca h ad (R.2)) t ∧ IR R.2) (va_A (WM ca h ad σ) sz)) 0 0 (va_A (WM ca h ad σ) sz) := by
  refine Met.ofW (cc := cX9_rightOf) (maxL := 3) (ret := (some .int)) (by decide) rfl ?_
  intro p e s m args below meth c s₁ B hml hv
  obtain ⟨rfl, hsz, hP, hK, hD0⟩ := hv
  have hx := B.exec
  have hb := B.bytes
  have hr := B.returns
  have hts := atoms_spec (ws := wsX9_rightOf) B.pre
  have hown : s.vm.findClass RX9 = some m.cls := findClass_of_methodNamed B.named
  have hlocks := B.notSynchronized
  have hu9 : ∀ w ∈ u_ws RX9 TX9 51, w ∈ wsX9_rightOf := fun w h => List.mem_cons_of_mem _ (uw9 w h)
  subst hsz
  have hD := hD0.self (sz := s.heap.size)
  obtain ⟨A, hAe⟩ : ∃ A, A = va_A (WM ca h ad σ) s.heap.size := ⟨_, rfl⟩
  rw [← hAe] at hD ⊢
  have hA : ∀ q : Nat, s.heap.size ≤ q → A q := fun q h => by rw [hAe]; exact Or.inr h
  have hS : va_S A s.heap s.heap [] := va_S.rf
  have hl := lv_entry ([.ref h, .int a1, .int a2]) (n := 3) (Nat.le_of_ble_eq_true rfl)
  rw [lg_entry_eq]
  generalize (lg_sl ([.ref h, .int a1, .int a2]) ++ List.replicate (3 - (lg_sl ([.ref h, .int a1, .int a2])).length) Slot.unset).toArray = ls at hl ⊢
  have hl : lv_has ls 3 [(0, .ref h), (1, .int a1), (2, .int a2)] := hl
  obtain ⟨H, hH⟩ : ∃ H, H = s.heap := ⟨_, rfl⟩
  have hP : va_P D vwCl (WM ca h ad σ) H := by rw [hH]; exact hP
  have hS : va_S A s.heap H [] := by rw [hH]; exact hS
  obtain ⟨QQ, hQ⟩ : ∃ Q9, Q9 = MQ below (va_Qi (fun (r : Int32) (_ : Unit) => r = R.1) (fun (_ : Unit) (t : State) => pw_post D ca (WM ca h ad σ) s.heap.size (WM ca h ad (R.2)) t ∧ IR R.2) A) ([.ref h, .int a1, .int a2] : List Value).toArray s 0 0 A := ⟨_, rfl⟩
  rw [← hQ]
  show W _ _ _ _ _ _ _ _ _ _ s.heap _ _ _ _ _
  rw [← hH]
  have hR : (if (s_X9_isIn a1 (σ 5 0)) = (0 : Int32) then (((s_X9_refuse σ (-1 : Int32)).1), (s_X9_refuse σ (-1 : Int32)).2) else (if a2 = (0 : Int32) then ((σ 25 (a1.toNatClampNeg)), σ) else (if a2 = (1 : Int32) then ((s_X9_ownerOfRight σ a1), σ) else (if a2 = (2 : Int32) then ((s_X9_partsOf σ a1), σ) else (if a2 = (3 : Int32) then ((σ 28 (a1.toNatClampNeg)), σ) else (if a2 = (4 : Int32) then ((σ 29 (a1.toNatClampNeg)), σ) else (if a2 = (5 : Int32) then (if (σ 33 (a1.toNatClampNeg)) = (0 : Int32) then ((0 : Int32), σ) else ((1 : Int32), σ)) else (if a2 = (6 : Int32) then (if (s_X9_isInForce σ a1) = (0 : Int32) then ((0 : Int32), σ) else ((1 : Int32), σ)) else (if a2 = (7 : Int32) then ((σ 31 (a1.toNatClampNeg)), σ) else (if a2 = (8 : Int32) then ((σ 32 (a1.toNatClampNeg)), σ) else (((s_X9_refuse σ (-2 : Int32)).1), (s_X9_refuse σ (-2 : Int32)).2))))))))))) = R := hR
  refine lv_iload_n hx hb dX9_rightOf_0 rfl (lv_at hl 1 rfl) ?_
  refine lv_aload_n hx hb dX9_rightOf_1 rfl (lv_at hl 0 rfl) ?_
  refine va_get (D := D) (ci := 9) (v := .int (σ 5 0)) (C := RX9) (T := TX9) (N := 51) hx hb hts hu9 hown hK hP 0 wm_0 rfl 5 (by decide) (hts (.fieldLink RX9 148 "GrazeBookModel" "rights" "I") (List.mem_cons_of_mem _ mw_788)) (fun _ h9 => h9) rfl dX9_rightOf_2 ?_
  have hF := pw_free (pn_D (A := A)) hS hA
  refine va_calli (va_runS (As := [.int a1, .int (σ 5 0)]) (rest := []) ⟨hx, hb, hml, hown, hts⟩ (k_X9_isIn l D ca a1 (σ 5 0) H.size _ rfl) (va_cwS 2 hts gX9_rightOf_X9_isIn rfl rfl rfl (by decide +kernel) ⟨Nat.le_of_ble_eq_true rfl, Nat.le_of_ble_eq_true rfl⟩) ⟨pw_blind, pw_give pn_P hK (pn_D (A := A))⟩ rfl rfl hl.1 rfl (lv_room (Nat.le_of_ble_eq_true rfl)) dX9_rightOf_5 ⟨Nat.le_of_ble_eq_true rfl, Nat.le_of_ble_eq_true rfl⟩) hS (fun q _ h => hF q h) hF (fun r_1 u t H1 locs ht hvm hw hB hz1 hk1 hS => ?_)
  subst hw
  have hP := pn_back hP hk1
  clear hB hk1 hz1 hF
  generalize H1 = H at hP hS ⊢
  refine lv_if_ne (tgt := 17) hx hb dX9_rightOf_8 (by decide) (fun c_2 => ?_) (fun c_2 => ?_)
  · have hR := (if_neg c_2).symm.trans hR
    refine lv_iload_n hx hb dX9_rightOf_17 rfl (lv_at hl 2 rfl) ?_
    by_cases c_3 : a2 = (0 : Int32)
    · have hR := (if_pos c_3).symm.trans hR
      refine lv_tableIn (tgt := 68) hx hb dX9_rightOf_18 (by rw [c_3]; decide) (by rw [c_3]; decide) (by rw [c_3]; rfl) (by decide) ?_
      refine lv_aload_n hx hb dX9_rightOf_68 rfl (lv_at hl 0 rfl) ?_
      refine va_get (D := D) (ci := 9) (v := .ref (ad 25)) (C := RX9) (T := TX9) (N := 51) hx hb hts hu9 hown hK hP 0 wm_0 rfl 25 (by decide) (hts (.fieldLink RX9 50 "GrazeBookModel" "rKind" "[I") (List.mem_cons_of_mem _ mw_808)) (fun _ h9 => h9) rfl dX9_rightOf_69 ?_
      refine lv_iload_n hx hb dX9_rightOf_72 rfl (lv_at hl 1 rfl) ?_
      refine va_iald_k (k := (a1.toNatClampNeg)) (v := (σ 25 (a1.toNatClampNeg))) hx hb hK hP 14 0 wm_a25 rfl rfl rfl (ix_isIn c_2 (ir_5 hI)) dX9_rightOf_73 ?_
      have hI9 : IR σ := hI
      subst hR
      rw [hQ]
      exact W.iret (v := (σ 25 (a1.toNatClampNeg))) hx hb hr (fun t ht hW => ⟨⟨(σ 25 (a1.toNatClampNeg)), (), rfl, rfl, ⟨by rw [ht]; exact hP, va_K.moved hW.alike hK, by rw [← hAe]; exact hD⟩, hI9⟩, hS.F ht⟩) hS.2.2 dX9_rightOf_74
    have hR := (if_neg c_3).symm.trans hR
    by_cases c_4 : a2 = (1 : Int32)
    · have hR := (if_pos c_4).symm.trans hR
      refine lv_tableIn (tgt := 75) hx hb dX9_rightOf_18 (by rw [c_4]; decide) (by rw [c_4]; decide) (by rw [c_4]; rfl) (by decide) ?_
      refine lv_aload_n hx hb dX9_rightOf_75 rfl (lv_at hl 0 rfl) ?_
      refine lv_iload_n hx hb dX9_rightOf_76 rfl (lv_at hl 1 rfl) ?_
      have hF := pw_free hD hS hA
      refine va_calli (va_runV (As := [.int a1]) (rest := []) ⟨hx, hb, hml, hown, hts⟩ (k_X9_ownerOfRight l D ca h ad σ a1 H.size hI (ix_isIn c_2 (ir_5 hI)) _ rfl) (cwV 1 hts gX9_rightOf_X9_ownerOfRight rfl rfl rfl (by decide +kernel) ⟨Nat.le_of_ble_eq_true rfl, Nat.le_of_ble_eq_true rfl⟩) ⟨pw_blind, va_recv hK hP (ci := 9) (q0 := 0) rfl wm_0, pw_give hP hK hD⟩ rfl rfl hl.1 rfl (lv_room (Nat.le_of_ble_eq_true rfl)) dX9_rightOf_77 ⟨Nat.le_of_ble_eq_true rfl, Nat.le_of_ble_eq_true rfl⟩) hS (fun q _ h => hF q h) hF (fun r_5 u t H1 locs ht hvm hw hB hz1 hk1 hS => ?_)
      subst hw
      obtain ⟨hP, hD⟩ := pw_back hF ht hB
      clear hB hk1 hz1 hF
      generalize H1 = H at hP hS ⊢
      have hI9 : IR σ := hI
      subst hR
      rw [hQ]
      exact W.iret (v := (s_X9_ownerOfRight σ a1)) hx hb hr (fun t ht hW => ⟨⟨(s_X9_ownerOfRight σ a1), (), rfl, rfl, ⟨by rw [ht]; exact hP, va_K.moved hW.alike hK, by rw [← hAe]; exact hD⟩, hI9⟩, hS.F ht⟩) hS.2.2 dX9_rightOf_80
    have hR := (if_neg c_4).symm.trans hR
    by_cases c_6 : a2 = (2 : Int32)
    · have hR := (if_pos c_6).symm.trans hR
      refine lv_tableIn (tgt := 81) hx hb dX9_rightOf_18 (by rw [c_6]; decide) (by rw [c_6]; decide) (by rw [c_6]; rfl) (by decide) ?_
      refine lv_aload_n hx hb dX9_rightOf_81 rfl (lv_at hl 0 rfl) ?_
      refine lv_iload_n hx hb dX9_rightOf_82 rfl (lv_at hl 1 rfl) ?_
      have hF := pw_free hD hS hA
      refine va_calli (va_runV (As := [.int a1]) (rest := []) ⟨hx, hb, hml, hown, hts⟩ (k_X9_partsOf l D ca h ad σ a1 H.size hI (ix_isIn c_2 (ir_5 hI)) _ rfl) (cwV 1 hts gX9_rightOf_X9_partsOf rfl rfl rfl (by decide +kernel) ⟨Nat.le_of_ble_eq_true rfl, Nat.le_of_ble_eq_true rfl⟩) ⟨pw_blind, va_recv hK hP (ci := 9) (q0 := 0) rfl wm_0, pw_give hP hK hD⟩ rfl rfl hl.1 rfl (lv_room (Nat.le_of_ble_eq_true rfl)) dX9_rightOf_83 ⟨Nat.le_of_ble_eq_true rfl, Nat.le_of_ble_eq_true rfl⟩) hS (fun q _ h => hF q h) hF (fun r_7 u t H1 locs ht hvm hw hB hz1 hk1 hS => ?_)
      subst hw
      obtain ⟨hP, hD⟩ := pw_back hF ht hB
      clear hB hk1 hz1 hF
      generalize H1 = H at hP hS ⊢
      have hI9 : IR σ := hI
      subst hR
      rw [hQ]
      exact W.iret (v := (s_X9_partsOf σ a1)) hx hb hr (fun t ht hW => ⟨⟨(s_X9_partsOf σ a1), (), rfl, rfl, ⟨by rw [ht]; exact hP, va_K.moved hW.alike hK, by rw [← hAe]; exact hD⟩, hI9⟩, hS.F ht⟩) hS.2.2 dX9_rightOf_86
    have hR := (if_neg c_6).symm.trans hR
    by_cases c_8 : a2 = (3 : Int32)
    · have hR := (if_pos c_8).symm.trans hR
      refine lv_tableIn (tgt := 87) hx hb dX9_rightOf_18 (by rw [c_8]; decide) (by rw [c_8]; decide) (by rw [c_8]; rfl) (by decide) ?_
      refine lv_aload_n hx hb dX9_rightOf_87 rfl (lv_at hl 0 rfl) ?_
      refine va_get (D := D) (ci := 9) (v := .ref (ad 28)) (C := RX9) (T := TX9) (N := 51) hx hb hts hu9 hown hK hP 0 wm_0 rfl 28 (by decide) (hts (.fieldLink RX9 59 "GrazeBookModel" "rFrom" "[I") (List.mem_cons_of_mem _ mw_811)) (fun _ h9 => h9) rfl dX9_rightOf_88 ?_
      refine lv_iload_n hx hb dX9_rightOf_91 rfl (lv_at hl 1 rfl) ?_
      refine va_iald_k (k := (a1.toNatClampNeg)) (v := (σ 28 (a1.toNatClampNeg))) hx hb hK hP 17 0 wm_a28 rfl rfl rfl (ix_isIn c_2 (ir_5 hI)) dX9_rightOf_92 ?_
      have hI9 : IR σ := hI
      subst hR
      rw [hQ]
      exact W.iret (v := (σ 28 (a1.toNatClampNeg))) hx hb hr (fun t ht hW => ⟨⟨(σ 28 (a1.toNatClampNeg)), (), rfl, rfl, ⟨by rw [ht]; exact hP, va_K.moved hW.alike hK, by rw [← hAe]; exact hD⟩, hI9⟩, hS.F ht⟩) hS.2.2 dX9_rightOf_93
    have hR := (if_neg c_8).symm.trans hR
    by_cases c_9 : a2 = (4 : Int32)
    · have hR := (if_pos c_9).symm.trans hR
      refine lv_tableIn (tgt := 94) hx hb dX9_rightOf_18 (by rw [c_9]; decide) (by rw [c_9]; decide) (by rw [c_9]; rfl) (by decide) ?_
      refine lv_aload_n hx hb dX9_rightOf_94 rfl (lv_at hl 0 rfl) ?_
      refine va_get (D := D) (ci := 9) (v := .ref (ad 29)) (C := RX9) (T := TX9) (N := 51) hx hb hts hu9 hown hK hP 0 wm_0 rfl 29 (by decide) (hts (.fieldLink RX9 62 "GrazeBookModel" "rTo" "[I") (List.mem_cons_of_mem _ mw_812)) (fun _ h9 => h9) rfl dX9_rightOf_95 ?_
      refine lv_iload_n hx hb dX9_rightOf_98 rfl (lv_at hl 1 rfl) ?_
      refine va_iald_k (k := (a1.toNatClampNeg)) (v := (σ 29 (a1.toNatClampNeg))) hx hb hK hP 18 0 wm_a29 rfl rfl rfl (ix_isIn c_2 (ir_5 hI)) dX9_rightOf_99 ?_
      have hI9 : IR σ := hI
      subst hR
      rw [hQ]
      exact W.iret (v := (σ 29 (a1.toNatClampNeg))) hx hb hr (fun t ht hW => ⟨⟨(σ 29 (a1.toNatClampNeg)), (), rfl, rfl, ⟨by rw [ht]; exact hP, va_K.moved hW.alike hK, by rw [← hAe]; exact hD⟩, hI9⟩, hS.F ht⟩) hS.2.2 dX9_rightOf_100
    have hR := (if_neg c_9).symm.trans hR
    by_cases c_10 : a2 = (5 : Int32)
    · have hR := (if_pos c_10).symm.trans hR
      refine lv_tableIn (tgt := 101) hx hb dX9_rightOf_18 (by rw [c_10]; decide) (by rw [c_10]; decide) (by rw [c_10]; rfl) (by decide) ?_
      refine lv_aload_n hx hb dX9_rightOf_101 rfl (lv_at hl 0 rfl) ?_
      refine va_get (D := D) (ci := 9) (v := .ref (ad 33)) (C := RX9) (T := TX9) (N := 51) hx hb hts hu9 hown hK hP 0 wm_0 rfl 33 (by decide) (hts (.fieldLink RX9 74 "GrazeBookModel" "rGone" "[Z") (List.mem_cons_of_mem _ mw_816)) (fun _ h9 => h9) rfl dX9_rightOf_102 ?_
      refine lv_iload_n hx hb dX9_rightOf_105 rfl (lv_at hl 1 rfl) ?_
      refine va_zald_k (k := (a1.toNatClampNeg)) (v := (σ 33 (a1.toNatClampNeg))) hx hb hK hP 22 1 wm_a33 rfl rfl rfl (ix_isIn c_2 (ir_5 hI)) dX9_rightOf_106 ?_
      refine lv_if_eq (tgt := 114) hx hb dX9_rightOf_107 (by decide) (fun c_11 => ?_) (fun c_11 => ?_)
      · have hR := (if_pos c_11).symm.trans hR
        refine lv_iconst (v := (0 : Int32)) hx hb dX9_rightOf_114 (by decide) ?_
        have hI9 : IR σ := hI
        subst hR
        rw [hQ]
        exact W.iret (v := (0 : Int32)) hx hb hr (fun t ht hW => ⟨⟨(0 : Int32), (), rfl, rfl, ⟨by rw [ht]; exact hP, va_K.moved hW.alike hK, by rw [← hAe]; exact hD⟩, hI9⟩, hS.F ht⟩) hS.2.2 dX9_rightOf_115
      · have hR := (if_neg c_11).symm.trans hR
        refine lv_iconst (v := (1 : Int32)) hx hb dX9_rightOf_110 (by decide) ?_
        refine lv_goto (tgt := 115) hx hb dX9_rightOf_111 (by decide) ?_
        have hI9 : IR σ := hI
        subst hR
        rw [hQ]
        exact W.iret (v := (1 : Int32)) hx hb hr (fun t ht hW => ⟨⟨(1 : Int32), (), rfl, rfl, ⟨by rw [ht]; exact hP, va_K.moved hW.alike hK, by rw [← hAe]; exact hD⟩, hI9⟩, hS.F ht⟩) hS.2.2 dX9_rightOf_115
    have hR := (if_neg c_10).symm.trans hR
    by_cases c_12 : a2 = (6 : Int32)
    · have hR := (if_pos c_12).symm.trans hR
      refine lv_tableIn (tgt := 116) hx hb dX9_rightOf_18 (by rw [c_12]; decide) (by rw [c_12]; decide) (by rw [c_12]; rfl) (by decide) ?_
      refine lv_aload_n hx hb dX9_rightOf_116 rfl (lv_at hl 0 rfl) ?_
      refine lv_iload_n hx hb dX9_rightOf_117 rfl (lv_at hl 1 rfl) ?_
      have hF := pw_free hD hS hA
      refine va_calli (va_runV (As := [.int a1]) (rest := []) ⟨hx, hb, hml, hown, hts⟩ (k_X9_isInForce l D ca h ad σ a1 H.size hI (ix_isIn c_2 (ir_5 hI)) _ rfl) (cwV 1 hts gX9_rightOf_X9_isInForce rfl rfl rfl (by decide +kernel) ⟨Nat.le_of_ble_eq_true rfl, Nat.le_of_ble_eq_true rfl⟩) ⟨pw_blind, va_recv hK hP (ci := 9) (q0 := 0) rfl wm_0, pw_give hP hK hD⟩ rfl rfl hl.1 rfl (lv_room (Nat.le_of_ble_eq_true rfl)) dX9_rightOf_118 ⟨Nat.le_of_ble_eq_true rfl, Nat.le_of_ble_eq_true rfl⟩) hS (fun q _ h => hF q h) hF (fun r_13 u t H1 locs ht hvm hw hB hz1 hk1 hS => ?_)
      subst hw
      obtain ⟨hP, hD⟩ := pw_back hF ht hB
      clear hB hk1 hz1 hF
      generalize H1 = H at hP hS ⊢
      refine lv_if_eq (tgt := 128) hx hb dX9_rightOf_121 (by decide) (fun c_14 => ?_) (fun c_14 => ?_)
      · have hR := (if_pos c_14).symm.trans hR
        refine lv_iconst (v := (0 : Int32)) hx hb dX9_rightOf_128 (by decide) ?_
        have hI9 : IR σ := hI
        subst hR
        rw [hQ]
        exact W.iret (v := (0 : Int32)) hx hb hr (fun t ht hW => ⟨⟨(0 : Int32), (), rfl, rfl, ⟨by rw [ht]; exact hP, va_K.moved hW.alike hK, by rw [← hAe]; exact hD⟩, hI9⟩, hS.F ht⟩) hS.2.2 dX9_rightOf_129
      · have hR := (if_neg c_14).symm.trans hR
        refine lv_iconst (v := (1 : Int32)) hx hb dX9_rightOf_124 (by decide) ?_
        refine lv_goto (tgt := 129) hx hb dX9_rightOf_125 (by decide) ?_
        have hI9 : IR σ := hI
        subst hR
        rw [hQ]
        exact W.iret (v := (1 : Int32)) hx hb hr (fun t ht hW => ⟨⟨(1 : Int32), (), rfl, rfl, ⟨by rw [ht]; exact hP, va_K.moved hW.alike hK, by rw [← hAe]; exact hD⟩, hI9⟩, hS.F ht⟩) hS.2.2 dX9_rightOf_129
    have hR := (if_neg c_12).symm.trans hR
    by_cases c_15 : a2 = (7 : Int32)
    · have hR := (if_pos c_15).symm.trans hR
      refine lv_tableIn (tgt := 130) hx hb dX9_rightOf_18 (by rw [c_15]; decide) (by rw [c_15]; decide) (by rw [c_15]; rfl) (by decide) ?_
      refine lv_aload_n hx hb dX9_rightOf_130 rfl (lv_at hl 0 rfl) ?_
      refine va_get (D := D) (ci := 9) (v := .ref (ad 31)) (C := RX9) (T := TX9) (N := 51) hx hb hts hu9 hown hK hP 0 wm_0 rfl 31 (by decide) (hts (.fieldLink RX9 68 "GrazeBookModel" "rOf" "[I") (List.mem_cons_of_mem _ mw_814)) (fun _ h9 => h9) rfl dX9_rightOf_131 ?_
      refine lv_iload_n hx hb dX9_rightOf_134 rfl (lv_at hl 1 rfl) ?_
      refine va_iald_k (k := (a1.toNatClampNeg)) (v := (σ 31 (a1.toNatClampNeg))) hx hb hK hP 20 0 wm_a31 rfl rfl rfl (ix_isIn c_2 (ir_5 hI)) dX9_rightOf_135 ?_
      have hI9 : IR σ := hI
      subst hR
      rw [hQ]
      exact W.iret (v := (σ 31 (a1.toNatClampNeg))) hx hb hr (fun t ht hW => ⟨⟨(σ 31 (a1.toNatClampNeg)), (), rfl, rfl, ⟨by rw [ht]; exact hP, va_K.moved hW.alike hK, by rw [← hAe]; exact hD⟩, hI9⟩, hS.F ht⟩) hS.2.2 dX9_rightOf_136
    have hR := (if_neg c_15).symm.trans hR
    by_cases c_16 : a2 = (8 : Int32)
    · have hR := (if_pos c_16).symm.trans hR
      refine lv_tableIn (tgt := 137) hx hb dX9_rightOf_18 (by rw [c_16]; decide) (by rw [c_16]; decide) (by rw [c_16]; rfl) (by decide) ?_
      refine lv_aload_n hx hb dX9_rightOf_137 rfl (lv_at hl 0 rfl) ?_
      refine va_get (D := D) (ci := 9) (v := .ref (ad 32)) (C := RX9) (T := TX9) (N := 51) hx hb hts hu9 hown hK hP 0 wm_0 rfl 32 (by decide) (hts (.fieldLink RX9 71 "GrazeBookModel" "rUsed" "[I") (List.mem_cons_of_mem _ mw_815)) (fun _ h9 => h9) rfl dX9_rightOf_138 ?_
      refine lv_iload_n hx hb dX9_rightOf_141 rfl (lv_at hl 1 rfl) ?_
      refine va_iald_k (k := (a1.toNatClampNeg)) (v := (σ 32 (a1.toNatClampNeg))) hx hb hK hP 21 0 wm_a32 rfl rfl rfl (ix_isIn c_2 (ir_5 hI)) dX9_rightOf_142 ?_
      have hI9 : IR σ := hI
      subst hR
      rw [hQ]
      exact W.iret (v := (σ 32 (a1.toNatClampNeg))) hx hb hr (fun t ht hW => ⟨⟨(σ 32 (a1.toNatClampNeg)), (), rfl, rfl, ⟨by rw [ht]; exact hP, va_K.moved hW.alike hK, by rw [← hAe]; exact hD⟩, hI9⟩, hS.F ht⟩) hS.2.2 dX9_rightOf_143
    have hR := (if_neg c_16).symm.trans hR
    refine lv_tableOut (tgt := 144) hx hb dX9_rightOf_18 (sw_out8 c_3 c_4 c_6 c_8 c_9 c_10 c_12 c_15 c_16) (by decide) ?_
    refine lv_aload_n hx hb dX9_rightOf_144 rfl (lv_at hl 0 rfl) ?_
    refine lv_bipush (v := (-2 : Int32)) hx hb dX9_rightOf_145 (by decide) ?_
    have hF := pw_free hD hS hA
    refine va_calli (va_runV (As := [.int (-2 : Int32)]) (rest := []) ⟨hx, hb, hml, hown, hts⟩ (k_X9_refuse l D ca h ad σ (-2 : Int32) H.size hI (by unfold vp_in; decide) _ rfl) (cwV 1 hts gX9_rightOf_X9_refuse rfl rfl rfl (by decide +kernel) ⟨Nat.le_of_ble_eq_true rfl, Nat.le_of_ble_eq_true rfl⟩) ⟨pw_blind, va_recv hK hP (ci := 9) (q0 := 0) rfl wm_0, pw_give hP hK hD⟩ rfl rfl hl.1 rfl (lv_room (Nat.le_of_ble_eq_true rfl)) dX9_rightOf_147 ⟨Nat.le_of_ble_eq_true rfl, Nat.le_of_ble_eq_true rfl⟩) hS (fun q _ h => hF q h) hF (fun r_17 u t H1 locs ht hvm hw hB hz1 hk1 hS => ?_)
    subst hw
    obtain ⟨hB, hI_18⟩ := hB
    obtain ⟨hP, hD⟩ := pw_back hF ht hB
    clear hB hk1 hz1 hF
    generalize H1 = H at hP hS ⊢
    have hI9 : IR ((s_X9_refuse σ (-2 : Int32)).2) := hI_18
    subst hR
    rw [hQ]
    exact W.iret (v := ((s_X9_refuse σ (-2 : Int32)).1)) hx hb hr (fun t ht hW => ⟨⟨((s_X9_refuse σ (-2 : Int32)).1), (), rfl, rfl, ⟨by rw [ht]; exact hP, va_K.moved hW.alike hK, by rw [← hAe]; exact hD⟩, hI9⟩, hS.F ht⟩) hS.2.2 dX9_rightOf_150
  · have hR := (if_pos c_2).symm.trans hR
    refine lv_aload_n hx hb dX9_rightOf_11 rfl (lv_at hl 0 rfl) ?_
    refine lv_iconst (v := (-1 : Int32)) hx hb dX9_rightOf_12 (by decide) ?_
    have hF := pw_free hD hS hA
    refine va_calli (va_runV (As := [.int (-1 : Int32)]) (rest := []) ⟨hx, hb, hml, hown, hts⟩ (k_X9_refuse l D ca h ad σ (-1 : Int32) H.size hI (by unfold vp_in; decide) _ rfl) (cwV 1 hts gX9_rightOf_X9_refuse rfl rfl rfl (by decide +kernel) ⟨Nat.le_of_ble_eq_true rfl, Nat.le_of_ble_eq_true rfl⟩) ⟨pw_blind, va_recv hK hP (ci := 9) (q0 := 0) rfl wm_0, pw_give hP hK hD⟩ rfl rfl hl.1 rfl (lv_room (Nat.le_of_ble_eq_true rfl)) dX9_rightOf_13 ⟨Nat.le_of_ble_eq_true rfl, Nat.le_of_ble_eq_true rfl⟩) hS (fun q _ h => hF q h) hF (fun r_19 u t H1 locs ht hvm hw hB hz1 hk1 hS => ?_)
    subst hw
    obtain ⟨hB, hI_20⟩ := hB
    obtain ⟨hP, hD⟩ := pw_back hF ht hB
    clear hB hk1 hz1 hF
    generalize H1 = H at hP hS ⊢
    have hI9 : IR ((s_X9_refuse σ (-1 : Int32)).2) := hI_20
    subst hR
    rw [hQ]
    exact W.iret (v := ((s_X9_refuse σ (-1 : Int32)).1)) hx hb hr (fun t ht hW => ⟨⟨((s_X9_refuse σ (-1 : Int32)).1), (), rfl, rfl, ⟨by rw [ht]; exact hP, va_K.moved hW.alike hK, by rw [← hAe]; exact hD⟩, hI9⟩, hS.F ht⟩) hS.2.2 dX9_rightOf_16

def s_X9_herdOf (σ : St) (a1 : Int32) (a2 : Int32) : Int32 × St := (if (s_X9_isIn a1 (σ 6 0)) = (0 : Int32) then (((s_X9_refuse σ (-1 : Int32)).1), (s_X9_refuse σ (-1 : Int32)).2) else (if a2 = (0 : Int32) then ((σ 35 (a1.toNatClampNeg)), σ) else (if a2 = (1 : Int32) then ((σ 36 (a1.toNatClampNeg)), σ) else (if a2 = (2 : Int32) then ((σ 37 (a1.toNatClampNeg)), σ) else (if a2 = (3 : Int32) then ((σ 38 (a1.toNatClampNeg)), σ) else (if a2 = (4 : Int32) then ((σ 40 (a1.toNatClampNeg)), σ) else (if a2 = (5 : Int32) then ((σ 41 (a1.toNatClampNeg)), σ) else (if a2 = (6 : Int32) then ((s_X9_feeOf σ a1), σ) else (((s_X9_refuse σ (-2 : Int32)).1), (s_X9_refuse σ (-2 : Int32)).2)))))))))
theorem fr_s_X9_herdOf (σ : St) (a1 : Int32) (a2 : Int32) {f : Nat} (h0 : f ≠ 0) : (s_X9_herdOf σ a1 a2 ).2 f = σ f := by
  unfold s_X9_herdOf
  all_goals ((try dsimp only) <;> ((repeat' split) <;> (try simp only [put_fr, ne_eq, not_false_eq_true, h0, fr_s_X9_refuse])))
set_option maxHeartbeats 1000000 in
set_option maxRecDepth 100000 in
theorem k_X9_herdOf (l : Launch) (D : va_G) (ca : Nat → ClassId) (h : Nat) (ad : Nat → Nat) (σ : St) (a1 : Int32) (a2 : Int32) (sz : Nat) (hI : IR σ)  (R : Int32 × St) (hR : s_X9_herdOf σ a1 a2 = R) : Met l yX9_herdOf wsX9_herdOf ({ frames := 1, cells := 0, slots := 0, locals := 21 }) (va_Pc [.ref h, .int a1, .int a2] (pw_pre D ca (WM ca h ad σ) sz)) (va_Qi (fun (r : Int32) (_ : Unit) => r = R.1) (fun (_ : Unit) (t : State) => pw_post D ca (WM ca h ad σ) sz (WM ca h ad (R.2)) t ∧ IR R.2) (va_A (WM ca h ad σ) sz)) 0 0 (va_A (WM ca h ad σ) sz) := by
  refine Met.ofW (cc := cX9_herdOf) (maxL := 3) (ret := (some .int)) (by decide) rfl ?_
  intro p e s m args below meth c s₁ B hml hv
  obtain ⟨rfl, hsz, hP, hK, hD0⟩ := hv
  have hx := B.exec
  have hb := B.bytes
  have hr := B.returns
  have hts := atoms_spec (ws := wsX9_herdOf) B.pre
  have hown : s.vm.findClass RX9 = some m.cls := findClass_of_methodNamed B.named
  have hlocks := B.notSynchronized
  have hu9 : ∀ w ∈ u_ws RX9 TX9 51, w ∈ wsX9_herdOf := fun w h => List.mem_cons_of_mem _ (uw9 w h)
  subst hsz
  have hD := hD0.self (sz := s.heap.size)
  obtain ⟨A, hAe⟩ : ∃ A, A = va_A (WM ca h ad σ) s.heap.size := ⟨_, rfl⟩
  rw [← hAe] at hD ⊢
  have hA : ∀ q : Nat, s.heap.size ≤ q → A q := fun q h => by rw [hAe]; exact Or.inr h
  have hS : va_S A s.heap s.heap [] := va_S.rf
  have hl := lv_entry ([.ref h, .int a1, .int a2]) (n := 3) (Nat.le_of_ble_eq_true rfl)
  rw [lg_entry_eq]
  generalize (lg_sl ([.ref h, .int a1, .int a2]) ++ List.replicate (3 - (lg_sl ([.ref h, .int a1, .int a2])).length) Slot.unset).toArray = ls at hl ⊢
  have hl : lv_has ls 3 [(0, .ref h), (1, .int a1), (2, .int a2)] := hl
  obtain ⟨H, hH⟩ : ∃ H, H = s.heap := ⟨_, rfl⟩
  have hP : va_P D vwCl (WM ca h ad σ) H := by rw [hH]; exact hP
  have hS : va_S A s.heap H [] := by rw [hH]; exact hS
  obtain ⟨QQ, hQ⟩ : ∃ Q9, Q9 = MQ below (va_Qi (fun (r : Int32) (_ : Unit) => r = R.1) (fun (_ : Unit) (t : State) => pw_post D ca (WM ca h ad σ) s.heap.size (WM ca h ad (R.2)) t ∧ IR R.2) A) ([.ref h, .int a1, .int a2] : List Value).toArray s 0 0 A := ⟨_, rfl⟩
  rw [← hQ]
  show W _ _ _ _ _ _ _ _ _ _ s.heap _ _ _ _ _
  rw [← hH]
  have hR : (if (s_X9_isIn a1 (σ 6 0)) = (0 : Int32) then (((s_X9_refuse σ (-1 : Int32)).1), (s_X9_refuse σ (-1 : Int32)).2) else (if a2 = (0 : Int32) then ((σ 35 (a1.toNatClampNeg)), σ) else (if a2 = (1 : Int32) then ((σ 36 (a1.toNatClampNeg)), σ) else (if a2 = (2 : Int32) then ((σ 37 (a1.toNatClampNeg)), σ) else (if a2 = (3 : Int32) then ((σ 38 (a1.toNatClampNeg)), σ) else (if a2 = (4 : Int32) then ((σ 40 (a1.toNatClampNeg)), σ) else (if a2 = (5 : Int32) then ((σ 41 (a1.toNatClampNeg)), σ) else (if a2 = (6 : Int32) then ((s_X9_feeOf σ a1), σ) else (((s_X9_refuse σ (-2 : Int32)).1), (s_X9_refuse σ (-2 : Int32)).2))))))))) = R := hR
  refine lv_iload_n hx hb dX9_herdOf_0 rfl (lv_at hl 1 rfl) ?_
  refine lv_aload_n hx hb dX9_herdOf_1 rfl (lv_at hl 0 rfl) ?_
  refine va_get (D := D) (ci := 9) (v := .int (σ 6 0)) (C := RX9) (T := TX9) (N := 51) hx hb hts hu9 hown hK hP 0 wm_0 rfl 6 (by decide) (hts (.fieldLink RX9 164 "GrazeBookModel" "herds" "I") (List.mem_cons_of_mem _ mw_789)) (fun _ h9 => h9) rfl dX9_herdOf_2 ?_
  have hF := pw_free (pn_D (A := A)) hS hA
  refine va_calli (va_runS (As := [.int a1, .int (σ 6 0)]) (rest := []) ⟨hx, hb, hml, hown, hts⟩ (k_X9_isIn l D ca a1 (σ 6 0) H.size _ rfl) (va_cwS 2 hts gX9_herdOf_X9_isIn rfl rfl rfl (by decide +kernel) ⟨Nat.le_of_ble_eq_true rfl, Nat.le_of_ble_eq_true rfl⟩) ⟨pw_blind, pw_give pn_P hK (pn_D (A := A))⟩ rfl rfl hl.1 rfl (lv_room (Nat.le_of_ble_eq_true rfl)) dX9_herdOf_5 ⟨Nat.le_of_ble_eq_true rfl, Nat.le_of_ble_eq_true rfl⟩) hS (fun q _ h => hF q h) hF (fun r_1 u t H1 locs ht hvm hw hB hz1 hk1 hS => ?_)
  subst hw
  have hP := pn_back hP hk1
  clear hB hk1 hz1 hF
  generalize H1 = H at hP hS ⊢
  refine lv_if_ne (tgt := 17) hx hb dX9_herdOf_8 (by decide) (fun c_2 => ?_) (fun c_2 => ?_)
  · have hR := (if_neg c_2).symm.trans hR
    refine lv_iload_n hx hb dX9_herdOf_17 rfl (lv_at hl 2 rfl) ?_
    by_cases c_3 : a2 = (0 : Int32)
    · have hR := (if_pos c_3).symm.trans hR
      refine lv_tableIn (tgt := 60) hx hb dX9_herdOf_18 (by rw [c_3]; decide) (by rw [c_3]; decide) (by rw [c_3]; rfl) (by decide) ?_
      refine lv_aload_n hx hb dX9_herdOf_60 rfl (lv_at hl 0 rfl) ?_
      refine va_get (D := D) (ci := 9) (v := .ref (ad 35)) (C := RX9) (T := TX9) (N := 51) hx hb hts hu9 hown hK hP 0 wm_0 rfl 35 (by decide) (hts (.fieldLink RX9 80 "GrazeBookModel" "hOwner" "[I") (List.mem_cons_of_mem _ mw_818)) (fun _ h9 => h9) rfl dX9_herdOf_61 ?_
      refine lv_iload_n hx hb dX9_herdOf_64 rfl (lv_at hl 1 rfl) ?_
      refine va_iald_k (k := (a1.toNatClampNeg)) (v := (σ 35 (a1.toNatClampNeg))) hx hb hK hP 24 0 wm_a35 rfl rfl rfl (ix_isIn c_2 (ir_6 hI)) dX9_herdOf_65 ?_
      have hI9 : IR σ := hI
      subst hR
      rw [hQ]
      exact W.iret (v := (σ 35 (a1.toNatClampNeg))) hx hb hr (fun t ht hW => ⟨⟨(σ 35 (a1.toNatClampNeg)), (), rfl, rfl, ⟨by rw [ht]; exact hP, va_K.moved hW.alike hK, by rw [← hAe]; exact hD⟩, hI9⟩, hS.F ht⟩) hS.2.2 dX9_herdOf_66
    have hR := (if_neg c_3).symm.trans hR
    by_cases c_4 : a2 = (1 : Int32)
    · have hR := (if_pos c_4).symm.trans hR
      refine lv_tableIn (tgt := 67) hx hb dX9_herdOf_18 (by rw [c_4]; decide) (by rw [c_4]; decide) (by rw [c_4]; rfl) (by decide) ?_
      refine lv_aload_n hx hb dX9_herdOf_67 rfl (lv_at hl 0 rfl) ?_
      refine va_get (D := D) (ci := 9) (v := .ref (ad 36)) (C := RX9) (T := TX9) (N := 51) hx hb hts hu9 hown hK hP 0 wm_0 rfl 36 (by decide) (hts (.fieldLink RX9 83 "GrazeBookModel" "hSort" "[I") (List.mem_cons_of_mem _ mw_819)) (fun _ h9 => h9) rfl dX9_herdOf_68 ?_
      refine lv_iload_n hx hb dX9_herdOf_71 rfl (lv_at hl 1 rfl) ?_
      refine va_iald_k (k := (a1.toNatClampNeg)) (v := (σ 36 (a1.toNatClampNeg))) hx hb hK hP 25 0 wm_a36 rfl rfl rfl (ix_isIn c_2 (ir_6 hI)) dX9_herdOf_72 ?_
      have hI9 : IR σ := hI
      subst hR
      rw [hQ]
      exact W.iret (v := (σ 36 (a1.toNatClampNeg))) hx hb hr (fun t ht hW => ⟨⟨(σ 36 (a1.toNatClampNeg)), (), rfl, rfl, ⟨by rw [ht]; exact hP, va_K.moved hW.alike hK, by rw [← hAe]; exact hD⟩, hI9⟩, hS.F ht⟩) hS.2.2 dX9_herdOf_73
    have hR := (if_neg c_4).symm.trans hR
    by_cases c_5 : a2 = (2 : Int32)
    · have hR := (if_pos c_5).symm.trans hR
      refine lv_tableIn (tgt := 74) hx hb dX9_herdOf_18 (by rw [c_5]; decide) (by rw [c_5]; decide) (by rw [c_5]; rfl) (by decide) ?_
      refine lv_aload_n hx hb dX9_herdOf_74 rfl (lv_at hl 0 rfl) ?_
      refine va_get (D := D) (ci := 9) (v := .ref (ad 37)) (C := RX9) (T := TX9) (N := 51) hx hb hts hu9 hown hK hP 0 wm_0 rfl 37 (by decide) (hts (.fieldLink RX9 86 "GrazeBookModel" "hMany" "[I") (List.mem_cons_of_mem _ mw_820)) (fun _ h9 => h9) rfl dX9_herdOf_75 ?_
      refine lv_iload_n hx hb dX9_herdOf_78 rfl (lv_at hl 1 rfl) ?_
      refine va_iald_k (k := (a1.toNatClampNeg)) (v := (σ 37 (a1.toNatClampNeg))) hx hb hK hP 26 0 wm_a37 rfl rfl rfl (ix_isIn c_2 (ir_6 hI)) dX9_herdOf_79 ?_
      have hI9 : IR σ := hI
      subst hR
      rw [hQ]
      exact W.iret (v := (σ 37 (a1.toNatClampNeg))) hx hb hr (fun t ht hW => ⟨⟨(σ 37 (a1.toNatClampNeg)), (), rfl, rfl, ⟨by rw [ht]; exact hP, va_K.moved hW.alike hK, by rw [← hAe]; exact hD⟩, hI9⟩, hS.F ht⟩) hS.2.2 dX9_herdOf_80
    have hR := (if_neg c_5).symm.trans hR
    by_cases c_6 : a2 = (3 : Int32)
    · have hR := (if_pos c_6).symm.trans hR
      refine lv_tableIn (tgt := 81) hx hb dX9_herdOf_18 (by rw [c_6]; decide) (by rw [c_6]; decide) (by rw [c_6]; rfl) (by decide) ?_
      refine lv_aload_n hx hb dX9_herdOf_81 rfl (lv_at hl 0 rfl) ?_
      refine va_get (D := D) (ci := 9) (v := .ref (ad 38)) (C := RX9) (T := TX9) (N := 51) hx hb hts hu9 hown hK hP 0 wm_0 rfl 38 (by decide) (hts (.fieldLink RX9 89 "GrazeBookModel" "hPiece" "[I") (List.mem_cons_of_mem _ mw_821)) (fun _ h9 => h9) rfl dX9_herdOf_82 ?_
      refine lv_iload_n hx hb dX9_herdOf_85 rfl (lv_at hl 1 rfl) ?_
      refine va_iald_k (k := (a1.toNatClampNeg)) (v := (σ 38 (a1.toNatClampNeg))) hx hb hK hP 27 0 wm_a38 rfl rfl rfl (ix_isIn c_2 (ir_6 hI)) dX9_herdOf_86 ?_
      have hI9 : IR σ := hI
      subst hR
      rw [hQ]
      exact W.iret (v := (σ 38 (a1.toNatClampNeg))) hx hb hr (fun t ht hW => ⟨⟨(σ 38 (a1.toNatClampNeg)), (), rfl, rfl, ⟨by rw [ht]; exact hP, va_K.moved hW.alike hK, by rw [← hAe]; exact hD⟩, hI9⟩, hS.F ht⟩) hS.2.2 dX9_herdOf_87
    have hR := (if_neg c_6).symm.trans hR
    by_cases c_7 : a2 = (4 : Int32)
    · have hR := (if_pos c_7).symm.trans hR
      refine lv_tableIn (tgt := 88) hx hb dX9_herdOf_18 (by rw [c_7]; decide) (by rw [c_7]; decide) (by rw [c_7]; rfl) (by decide) ?_
      refine lv_aload_n hx hb dX9_herdOf_88 rfl (lv_at hl 0 rfl) ?_
      refine va_get (D := D) (ci := 9) (v := .ref (ad 40)) (C := RX9) (T := TX9) (N := 51) hx hb hts hu9 hown hK hP 0 wm_0 rfl 40 (by decide) (hts (.fieldLink RX9 95 "GrazeBookModel" "hHunger" "[I") (List.mem_cons_of_mem _ mw_823)) (fun _ h9 => h9) rfl dX9_herdOf_89 ?_
      refine lv_iload_n hx hb dX9_herdOf_92 rfl (lv_at hl 1 rfl) ?_
      refine va_iald_k (k := (a1.toNatClampNeg)) (v := (σ 40 (a1.toNatClampNeg))) hx hb hK hP 29 0 wm_a40 rfl rfl rfl (ix_isIn c_2 (ir_6 hI)) dX9_herdOf_93 ?_
      have hI9 : IR σ := hI
      subst hR
      rw [hQ]
      exact W.iret (v := (σ 40 (a1.toNatClampNeg))) hx hb hr (fun t ht hW => ⟨⟨(σ 40 (a1.toNatClampNeg)), (), rfl, rfl, ⟨by rw [ht]; exact hP, va_K.moved hW.alike hK, by rw [← hAe]; exact hD⟩, hI9⟩, hS.F ht⟩) hS.2.2 dX9_herdOf_94
    have hR := (if_neg c_7).symm.trans hR
    by_cases c_8 : a2 = (5 : Int32)
    · have hR := (if_pos c_8).symm.trans hR
      refine lv_tableIn (tgt := 95) hx hb dX9_herdOf_18 (by rw [c_8]; decide) (by rw [c_8]; decide) (by rw [c_8]; rfl) (by decide) ?_
      refine lv_aload_n hx hb dX9_herdOf_95 rfl (lv_at hl 0 rfl) ?_
      refine va_get (D := D) (ci := 9) (v := .ref (ad 41)) (C := RX9) (T := TX9) (N := 51) hx hb hts hu9 hown hK hP 0 wm_0 rfl 41 (by decide) (hts (.fieldLink RX9 98 "GrazeBookModel" "hState" "[I") (List.mem_cons_of_mem _ mw_824)) (fun _ h9 => h9) rfl dX9_herdOf_96 ?_
      refine lv_iload_n hx hb dX9_herdOf_99 rfl (lv_at hl 1 rfl) ?_
      refine va_iald_k (k := (a1.toNatClampNeg)) (v := (σ 41 (a1.toNatClampNeg))) hx hb hK hP 30 0 wm_a41 rfl rfl rfl (ix_isIn c_2 (ir_6 hI)) dX9_herdOf_100 ?_
      have hI9 : IR σ := hI
      subst hR
      rw [hQ]
      exact W.iret (v := (σ 41 (a1.toNatClampNeg))) hx hb hr (fun t ht hW => ⟨⟨(σ 41 (a1.toNatClampNeg)), (), rfl, rfl, ⟨by rw [ht]; exact hP, va_K.moved hW.alike hK, by rw [← hAe]; exact hD⟩, hI9⟩, hS.F ht⟩) hS.2.2 dX9_herdOf_101
    have hR := (if_neg c_8).symm.trans hR
    by_cases c_9 : a2 = (6 : Int32)
    · have hR := (if_pos c_9).symm.trans hR
      refine lv_tableIn (tgt := 102) hx hb dX9_herdOf_18 (by rw [c_9]; decide) (by rw [c_9]; decide) (by rw [c_9]; rfl) (by decide) ?_
      refine lv_aload_n hx hb dX9_herdOf_102 rfl (lv_at hl 0 rfl) ?_
      refine lv_iload_n hx hb dX9_herdOf_103 rfl (lv_at hl 1 rfl) ?_
      have hF := pw_free hD hS hA
      refine va_calli (va_runV (As := [.int a1]) (rest := []) ⟨hx, hb, hml, hown, hts⟩ (k_X9_feeOf l D ca h ad σ a1 H.size hI (ix_isIn c_2 (ir_6 hI)) _ rfl) (cwV 1 hts gX9_herdOf_X9_feeOf rfl rfl rfl (by decide +kernel) ⟨Nat.le_of_ble_eq_true rfl, Nat.le_of_ble_eq_true rfl⟩) ⟨pw_blind, va_recv hK hP (ci := 9) (q0 := 0) rfl wm_0, pw_give hP hK hD⟩ rfl rfl hl.1 rfl (lv_room (Nat.le_of_ble_eq_true rfl)) dX9_herdOf_104 ⟨Nat.le_of_ble_eq_true rfl, Nat.le_of_ble_eq_true rfl⟩) hS (fun q _ h => hF q h) hF (fun r_10 u t H1 locs ht hvm hw hB hz1 hk1 hS => ?_)
      subst hw
      obtain ⟨hP, hD⟩ := pw_back hF ht hB
      clear hB hk1 hz1 hF
      generalize H1 = H at hP hS ⊢
      have hI9 : IR σ := hI
      subst hR
      rw [hQ]
      exact W.iret (v := (s_X9_feeOf σ a1)) hx hb hr (fun t ht hW => ⟨⟨(s_X9_feeOf σ a1), (), rfl, rfl, ⟨by rw [ht]; exact hP, va_K.moved hW.alike hK, by rw [← hAe]; exact hD⟩, hI9⟩, hS.F ht⟩) hS.2.2 dX9_herdOf_107
    have hR := (if_neg c_9).symm.trans hR
    refine lv_tableOut (tgt := 108) hx hb dX9_herdOf_18 (sw_out6 c_3 c_4 c_5 c_6 c_7 c_8 c_9) (by decide) ?_
    refine lv_aload_n hx hb dX9_herdOf_108 rfl (lv_at hl 0 rfl) ?_
    refine lv_bipush (v := (-2 : Int32)) hx hb dX9_herdOf_109 (by decide) ?_
    have hF := pw_free hD hS hA
    refine va_calli (va_runV (As := [.int (-2 : Int32)]) (rest := []) ⟨hx, hb, hml, hown, hts⟩ (k_X9_refuse l D ca h ad σ (-2 : Int32) H.size hI (by unfold vp_in; decide) _ rfl) (cwV 1 hts gX9_herdOf_X9_refuse rfl rfl rfl (by decide +kernel) ⟨Nat.le_of_ble_eq_true rfl, Nat.le_of_ble_eq_true rfl⟩) ⟨pw_blind, va_recv hK hP (ci := 9) (q0 := 0) rfl wm_0, pw_give hP hK hD⟩ rfl rfl hl.1 rfl (lv_room (Nat.le_of_ble_eq_true rfl)) dX9_herdOf_111 ⟨Nat.le_of_ble_eq_true rfl, Nat.le_of_ble_eq_true rfl⟩) hS (fun q _ h => hF q h) hF (fun r_11 u t H1 locs ht hvm hw hB hz1 hk1 hS => ?_)
    subst hw
    obtain ⟨hB, hI_12⟩ := hB
    obtain ⟨hP, hD⟩ := pw_back hF ht hB
    clear hB hk1 hz1 hF
    generalize H1 = H at hP hS ⊢
    have hI9 : IR ((s_X9_refuse σ (-2 : Int32)).2) := hI_12
    subst hR
    rw [hQ]
    exact W.iret (v := ((s_X9_refuse σ (-2 : Int32)).1)) hx hb hr (fun t ht hW => ⟨⟨((s_X9_refuse σ (-2 : Int32)).1), (), rfl, rfl, ⟨by rw [ht]; exact hP, va_K.moved hW.alike hK, by rw [← hAe]; exact hD⟩, hI9⟩, hS.F ht⟩) hS.2.2 dX9_herdOf_114
  · have hR := (if_pos c_2).symm.trans hR
    refine lv_aload_n hx hb dX9_herdOf_11 rfl (lv_at hl 0 rfl) ?_
    refine lv_iconst (v := (-1 : Int32)) hx hb dX9_herdOf_12 (by decide) ?_
    have hF := pw_free hD hS hA
    refine va_calli (va_runV (As := [.int (-1 : Int32)]) (rest := []) ⟨hx, hb, hml, hown, hts⟩ (k_X9_refuse l D ca h ad σ (-1 : Int32) H.size hI (by unfold vp_in; decide) _ rfl) (cwV 1 hts gX9_herdOf_X9_refuse rfl rfl rfl (by decide +kernel) ⟨Nat.le_of_ble_eq_true rfl, Nat.le_of_ble_eq_true rfl⟩) ⟨pw_blind, va_recv hK hP (ci := 9) (q0 := 0) rfl wm_0, pw_give hP hK hD⟩ rfl rfl hl.1 rfl (lv_room (Nat.le_of_ble_eq_true rfl)) dX9_herdOf_13 ⟨Nat.le_of_ble_eq_true rfl, Nat.le_of_ble_eq_true rfl⟩) hS (fun q _ h => hF q h) hF (fun r_13 u t H1 locs ht hvm hw hB hz1 hk1 hS => ?_)
    subst hw
    obtain ⟨hB, hI_14⟩ := hB
    obtain ⟨hP, hD⟩ := pw_back hF ht hB
    clear hB hk1 hz1 hF
    generalize H1 = H at hP hS ⊢
    have hI9 : IR ((s_X9_refuse σ (-1 : Int32)).2) := hI_14
    subst hR
    rw [hQ]
    exact W.iret (v := ((s_X9_refuse σ (-1 : Int32)).1)) hx hb hr (fun t ht hW => ⟨⟨((s_X9_refuse σ (-1 : Int32)).1), (), rfl, rfl, ⟨by rw [ht]; exact hP, va_K.moved hW.alike hK, by rw [← hAe]; exact hD⟩, hI9⟩, hS.F ht⟩) hS.2.2 dX9_herdOf_16

def s_X9_ownerOf_c95 (σ : St) : Int32 → Int32 × St := fun x9 => match x9 with
  | v3_7 => (v3_7, σ)
def s_X9_ownerOf_l95 (σ : St) (a1 : Int32) (k_7 : Nat) : Int32 → Int32 := fun x9 => match x9 with
  | v3_7 => (if (s_X9_isOut σ (nI k_7)) = (0 : Int32) then (v3_7 + (0 : Int32)) else (if (σ 35 k_7) = a1 then (v3_7 + (s_X9_partsOfHerd σ (nI k_7))) else (v3_7 + (0 : Int32))))
def s_X9_ownerOf_c148 (σ : St) : Int32 → Int32 × St := fun x9 => match x9 with
  | v3_15 => (v3_15, σ)
def s_X9_ownerOf_l148 (σ : St) (a1 : Int32) (k_15 : Nat) : Int32 → Int32 := fun x9 => match x9 with
  | v3_15 => (if (s_X9_ownerOfRight σ (nI k_15)) = a1 then (v3_15 + (s_X9_partsOf σ (nI k_15))) else (v3_15 + (0 : Int32)))
def s_X9_ownerOf_c95_1 (σ : St) : Int32 → Int32 × St := fun x9 => match x9 with
  | v3_30 => (v3_30, σ)
def s_X9_ownerOf_l95_1 (σ : St) (a1 : Int32) (k_30 : Nat) : Int32 → Int32 := fun x9 => match x9 with
  | v3_30 => (if (s_X9_isOut σ (nI k_30)) = (0 : Int32) then (v3_30 + (0 : Int32)) else (if (σ 35 k_30) = a1 then (v3_30 + (s_X9_partsOfHerd σ (nI k_30))) else (v3_30 + (0 : Int32))))
def s_X9_ownerOf_c148_1 (σ : St) : Int32 → Int32 × St := fun x9 => match x9 with
  | v3_38 => (v3_38, σ)
def s_X9_ownerOf_l148_1 (σ : St) (a1 : Int32) (k_38 : Nat) : Int32 → Int32 := fun x9 => match x9 with
  | v3_38 => (if (s_X9_ownerOfRight σ (nI k_38)) = a1 then (v3_38 + (s_X9_partsOf σ (nI k_38))) else (v3_38 + (0 : Int32)))
def s_X9_ownerOf (σ : St) (a1 : Int32) (a2 : Int32) : Int32 × St := (if a1 = (-1 : Int32) then (if a2 = (0 : Int32) then (if (0 : Int32) ≤ a1 then ((σ 19 (a1.toNatClampNeg)), σ) else ((σ 8 0), σ)) else (if a2 = (1 : Int32) then (if (0 : Int32) ≤ a1 then ((σ 20 (a1.toNatClampNeg)), σ) else ((σ 9 0), σ)) else (if a2 = (2 : Int32) then (s_X9_ownerOf_c95 σ (iter (s_X9_ownerOf_l95 σ a1) ((σ 6 0).toNatClampNeg - 0) 0 (0 : Int32))) else (if a2 = (3 : Int32) then (s_X9_ownerOf_c148 σ (iter (s_X9_ownerOf_l148 σ a1) ((σ 5 0).toNatClampNeg - 0) 0 (0 : Int32))) else (((s_X9_refuse σ (-2 : Int32)).1), (s_X9_refuse σ (-2 : Int32)).2))))) else (if (s_X9_isIn a1 (σ 3 0)) = (0 : Int32) then (((s_X9_refuse σ (-1 : Int32)).1), (s_X9_refuse σ (-1 : Int32)).2) else (if a2 = (0 : Int32) then (if (0 : Int32) ≤ a1 then ((σ 19 (a1.toNatClampNeg)), σ) else ((σ 8 0), σ)) else (if a2 = (1 : Int32) then (if (0 : Int32) ≤ a1 then ((σ 20 (a1.toNatClampNeg)), σ) else ((σ 9 0), σ)) else (if a2 = (2 : Int32) then (s_X9_ownerOf_c95_1 σ (iter (s_X9_ownerOf_l95_1 σ a1) ((σ 6 0).toNatClampNeg - 0) 0 (0 : Int32))) else (if a2 = (3 : Int32) then (s_X9_ownerOf_c148_1 σ (iter (s_X9_ownerOf_l148_1 σ a1) ((σ 5 0).toNatClampNeg - 0) 0 (0 : Int32))) else (((s_X9_refuse σ (-2 : Int32)).1), (s_X9_refuse σ (-2 : Int32)).2)))))))
theorem fr_s_X9_ownerOf_c95 (σ : St) (s : Int32) {f : Nat} (h0 : f ≠ 0) : (s_X9_ownerOf_c95 σ s).2 f = σ f := by
  unfold s_X9_ownerOf_c95
  all_goals ((try dsimp only) <;> ((repeat' split) <;> (try simp only [put_fr, ne_eq, not_false_eq_true, h0, fr_s_X9_refuse])))
theorem fr_s_X9_ownerOf_c148 (σ : St) (s : Int32) {f : Nat} (h0 : f ≠ 0) : (s_X9_ownerOf_c148 σ s).2 f = σ f := by
  unfold s_X9_ownerOf_c148
  all_goals ((try dsimp only) <;> ((repeat' split) <;> (try simp only [put_fr, ne_eq, not_false_eq_true, h0, fr_s_X9_refuse, fr_s_X9_ownerOf_c95])))
theorem fr_s_X9_ownerOf_c95_1 (σ : St) (s : Int32) {f : Nat} (h0 : f ≠ 0) : (s_X9_ownerOf_c95_1 σ s).2 f = σ f := by
  unfold s_X9_ownerOf_c95_1
  all_goals ((try dsimp only) <;> ((repeat' split) <;> (try simp only [put_fr, ne_eq, not_false_eq_true, h0, fr_s_X9_refuse, fr_s_X9_ownerOf_c95, fr_s_X9_ownerOf_c148])))
theorem fr_s_X9_ownerOf_c148_1 (σ : St) (s : Int32) {f : Nat} (h0 : f ≠ 0) : (s_X9_ownerOf_c148_1 σ s).2 f = σ f := by
  unfold s_X9_ownerOf_c148_1
  all_goals ((try dsimp only) <;> ((repeat' split) <;> (try simp only [put_fr, ne_eq, not_false_eq_true, h0, fr_s_X9_refuse, fr_s_X9_ownerOf_c95, fr_s_X9_ownerOf_c148, fr_s_X9_ownerOf_c95_1])))
theorem fr_s_X9_ownerOf (σ : St) (a1 : Int32) (a2 : Int32) {f : Nat} (h0 : f ≠ 0) : (s_X9_ownerOf σ a1 a2 ).2 f = σ f := by
  unfold s_X9_ownerOf
  all_goals ((try dsimp only) <;> ((repeat' split) <;> (try simp only [put_fr, ne_eq, not_false_eq_true, h0, fr_s_X9_refuse, fr_s_X9_ownerOf_c95, fr_s_X9_ownerOf_c148, fr_s_X9_ownerOf_c95_1, fr_s_X9_ownerOf_c148_1])))
set_option maxHeartbeats 1000000 in
set_option maxRecDepth 100000 in
theorem k_X9_ownerOf (l : Launch) (D : va_G) (ca : Nat → ClassId) (h : Nat) (ad : Nat → Nat) (σ : St) (a1 : Int32) (a2 : Int32) (sz : Nat) (hI : IR σ)  (R : Int32 × St) (hR : s_X9_ownerOf σ a1 a2 = R) : Met l yX9_ownerOf wsX9_ownerOf ({ frames := 2, cells := 0, slots := 0, locals := 44 }) (va_Pc [.ref h, .int a1, .int a2] (pw_pre D ca (WM ca h ad σ) sz)) (va_Qi (fun (r : Int32) (_ : Unit) => r = R.1) (fun (_ : Unit) (t : State) => pw_post D ca (WM ca h ad σ) sz (WM ca h ad (R.2)) t ∧ IR R.2) (va_A (WM ca h ad σ) sz)) 0 0 (va_A (WM ca h ad σ) sz) := by
  refine Met.ofW (cc := cX9_ownerOf) (maxL := 5) (ret := (some .int)) (by decide) rfl ?_
  intro p e s m args below meth c s₁ B hml hv
  obtain ⟨rfl, hsz, hP, hK, hD0⟩ := hv
  have hx := B.exec
  have hb := B.bytes
  have hr := B.returns
  have hts := atoms_spec (ws := wsX9_ownerOf) B.pre
  have hown : s.vm.findClass RX9 = some m.cls := findClass_of_methodNamed B.named
  have hlocks := B.notSynchronized
  have hu9 : ∀ w ∈ u_ws RX9 TX9 51, w ∈ wsX9_ownerOf := fun w h => List.mem_cons_of_mem _ (uw9 w h)
  subst hsz
  have hD := hD0.self (sz := s.heap.size)
  obtain ⟨A, hAe⟩ : ∃ A, A = va_A (WM ca h ad σ) s.heap.size := ⟨_, rfl⟩
  rw [← hAe] at hD ⊢
  have hA : ∀ q : Nat, s.heap.size ≤ q → A q := fun q h => by rw [hAe]; exact Or.inr h
  have hS : va_S A s.heap s.heap [] := va_S.rf
  have hl := lv_entry ([.ref h, .int a1, .int a2]) (n := 5) (Nat.le_of_ble_eq_true rfl)
  rw [lg_entry_eq]
  generalize (lg_sl ([.ref h, .int a1, .int a2]) ++ List.replicate (5 - (lg_sl ([.ref h, .int a1, .int a2])).length) Slot.unset).toArray = ls at hl ⊢
  have hl : lv_has ls 5 [(0, .ref h), (1, .int a1), (2, .int a2)] := hl
  obtain ⟨H, hH⟩ : ∃ H, H = s.heap := ⟨_, rfl⟩
  have hP : va_P D vwCl (WM ca h ad σ) H := by rw [hH]; exact hP
  have hS : va_S A s.heap H [] := by rw [hH]; exact hS
  obtain ⟨QQ, hQ⟩ : ∃ Q9, Q9 = MQ below (va_Qi (fun (r : Int32) (_ : Unit) => r = R.1) (fun (_ : Unit) (t : State) => pw_post D ca (WM ca h ad σ) s.heap.size (WM ca h ad (R.2)) t ∧ IR R.2) A) ([.ref h, .int a1, .int a2] : List Value).toArray s 0 0 A := ⟨_, rfl⟩
  rw [← hQ]
  show W _ _ _ _ _ _ _ _ _ _ s.heap _ _ _ _ _
  rw [← hH]
  have hR : (if a1 = (-1 : Int32) then (if a2 = (0 : Int32) then (if (0 : Int32) ≤ a1 then ((σ 19 (a1.toNatClampNeg)), σ) else ((σ 8 0), σ)) else (if a2 = (1 : Int32) then (if (0 : Int32) ≤ a1 then ((σ 20 (a1.toNatClampNeg)), σ) else ((σ 9 0), σ)) else (if a2 = (2 : Int32) then (s_X9_ownerOf_c95 σ (iter (s_X9_ownerOf_l95 σ a1) ((σ 6 0).toNatClampNeg - 0) 0 (0 : Int32))) else (if a2 = (3 : Int32) then (s_X9_ownerOf_c148 σ (iter (s_X9_ownerOf_l148 σ a1) ((σ 5 0).toNatClampNeg - 0) 0 (0 : Int32))) else (((s_X9_refuse σ (-2 : Int32)).1), (s_X9_refuse σ (-2 : Int32)).2))))) else (if (s_X9_isIn a1 (σ 3 0)) = (0 : Int32) then (((s_X9_refuse σ (-1 : Int32)).1), (s_X9_refuse σ (-1 : Int32)).2) else (if a2 = (0 : Int32) then (if (0 : Int32) ≤ a1 then ((σ 19 (a1.toNatClampNeg)), σ) else ((σ 8 0), σ)) else (if a2 = (1 : Int32) then (if (0 : Int32) ≤ a1 then ((σ 20 (a1.toNatClampNeg)), σ) else ((σ 9 0), σ)) else (if a2 = (2 : Int32) then (s_X9_ownerOf_c95_1 σ (iter (s_X9_ownerOf_l95_1 σ a1) ((σ 6 0).toNatClampNeg - 0) 0 (0 : Int32))) else (if a2 = (3 : Int32) then (s_X9_ownerOf_c148_1 σ (iter (s_X9_ownerOf_l148_1 σ a1) ((σ 5 0).toNatClampNeg - 0) 0 (0 : Int32))) else (((s_X9_refuse σ (-2 : Int32)).1), (s_X9_refuse σ (-2 : Int32)).2))))))) = R := hR
  refine lv_iload_n hx hb dX9_ownerOf_0 rfl (lv_at hl 1 rfl) ?_
  refine lv_iconst (v := (-1 : Int32)) hx hb dX9_ownerOf_1 (by decide) ?_
  refine lv_icmp_eq (tgt := 22) hx hb dX9_ownerOf_2 (by decide) (fun c_1 => ?_) (fun c_1 => ?_)
  · have hR := (if_pos c_1).symm.trans hR
    refine lv_iconst (v := (0 : Int32)) hx hb dX9_ownerOf_22 (by decide) ?_
    refine lv_istore_n (lv' := [(3, .int (0 : Int32)), (0, .ref h), (1, .int a1), (2, .int a2)]) hx hb dX9_ownerOf_23 rfl hl (by decide) rfl (fun ls hl => ?_)
    refine lv_iload_n hx hb dX9_ownerOf_24 rfl (lv_at hl 3 rfl) ?_
    by_cases c_2 : a2 = (0 : Int32)
    · have hR := (if_pos c_2).symm.trans hR
      refine lv_tableIn (tgt := 56) hx hb dX9_ownerOf_25 (by rw [c_2]; decide) (by rw [c_2]; decide) (by rw [c_2]; rfl) (by decide) ?_
      refine lv_iload_n hx hb dX9_ownerOf_56 rfl (lv_at hl 2 rfl) ?_
      refine lv_if_ge (tgt := 67) hx hb dX9_ownerOf_57 (by decide) (fun c_3 => ?_) (fun c_3 => ?_)
      · have hR := (if_pos c_3).symm.trans hR
        refine lv_aload_n hx hb dX9_ownerOf_67 rfl (lv_at hl 1 rfl) ?_
        refine va_get (D := D) (ci := 9) (v := .ref (ad 19)) (C := RX9) (T := TX9) (N := 51) hx hb hts hu9 hown hK hP 0 wm_0 rfl 19 (by decide) (hts (.fieldLink RX9 32 "GrazeBookModel" "coins" "[I") (List.mem_cons_of_mem _ mw_802)) (fun _ h9 => h9) rfl dX9_ownerOf_68 ?_
        refine lv_iload_n hx hb dX9_ownerOf_71 rfl (lv_at hl 2 rfl) ?_
        refine va_iald_k (k := (a1.toNatClampNeg)) (v := (σ 19 (a1.toNatClampNeg))) hx hb hK hP 8 0 wm_a19 rfl rfl rfl (absurd c_3 (by rw [c_1]; decide)) dX9_ownerOf_72 ?_
        have hI9 : IR σ := hI
        subst hR
        rw [hQ]
        exact W.iret (v := (σ 19 (a1.toNatClampNeg))) hx hb hr (fun t ht hW => ⟨⟨(σ 19 (a1.toNatClampNeg)), (), rfl, rfl, ⟨by rw [ht]; exact hP, va_K.moved hW.alike hK, by rw [← hAe]; exact hD⟩, hI9⟩, hS.F ht⟩) hS.2.2 dX9_ownerOf_73
      · have hR := (if_neg c_3).symm.trans hR
        refine lv_aload_n hx hb dX9_ownerOf_60 rfl (lv_at hl 1 rfl) ?_
        refine va_get (D := D) (ci := 9) (v := .int (σ 8 0)) (C := RX9) (T := TX9) (N := 51) hx hb hts hu9 hown hK hP 0 wm_0 rfl 8 (by decide) (hts (.fieldLink RX9 205 "GrazeBookModel" "reeveCoins" "I") (List.mem_cons_of_mem _ mw_791)) (fun _ h9 => h9) rfl dX9_ownerOf_61 ?_
        refine lv_goto (tgt := 73) hx hb dX9_ownerOf_64 (by decide) ?_
        have hI9 : IR σ := hI
        subst hR
        rw [hQ]
        exact W.iret (v := (σ 8 0)) hx hb hr (fun t ht hW => ⟨⟨(σ 8 0), (), rfl, rfl, ⟨by rw [ht]; exact hP, va_K.moved hW.alike hK, by rw [← hAe]; exact hD⟩, hI9⟩, hS.F ht⟩) hS.2.2 dX9_ownerOf_73
    have hR := (if_neg c_2).symm.trans hR
    by_cases c_4 : a2 = (1 : Int32)
    · have hR := (if_pos c_4).symm.trans hR
      refine lv_tableIn (tgt := 74) hx hb dX9_ownerOf_25 (by rw [c_4]; decide) (by rw [c_4]; decide) (by rw [c_4]; rfl) (by decide) ?_
      refine lv_iload_n hx hb dX9_ownerOf_74 rfl (lv_at hl 2 rfl) ?_
      refine lv_if_ge (tgt := 85) hx hb dX9_ownerOf_75 (by decide) (fun c_5 => ?_) (fun c_5 => ?_)
      · have hR := (if_pos c_5).symm.trans hR
        refine lv_aload_n hx hb dX9_ownerOf_85 rfl (lv_at hl 1 rfl) ?_
        refine va_get (D := D) (ci := 9) (v := .ref (ad 20)) (C := RX9) (T := TX9) (N := 51) hx hb hts hu9 hown hK hP 0 wm_0 rfl 20 (by decide) (hts (.fieldLink RX9 35 "GrazeBookModel" "hay" "[I") (List.mem_cons_of_mem _ mw_803)) (fun _ h9 => h9) rfl dX9_ownerOf_86 ?_
        refine lv_iload_n hx hb dX9_ownerOf_89 rfl (lv_at hl 2 rfl) ?_
        refine va_iald_k (k := (a1.toNatClampNeg)) (v := (σ 20 (a1.toNatClampNeg))) hx hb hK hP 9 0 wm_a20 rfl rfl rfl (absurd c_5 (by rw [c_1]; decide)) dX9_ownerOf_90 ?_
        have hI9 : IR σ := hI
        subst hR
        rw [hQ]
        exact W.iret (v := (σ 20 (a1.toNatClampNeg))) hx hb hr (fun t ht hW => ⟨⟨(σ 20 (a1.toNatClampNeg)), (), rfl, rfl, ⟨by rw [ht]; exact hP, va_K.moved hW.alike hK, by rw [← hAe]; exact hD⟩, hI9⟩, hS.F ht⟩) hS.2.2 dX9_ownerOf_91
      · have hR := (if_neg c_5).symm.trans hR
        refine lv_aload_n hx hb dX9_ownerOf_78 rfl (lv_at hl 1 rfl) ?_
        refine va_get (D := D) (ci := 9) (v := .int (σ 9 0)) (C := RX9) (T := TX9) (N := 51) hx hb hts hu9 hown hK hP 0 wm_0 rfl 9 (by decide) (hts (.fieldLink RX9 236 "GrazeBookModel" "reeveHay" "I") (List.mem_cons_of_mem _ mw_792)) (fun _ h9 => h9) rfl dX9_ownerOf_79 ?_
        refine lv_goto (tgt := 91) hx hb dX9_ownerOf_82 (by decide) ?_
        have hI9 : IR σ := hI
        subst hR
        rw [hQ]
        exact W.iret (v := (σ 9 0)) hx hb hr (fun t ht hW => ⟨⟨(σ 9 0), (), rfl, rfl, ⟨by rw [ht]; exact hP, va_K.moved hW.alike hK, by rw [← hAe]; exact hD⟩, hI9⟩, hS.F ht⟩) hS.2.2 dX9_ownerOf_91
    have hR := (if_neg c_4).symm.trans hR
    by_cases c_6 : a2 = (2 : Int32)
    · have hR := (if_pos c_6).symm.trans hR
      refine lv_tableIn (tgt := 92) hx hb dX9_ownerOf_25 (by rw [c_6]; decide) (by rw [c_6]; decide) (by rw [c_6]; rfl) (by decide) ?_
      refine lv_iconst (v := (0 : Int32)) hx hb dX9_ownerOf_92 (by decide) ?_
      refine lv_istore (lv' := [(4, .int (0 : Int32)), (3, .int (0 : Int32)), (0, .ref h), (1, .int a1), (2, .int a2)]) hx hb dX9_ownerOf_93 hl (by decide) rfl (fun ls hl => ?_)
      have hE_7 : ∀ (v3_7 : Int32) (H : Heap) (locs : List Loc) (ls : Array Slot), s_X9_ownerOf_c95 σ v3_7 = R → va_P D vwCl (WM ca h ad σ) H → va_D A (WM ca h ad σ) → va_S A s.heap H locs → lv_has ls 5 [(3, .int v3_7)] → W p l e ((headSpec wsX9_ownerOf ({ frames := 2, cells := 0, slots := 0, locals := 44 })).room) s m ([.ref h, .int a1, .int a2] : List Value).toArray below meth c H locs 0 0 QQ (F0 m 143 ls []) := by
        intro v3_7 H locs ls hR hP hD hS hl
        have hR : (v3_7, σ) = R := hR
        refine lv_iload_n hx hb dX9_ownerOf_143 rfl (lv_at hl 0 rfl) ?_
        have hI9 : IR σ := hI
        subst hR
        rw [hQ]
        exact W.iret (v := v3_7) hx hb hr (fun t ht hW => ⟨⟨v3_7, (), rfl, rfl, ⟨by rw [ht]; exact hP, va_K.moved hW.alike hK, by rw [← hAe]; exact hD⟩, hI9⟩, hS.F ht⟩) hS.2.2 dX9_ownerOf_144
      have hL_7 : ∀ (n k_7 : Nat) (v3_7 : Int32) (hk_7 : lpk (σ 6 0) k_7 n) (H : Heap) (locs : List Loc) (ls : Array Slot), s_X9_ownerOf_c95 σ (iter (s_X9_ownerOf_l95 σ a1) n k_7 v3_7) = R → va_P D vwCl (WM ca h ad σ) H → va_D A (WM ca h ad σ) → va_S A s.heap H locs → lv_has ls 5 [(4, .int (nI k_7)), (3, .int v3_7), (0, .ref h), (1, .int a1)] → W p l e ((headSpec wsX9_ownerOf ({ frames := 2, cells := 0, slots := 0, locals := 44 })).room) s m ([.ref h, .int a1, .int a2] : List Value).toArray below meth c H locs 0 0 QQ (F0 m 95 ls []) := by
        intro n
        induction n with
        | zero =>
          intro k_7 v3_7 hk_7 H locs ls hR hP hD hS hl
          refine lv_iload hx hb dX9_ownerOf_95 (lv_at hl 0 rfl) ?_
          refine lv_aload_n hx hb dX9_ownerOf_97 rfl (lv_at hl 2 rfl) ?_
          refine va_get (D := D) (ci := 9) (v := .int (σ 6 0)) (C := RX9) (T := TX9) (N := 51) hx hb hts hu9 hown hK hP 0 wm_0 rfl 6 (by decide) (hts (.fieldLink RX9 164 "GrazeBookModel" "herds" "I") (List.mem_cons_of_mem _ mw_789)) (fun _ h9 => h9) rfl dX9_ownerOf_98 ?_
          refine lv_icmp_ge (tgt := 143) hx hb dX9_ownerOf_101 (by decide) (fun _ => ?_) (fun c_8 => absurd (ge_end hk_7) c_8)
          exact hE_7 v3_7 _ _ _ hR hP hD hS (lv_sub hl [1] rfl)
        | succ n ih =>
          intro k_7 v3_7 hk_7 H locs ls hR hP hD hS hl
          obtain ⟨S_7, hB_7⟩ : ∃ s9, s_X9_ownerOf_l95 σ a1 k_7 v3_7 = s9 := ⟨_, rfl⟩
          have hR : s_X9_ownerOf_c95 σ (iter (s_X9_ownerOf_l95 σ a1) n (k_7 + 1) S_7) = R := by rw [← hB_7]; exact hR
          have hB_7 : (if (s_X9_isOut σ (nI k_7)) = (0 : Int32) then (v3_7 + (0 : Int32)) else (if (σ 35 k_7) = a1 then (v3_7 + (s_X9_partsOfHerd σ (nI k_7))) else (v3_7 + (0 : Int32)))) = S_7 := hB_7
          refine lv_iload hx hb dX9_ownerOf_95 (lv_at hl 0 rfl) ?_
          refine lv_aload_n hx hb dX9_ownerOf_97 rfl (lv_at hl 2 rfl) ?_
          refine va_get (D := D) (ci := 9) (v := .int (σ 6 0)) (C := RX9) (T := TX9) (N := 51) hx hb hts hu9 hown hK hP 0 wm_0 rfl 6 (by decide) (hts (.fieldLink RX9 164 "GrazeBookModel" "herds" "I") (List.mem_cons_of_mem _ mw_789)) (fun _ h9 => h9) rfl dX9_ownerOf_98 ?_
          refine lv_icmp_ge (tgt := 143) hx hb dX9_ownerOf_101 (by decide) (fun c_9 => absurd c_9 (ge_go hk_7)) (fun _ => ?_)
          refine lv_iload_n hx hb dX9_ownerOf_104 rfl (lv_at hl 1 rfl) ?_
          refine lv_aload_n hx hb dX9_ownerOf_105 rfl (lv_at hl 2 rfl) ?_
          refine lv_iload hx hb dX9_ownerOf_106 (lv_at hl 0 rfl) ?_
          have hF := pw_free hD hS hA
          refine va_calli (va_runV (As := [.int (nI k_7)]) (rest := [.int v3_7]) ⟨hx, hb, hml, hown, hts⟩ (k_X9_isOut l D ca h ad σ (nI k_7) H.size hI (ix_loop (N := 20) hk_7 (ir_6 hI) (by decide) (by decide)) _ rfl) (cwV 1 hts gX9_ownerOf_X9_isOut rfl rfl rfl (by decide +kernel) ⟨Nat.le_of_ble_eq_true rfl, Nat.le_of_ble_eq_true rfl⟩) ⟨pw_blind, va_recv hK hP (ci := 9) (q0 := 0) rfl wm_0, pw_give hP hK hD⟩ rfl rfl hl.1 rfl (lv_room (Nat.le_of_ble_eq_true rfl)) dX9_ownerOf_108 ⟨Nat.le_of_ble_eq_true rfl, Nat.le_of_ble_eq_true rfl⟩) hS (fun q _ h => hF q h) hF (fun r_10 u t H1 locs ht hvm hw hB hz1 hk1 hS => ?_)
          subst hw
          obtain ⟨hP, hD⟩ := pw_back hF ht hB
          clear hB hk1 hz1 hF
          generalize H1 = H at hP hS ⊢
          refine lv_if_eq (tgt := 134) hx hb dX9_ownerOf_111 (by decide) (fun c_11 => ?_) (fun c_11 => ?_)
          · have hB_7 := (if_pos c_11).symm.trans hB_7
            refine lv_iconst (v := (0 : Int32)) hx hb dX9_ownerOf_134 (by decide) ?_
            refine lv_iadd hx hb dX9_ownerOf_135 ?_
            refine lv_istore_n (lv' := [(3, .int (v3_7 + (0 : Int32))), (4, .int (nI k_7)), (0, .ref h), (1, .int a1)]) hx hb dX9_ownerOf_136 rfl hl (by decide) rfl (fun ls hl => ?_)
            refine lv_iinc (v := (nI (k_7 + 1))) (lv' := [(4, .int (nI (k_7 + 1))), (3, .int (v3_7 + (0 : Int32))), (0, .ref h), (1, .int a1)]) hx hb dX9_ownerOf_137 hl (k := 1) rfl (by rw [show Int32.ofInt 1 = 1 from by decide]; exact nI_1 _) (by decide) rfl (fun ls hl => ?_)
            refine lv_goto (tgt := 95) hx hb dX9_ownerOf_140 (by decide) ?_
            subst hB_7
            exact ih (k_7 + 1) (v3_7 + (0 : Int32)) (ge_next hk_7)  _ _ _ hR hP hD hS (lv_sub hl [0, 1, 2, 3] rfl)
          · have hB_7 := (if_neg c_11).symm.trans hB_7
            refine lv_aload_n hx hb dX9_ownerOf_114 rfl (lv_at hl 2 rfl) ?_
            refine va_get (D := D) (ci := 9) (v := .ref (ad 35)) (C := RX9) (T := TX9) (N := 51) hx hb hts hu9 hown hK hP 0 wm_0 rfl 35 (by decide) (hts (.fieldLink RX9 80 "GrazeBookModel" "hOwner" "[I") (List.mem_cons_of_mem _ mw_818)) (fun _ h9 => h9) rfl dX9_ownerOf_115 ?_
            refine lv_iload hx hb dX9_ownerOf_118 (lv_at hl 0 rfl) ?_
            refine va_iald_k (k := k_7) (v := (σ 35 k_7)) hx hb hK hP 24 0 wm_a35 rfl (ix_cl hk_7) rfl (ix_loop (N := 20) hk_7 (ir_6 hI) (by decide) (by decide)) dX9_ownerOf_120 ?_
            refine lv_iload_n hx hb dX9_ownerOf_121 rfl (lv_at hl 3 rfl) ?_
            refine lv_icmp_ne (tgt := 134) hx hb dX9_ownerOf_122 (by decide) (fun c_12 => ?_) (fun c_12 => ?_)
            · have hB_7 := (if_neg c_12).symm.trans hB_7
              refine lv_iconst (v := (0 : Int32)) hx hb dX9_ownerOf_134 (by decide) ?_
              refine lv_iadd hx hb dX9_ownerOf_135 ?_
              refine lv_istore_n (lv' := [(3, .int (v3_7 + (0 : Int32))), (4, .int (nI k_7)), (0, .ref h), (1, .int a1)]) hx hb dX9_ownerOf_136 rfl hl (by decide) rfl (fun ls hl => ?_)
              refine lv_iinc (v := (nI (k_7 + 1))) (lv' := [(4, .int (nI (k_7 + 1))), (3, .int (v3_7 + (0 : Int32))), (0, .ref h), (1, .int a1)]) hx hb dX9_ownerOf_137 hl (k := 1) rfl (by rw [show Int32.ofInt 1 = 1 from by decide]; exact nI_1 _) (by decide) rfl (fun ls hl => ?_)
              refine lv_goto (tgt := 95) hx hb dX9_ownerOf_140 (by decide) ?_
              subst hB_7
              exact ih (k_7 + 1) (v3_7 + (0 : Int32)) (ge_next hk_7)  _ _ _ hR hP hD hS (lv_sub hl [0, 1, 2, 3] rfl)
            · have hB_7 := (if_pos c_12).symm.trans hB_7
              refine lv_aload_n hx hb dX9_ownerOf_125 rfl (lv_at hl 2 rfl) ?_
              refine lv_iload hx hb dX9_ownerOf_126 (lv_at hl 0 rfl) ?_
              have hF := pw_free hD hS hA
              refine va_calli (va_runV (As := [.int (nI k_7)]) (rest := [.int v3_7]) ⟨hx, hb, hml, hown, hts⟩ (k_X9_partsOfHerd l D ca h ad σ (nI k_7) H.size hI (ix_loop (N := 20) hk_7 (ir_6 hI) (by decide) (by decide)) _ rfl) (cwV 1 hts gX9_ownerOf_X9_partsOfHerd rfl rfl rfl (by decide +kernel) ⟨Nat.le_of_ble_eq_true rfl, Nat.le_of_ble_eq_true rfl⟩) ⟨pw_blind, va_recv hK hP (ci := 9) (q0 := 0) rfl wm_0, pw_give hP hK hD⟩ rfl rfl hl.1 rfl (lv_room (Nat.le_of_ble_eq_true rfl)) dX9_ownerOf_128 ⟨Nat.le_of_ble_eq_true rfl, Nat.le_of_ble_eq_true rfl⟩) hS (fun q _ h => hF q h) hF (fun r_13 u t H1 locs ht hvm hw hB hz1 hk1 hS => ?_)
              subst hw
              obtain ⟨hP, hD⟩ := pw_back hF ht hB
              clear hB hk1 hz1 hF
              generalize H1 = H at hP hS ⊢
              refine lv_goto (tgt := 135) hx hb dX9_ownerOf_131 (by decide) ?_
              refine lv_iadd hx hb dX9_ownerOf_135 ?_
              refine lv_istore_n (lv' := [(3, .int (v3_7 + (s_X9_partsOfHerd σ (nI k_7)))), (4, .int (nI k_7)), (0, .ref h), (1, .int a1)]) hx hb dX9_ownerOf_136 rfl hl (by decide) rfl (fun ls hl => ?_)
              refine lv_iinc (v := (nI (k_7 + 1))) (lv' := [(4, .int (nI (k_7 + 1))), (3, .int (v3_7 + (s_X9_partsOfHerd σ (nI k_7)))), (0, .ref h), (1, .int a1)]) hx hb dX9_ownerOf_137 hl (k := 1) rfl (by rw [show Int32.ofInt 1 = 1 from by decide]; exact nI_1 _) (by decide) rfl (fun ls hl => ?_)
              refine lv_goto (tgt := 95) hx hb dX9_ownerOf_140 (by decide) ?_
              subst hB_7
              exact ih (k_7 + 1) (v3_7 + (s_X9_partsOfHerd σ (nI k_7))) (ge_next hk_7)  _ _ _ hR hP hD hS (lv_sub hl [0, 1, 2, 3] rfl)
      exact hL_7 _ 0 (0 : Int32) ⟨rfl, by decide⟩  _ _ _ hR hP hD hS (lv_sub hl [0, 1, 2, 3] rfl)
    have hR := (if_neg c_6).symm.trans hR
    by_cases c_14 : a2 = (3 : Int32)
    · have hR := (if_pos c_14).symm.trans hR
      refine lv_tableIn (tgt := 145) hx hb dX9_ownerOf_25 (by rw [c_14]; decide) (by rw [c_14]; decide) (by rw [c_14]; rfl) (by decide) ?_
      refine lv_iconst (v := (0 : Int32)) hx hb dX9_ownerOf_145 (by decide) ?_
      refine lv_istore (lv' := [(4, .int (0 : Int32)), (3, .int (0 : Int32)), (0, .ref h), (1, .int a1), (2, .int a2)]) hx hb dX9_ownerOf_146 hl (by decide) rfl (fun ls hl => ?_)
      have hE_15 : ∀ (v3_15 : Int32) (H : Heap) (locs : List Loc) (ls : Array Slot), s_X9_ownerOf_c148 σ v3_15 = R → va_P D vwCl (WM ca h ad σ) H → va_D A (WM ca h ad σ) → va_S A s.heap H locs → lv_has ls 5 [(3, .int v3_15)] → W p l e ((headSpec wsX9_ownerOf ({ frames := 2, cells := 0, slots := 0, locals := 44 })).room) s m ([.ref h, .int a1, .int a2] : List Value).toArray below meth c H locs 0 0 QQ (F0 m 186 ls []) := by
        intro v3_15 H locs ls hR hP hD hS hl
        have hR : (v3_15, σ) = R := hR
        refine lv_iload_n hx hb dX9_ownerOf_186 rfl (lv_at hl 0 rfl) ?_
        have hI9 : IR σ := hI
        subst hR
        rw [hQ]
        exact W.iret (v := v3_15) hx hb hr (fun t ht hW => ⟨⟨v3_15, (), rfl, rfl, ⟨by rw [ht]; exact hP, va_K.moved hW.alike hK, by rw [← hAe]; exact hD⟩, hI9⟩, hS.F ht⟩) hS.2.2 dX9_ownerOf_187
      have hL_15 : ∀ (n k_15 : Nat) (v3_15 : Int32) (hk_15 : lpk (σ 5 0) k_15 n) (H : Heap) (locs : List Loc) (ls : Array Slot), s_X9_ownerOf_c148 σ (iter (s_X9_ownerOf_l148 σ a1) n k_15 v3_15) = R → va_P D vwCl (WM ca h ad σ) H → va_D A (WM ca h ad σ) → va_S A s.heap H locs → lv_has ls 5 [(4, .int (nI k_15)), (3, .int v3_15), (0, .ref h), (1, .int a1)] → W p l e ((headSpec wsX9_ownerOf ({ frames := 2, cells := 0, slots := 0, locals := 44 })).room) s m ([.ref h, .int a1, .int a2] : List Value).toArray below meth c H locs 0 0 QQ (F0 m 148 ls []) := by
        intro n
        induction n with
        | zero =>
          intro k_15 v3_15 hk_15 H locs ls hR hP hD hS hl
          refine lv_iload hx hb dX9_ownerOf_148 (lv_at hl 0 rfl) ?_
          refine lv_aload_n hx hb dX9_ownerOf_150 rfl (lv_at hl 2 rfl) ?_
          refine va_get (D := D) (ci := 9) (v := .int (σ 5 0)) (C := RX9) (T := TX9) (N := 51) hx hb hts hu9 hown hK hP 0 wm_0 rfl 5 (by decide) (hts (.fieldLink RX9 148 "GrazeBookModel" "rights" "I") (List.mem_cons_of_mem _ mw_788)) (fun _ h9 => h9) rfl dX9_ownerOf_151 ?_
          refine lv_icmp_ge (tgt := 186) hx hb dX9_ownerOf_154 (by decide) (fun _ => ?_) (fun c_16 => absurd (ge_end hk_15) c_16)
          exact hE_15 v3_15 _ _ _ hR hP hD hS (lv_sub hl [1] rfl)
        | succ n ih =>
          intro k_15 v3_15 hk_15 H locs ls hR hP hD hS hl
          obtain ⟨S_15, hB_15⟩ : ∃ s9, s_X9_ownerOf_l148 σ a1 k_15 v3_15 = s9 := ⟨_, rfl⟩
          have hR : s_X9_ownerOf_c148 σ (iter (s_X9_ownerOf_l148 σ a1) n (k_15 + 1) S_15) = R := by rw [← hB_15]; exact hR
          have hB_15 : (if (s_X9_ownerOfRight σ (nI k_15)) = a1 then (v3_15 + (s_X9_partsOf σ (nI k_15))) else (v3_15 + (0 : Int32))) = S_15 := hB_15
          refine lv_iload hx hb dX9_ownerOf_148 (lv_at hl 0 rfl) ?_
          refine lv_aload_n hx hb dX9_ownerOf_150 rfl (lv_at hl 2 rfl) ?_
          refine va_get (D := D) (ci := 9) (v := .int (σ 5 0)) (C := RX9) (T := TX9) (N := 51) hx hb hts hu9 hown hK hP 0 wm_0 rfl 5 (by decide) (hts (.fieldLink RX9 148 "GrazeBookModel" "rights" "I") (List.mem_cons_of_mem _ mw_788)) (fun _ h9 => h9) rfl dX9_ownerOf_151 ?_
          refine lv_icmp_ge (tgt := 186) hx hb dX9_ownerOf_154 (by decide) (fun c_17 => absurd c_17 (ge_go hk_15)) (fun _ => ?_)
          refine lv_iload_n hx hb dX9_ownerOf_157 rfl (lv_at hl 1 rfl) ?_
          refine lv_aload_n hx hb dX9_ownerOf_158 rfl (lv_at hl 2 rfl) ?_
          refine lv_iload hx hb dX9_ownerOf_159 (lv_at hl 0 rfl) ?_
          have hF := pw_free hD hS hA
          refine va_calli (va_runV (As := [.int (nI k_15)]) (rest := [.int v3_15]) ⟨hx, hb, hml, hown, hts⟩ (k_X9_ownerOfRight l D ca h ad σ (nI k_15) H.size hI (ix_loop (N := 60) hk_15 (ir_5 hI) (by decide) (by decide)) _ rfl) (cwV 1 hts gX9_ownerOf_X9_ownerOfRight rfl rfl rfl (by decide +kernel) ⟨Nat.le_of_ble_eq_true rfl, Nat.le_of_ble_eq_true rfl⟩) ⟨pw_blind, va_recv hK hP (ci := 9) (q0 := 0) rfl wm_0, pw_give hP hK hD⟩ rfl rfl hl.1 rfl (lv_room (Nat.le_of_ble_eq_true rfl)) dX9_ownerOf_161 ⟨Nat.le_of_ble_eq_true rfl, Nat.le_of_ble_eq_true rfl⟩) hS (fun q _ h => hF q h) hF (fun r_18 u t H1 locs ht hvm hw hB hz1 hk1 hS => ?_)
          subst hw
          obtain ⟨hP, hD⟩ := pw_back hF ht hB
          clear hB hk1 hz1 hF
          generalize H1 = H at hP hS ⊢
          refine lv_iload_n hx hb dX9_ownerOf_164 rfl (lv_at hl 3 rfl) ?_
          refine lv_icmp_ne (tgt := 177) hx hb dX9_ownerOf_165 (by decide) (fun c_19 => ?_) (fun c_19 => ?_)
          · have hB_15 := (if_neg c_19).symm.trans hB_15
            refine lv_iconst (v := (0 : Int32)) hx hb dX9_ownerOf_177 (by decide) ?_
            refine lv_iadd hx hb dX9_ownerOf_178 ?_
            refine lv_istore_n (lv' := [(3, .int (v3_15 + (0 : Int32))), (4, .int (nI k_15)), (0, .ref h), (1, .int a1)]) hx hb dX9_ownerOf_179 rfl hl (by decide) rfl (fun ls hl => ?_)
            refine lv_iinc (v := (nI (k_15 + 1))) (lv' := [(4, .int (nI (k_15 + 1))), (3, .int (v3_15 + (0 : Int32))), (0, .ref h), (1, .int a1)]) hx hb dX9_ownerOf_180 hl (k := 1) rfl (by rw [show Int32.ofInt 1 = 1 from by decide]; exact nI_1 _) (by decide) rfl (fun ls hl => ?_)
            refine lv_goto (tgt := 148) hx hb dX9_ownerOf_183 (by decide) ?_
            subst hB_15
            exact ih (k_15 + 1) (v3_15 + (0 : Int32)) (ge_next hk_15)  _ _ _ hR hP hD hS (lv_sub hl [0, 1, 2, 3] rfl)
          · have hB_15 := (if_pos c_19).symm.trans hB_15
            refine lv_aload_n hx hb dX9_ownerOf_168 rfl (lv_at hl 2 rfl) ?_
            refine lv_iload hx hb dX9_ownerOf_169 (lv_at hl 0 rfl) ?_
            have hF := pw_free hD hS hA
            refine va_calli (va_runV (As := [.int (nI k_15)]) (rest := [.int v3_15]) ⟨hx, hb, hml, hown, hts⟩ (k_X9_partsOf l D ca h ad σ (nI k_15) H.size hI (ix_loop (N := 60) hk_15 (ir_5 hI) (by decide) (by decide)) _ rfl) (cwV 1 hts gX9_ownerOf_X9_partsOf rfl rfl rfl (by decide +kernel) ⟨Nat.le_of_ble_eq_true rfl, Nat.le_of_ble_eq_true rfl⟩) ⟨pw_blind, va_recv hK hP (ci := 9) (q0 := 0) rfl wm_0, pw_give hP hK hD⟩ rfl rfl hl.1 rfl (lv_room (Nat.le_of_ble_eq_true rfl)) dX9_ownerOf_171 ⟨Nat.le_of_ble_eq_true rfl, Nat.le_of_ble_eq_true rfl⟩) hS (fun q _ h => hF q h) hF (fun r_20 u t H1 locs ht hvm hw hB hz1 hk1 hS => ?_)
            subst hw
            obtain ⟨hP, hD⟩ := pw_back hF ht hB
            clear hB hk1 hz1 hF
            generalize H1 = H at hP hS ⊢
            refine lv_goto (tgt := 178) hx hb dX9_ownerOf_174 (by decide) ?_
            refine lv_iadd hx hb dX9_ownerOf_178 ?_
            refine lv_istore_n (lv' := [(3, .int (v3_15 + (s_X9_partsOf σ (nI k_15)))), (4, .int (nI k_15)), (0, .ref h), (1, .int a1)]) hx hb dX9_ownerOf_179 rfl hl (by decide) rfl (fun ls hl => ?_)
            refine lv_iinc (v := (nI (k_15 + 1))) (lv' := [(4, .int (nI (k_15 + 1))), (3, .int (v3_15 + (s_X9_partsOf σ (nI k_15)))), (0, .ref h), (1, .int a1)]) hx hb dX9_ownerOf_180 hl (k := 1) rfl (by rw [show Int32.ofInt 1 = 1 from by decide]; exact nI_1 _) (by decide) rfl (fun ls hl => ?_)
            refine lv_goto (tgt := 148) hx hb dX9_ownerOf_183 (by decide) ?_
            subst hB_15
            exact ih (k_15 + 1) (v3_15 + (s_X9_partsOf σ (nI k_15))) (ge_next hk_15)  _ _ _ hR hP hD hS (lv_sub hl [0, 1, 2, 3] rfl)
      exact hL_15 _ 0 (0 : Int32) ⟨rfl, by decide⟩  _ _ _ hR hP hD hS (lv_sub hl [0, 1, 2, 3] rfl)
    have hR := (if_neg c_14).symm.trans hR
    refine lv_tableOut (tgt := 188) hx hb dX9_ownerOf_25 (sw_out3 c_2 c_4 c_6 c_14) (by decide) ?_
    refine lv_aload_n hx hb dX9_ownerOf_188 rfl (lv_at hl 1 rfl) ?_
    refine lv_bipush (v := (-2 : Int32)) hx hb dX9_ownerOf_189 (by decide) ?_
    have hF := pw_free hD hS hA
    refine va_calli (va_runV (As := [.int (-2 : Int32)]) (rest := []) ⟨hx, hb, hml, hown, hts⟩ (k_X9_refuse l D ca h ad σ (-2 : Int32) H.size hI (by unfold vp_in; decide) _ rfl) (cwV 1 hts gX9_ownerOf_X9_refuse rfl rfl rfl (by decide +kernel) ⟨Nat.le_of_ble_eq_true rfl, Nat.le_of_ble_eq_true rfl⟩) ⟨pw_blind, va_recv hK hP (ci := 9) (q0 := 0) rfl wm_0, pw_give hP hK hD⟩ rfl rfl hl.1 rfl (lv_room (Nat.le_of_ble_eq_true rfl)) dX9_ownerOf_191 ⟨Nat.le_of_ble_eq_true rfl, Nat.le_of_ble_eq_true rfl⟩) hS (fun q _ h => hF q h) hF (fun r_21 u t H1 locs ht hvm hw hB hz1 hk1 hS => ?_)
    subst hw
    obtain ⟨hB, hI_22⟩ := hB
    obtain ⟨hP, hD⟩ := pw_back hF ht hB
    clear hB hk1 hz1 hF
    generalize H1 = H at hP hS ⊢
    have hI9 : IR ((s_X9_refuse σ (-2 : Int32)).2) := hI_22
    subst hR
    rw [hQ]
    exact W.iret (v := ((s_X9_refuse σ (-2 : Int32)).1)) hx hb hr (fun t ht hW => ⟨⟨((s_X9_refuse σ (-2 : Int32)).1), (), rfl, rfl, ⟨by rw [ht]; exact hP, va_K.moved hW.alike hK, by rw [← hAe]; exact hD⟩, hI9⟩, hS.F ht⟩) hS.2.2 dX9_ownerOf_194
  · have hR := (if_neg c_1).symm.trans hR
    refine lv_iload_n hx hb dX9_ownerOf_5 rfl (lv_at hl 1 rfl) ?_
    refine lv_aload_n hx hb dX9_ownerOf_6 rfl (lv_at hl 0 rfl) ?_
    refine va_get (D := D) (ci := 9) (v := .int (σ 3 0)) (C := RX9) (T := TX9) (N := 51) hx hb hts hu9 hown hK hP 0 wm_0 rfl 3 (by decide) (hts (.fieldLink RX9 131 "GrazeBookModel" "owners" "I") (List.mem_cons_of_mem _ mw_786)) (fun _ h9 => h9) rfl dX9_ownerOf_7 ?_
    have hF := pw_free (pn_D (A := A)) hS hA
    refine va_calli (va_runS (As := [.int a1, .int (σ 3 0)]) (rest := []) ⟨hx, hb, hml, hown, hts⟩ (k_X9_isIn l D ca a1 (σ 3 0) H.size _ rfl) (va_cwS 2 hts gX9_ownerOf_X9_isIn rfl rfl rfl (by decide +kernel) ⟨Nat.le_of_ble_eq_true rfl, Nat.le_of_ble_eq_true rfl⟩) ⟨pw_blind, pw_give pn_P hK (pn_D (A := A))⟩ rfl rfl hl.1 rfl (lv_room (Nat.le_of_ble_eq_true rfl)) dX9_ownerOf_10 ⟨Nat.le_of_ble_eq_true rfl, Nat.le_of_ble_eq_true rfl⟩) hS (fun q _ h => hF q h) hF (fun r_23 u t H1 locs ht hvm hw hB hz1 hk1 hS => ?_)
    subst hw
    have hP := pn_back hP hk1
    clear hB hk1 hz1 hF
    generalize H1 = H at hP hS ⊢
    refine lv_if_ne (tgt := 22) hx hb dX9_ownerOf_13 (by decide) (fun c_24 => ?_) (fun c_24 => ?_)
    · have hR := (if_neg c_24).symm.trans hR
      refine lv_iconst (v := (0 : Int32)) hx hb dX9_ownerOf_22 (by decide) ?_
      refine lv_istore_n (lv' := [(3, .int (0 : Int32)), (0, .ref h), (1, .int a1), (2, .int a2)]) hx hb dX9_ownerOf_23 rfl hl (by decide) rfl (fun ls hl => ?_)
      refine lv_iload_n hx hb dX9_ownerOf_24 rfl (lv_at hl 3 rfl) ?_
      by_cases c_25 : a2 = (0 : Int32)
      · have hR := (if_pos c_25).symm.trans hR
        refine lv_tableIn (tgt := 56) hx hb dX9_ownerOf_25 (by rw [c_25]; decide) (by rw [c_25]; decide) (by rw [c_25]; rfl) (by decide) ?_
        refine lv_iload_n hx hb dX9_ownerOf_56 rfl (lv_at hl 2 rfl) ?_
        refine lv_if_ge (tgt := 67) hx hb dX9_ownerOf_57 (by decide) (fun c_26 => ?_) (fun c_26 => ?_)
        · have hR := (if_pos c_26).symm.trans hR
          refine lv_aload_n hx hb dX9_ownerOf_67 rfl (lv_at hl 1 rfl) ?_
          refine va_get (D := D) (ci := 9) (v := .ref (ad 19)) (C := RX9) (T := TX9) (N := 51) hx hb hts hu9 hown hK hP 0 wm_0 rfl 19 (by decide) (hts (.fieldLink RX9 32 "GrazeBookModel" "coins" "[I") (List.mem_cons_of_mem _ mw_802)) (fun _ h9 => h9) rfl dX9_ownerOf_68 ?_
          refine lv_iload_n hx hb dX9_ownerOf_71 rfl (lv_at hl 2 rfl) ?_
          refine va_iald_k (k := (a1.toNatClampNeg)) (v := (σ 19 (a1.toNatClampNeg))) hx hb hK hP 8 0 wm_a19 rfl rfl rfl (ix_isIn c_24 (ir_3 hI)) dX9_ownerOf_72 ?_
          have hI9 : IR σ := hI
          subst hR
          rw [hQ]
          exact W.iret (v := (σ 19 (a1.toNatClampNeg))) hx hb hr (fun t ht hW => ⟨⟨(σ 19 (a1.toNatClampNeg)), (), rfl, rfl, ⟨by rw [ht]; exact hP, va_K.moved hW.alike hK, by rw [← hAe]; exact hD⟩, hI9⟩, hS.F ht⟩) hS.2.2 dX9_ownerOf_73
        · have hR := (if_neg c_26).symm.trans hR
          refine lv_aload_n hx hb dX9_ownerOf_60 rfl (lv_at hl 1 rfl) ?_
          refine va_get (D := D) (ci := 9) (v := .int (σ 8 0)) (C := RX9) (T := TX9) (N := 51) hx hb hts hu9 hown hK hP 0 wm_0 rfl 8 (by decide) (hts (.fieldLink RX9 205 "GrazeBookModel" "reeveCoins" "I") (List.mem_cons_of_mem _ mw_791)) (fun _ h9 => h9) rfl dX9_ownerOf_61 ?_
          refine lv_goto (tgt := 73) hx hb dX9_ownerOf_64 (by decide) ?_
          have hI9 : IR σ := hI
          subst hR
          rw [hQ]
          exact W.iret (v := (σ 8 0)) hx hb hr (fun t ht hW => ⟨⟨(σ 8 0), (), rfl, rfl, ⟨by rw [ht]; exact hP, va_K.moved hW.alike hK, by rw [← hAe]; exact hD⟩, hI9⟩, hS.F ht⟩) hS.2.2 dX9_ownerOf_73
      have hR := (if_neg c_25).symm.trans hR
      by_cases c_27 : a2 = (1 : Int32)
      · have hR := (if_pos c_27).symm.trans hR
        refine lv_tableIn (tgt := 74) hx hb dX9_ownerOf_25 (by rw [c_27]; decide) (by rw [c_27]; decide) (by rw [c_27]; rfl) (by decide) ?_
        refine lv_iload_n hx hb dX9_ownerOf_74 rfl (lv_at hl 2 rfl) ?_
        refine lv_if_ge (tgt := 85) hx hb dX9_ownerOf_75 (by decide) (fun c_28 => ?_) (fun c_28 => ?_)
        · have hR := (if_pos c_28).symm.trans hR
          refine lv_aload_n hx hb dX9_ownerOf_85 rfl (lv_at hl 1 rfl) ?_
          refine va_get (D := D) (ci := 9) (v := .ref (ad 20)) (C := RX9) (T := TX9) (N := 51) hx hb hts hu9 hown hK hP 0 wm_0 rfl 20 (by decide) (hts (.fieldLink RX9 35 "GrazeBookModel" "hay" "[I") (List.mem_cons_of_mem _ mw_803)) (fun _ h9 => h9) rfl dX9_ownerOf_86 ?_
          refine lv_iload_n hx hb dX9_ownerOf_89 rfl (lv_at hl 2 rfl) ?_
          refine va_iald_k (k := (a1.toNatClampNeg)) (v := (σ 20 (a1.toNatClampNeg))) hx hb hK hP 9 0 wm_a20 rfl rfl rfl (ix_isIn c_24 (ir_3 hI)) dX9_ownerOf_90 ?_
          have hI9 : IR σ := hI
          subst hR
          rw [hQ]
          exact W.iret (v := (σ 20 (a1.toNatClampNeg))) hx hb hr (fun t ht hW => ⟨⟨(σ 20 (a1.toNatClampNeg)), (), rfl, rfl, ⟨by rw [ht]; exact hP, va_K.moved hW.alike hK, by rw [← hAe]; exact hD⟩, hI9⟩, hS.F ht⟩) hS.2.2 dX9_ownerOf_91
        · have hR := (if_neg c_28).symm.trans hR
          refine lv_aload_n hx hb dX9_ownerOf_78 rfl (lv_at hl 1 rfl) ?_
          refine va_get (D := D) (ci := 9) (v := .int (σ 9 0)) (C := RX9) (T := TX9) (N := 51) hx hb hts hu9 hown hK hP 0 wm_0 rfl 9 (by decide) (hts (.fieldLink RX9 236 "GrazeBookModel" "reeveHay" "I") (List.mem_cons_of_mem _ mw_792)) (fun _ h9 => h9) rfl dX9_ownerOf_79 ?_
          refine lv_goto (tgt := 91) hx hb dX9_ownerOf_82 (by decide) ?_
          have hI9 : IR σ := hI
          subst hR
          rw [hQ]
          exact W.iret (v := (σ 9 0)) hx hb hr (fun t ht hW => ⟨⟨(σ 9 0), (), rfl, rfl, ⟨by rw [ht]; exact hP, va_K.moved hW.alike hK, by rw [← hAe]; exact hD⟩, hI9⟩, hS.F ht⟩) hS.2.2 dX9_ownerOf_91
      have hR := (if_neg c_27).symm.trans hR
      by_cases c_29 : a2 = (2 : Int32)
      · have hR := (if_pos c_29).symm.trans hR
        refine lv_tableIn (tgt := 92) hx hb dX9_ownerOf_25 (by rw [c_29]; decide) (by rw [c_29]; decide) (by rw [c_29]; rfl) (by decide) ?_
        refine lv_iconst (v := (0 : Int32)) hx hb dX9_ownerOf_92 (by decide) ?_
        refine lv_istore (lv' := [(4, .int (0 : Int32)), (3, .int (0 : Int32)), (0, .ref h), (1, .int a1), (2, .int a2)]) hx hb dX9_ownerOf_93 hl (by decide) rfl (fun ls hl => ?_)
        have hE_30 : ∀ (v3_30 : Int32) (H : Heap) (locs : List Loc) (ls : Array Slot), s_X9_ownerOf_c95_1 σ v3_30 = R → va_P D vwCl (WM ca h ad σ) H → va_D A (WM ca h ad σ) → va_S A s.heap H locs → lv_has ls 5 [(3, .int v3_30)] → W p l e ((headSpec wsX9_ownerOf ({ frames := 2, cells := 0, slots := 0, locals := 44 })).room) s m ([.ref h, .int a1, .int a2] : List Value).toArray below meth c H locs 0 0 QQ (F0 m 143 ls []) := by
          intro v3_30 H locs ls hR hP hD hS hl
          have hR : (v3_30, σ) = R := hR
          refine lv_iload_n hx hb dX9_ownerOf_143 rfl (lv_at hl 0 rfl) ?_
          have hI9 : IR σ := hI
          subst hR
          rw [hQ]
          exact W.iret (v := v3_30) hx hb hr (fun t ht hW => ⟨⟨v3_30, (), rfl, rfl, ⟨by rw [ht]; exact hP, va_K.moved hW.alike hK, by rw [← hAe]; exact hD⟩, hI9⟩, hS.F ht⟩) hS.2.2 dX9_ownerOf_144
        have hL_30 : ∀ (n k_30 : Nat) (v3_30 : Int32) (hk_30 : lpk (σ 6 0) k_30 n) (H : Heap) (locs : List Loc) (ls : Array Slot), s_X9_ownerOf_c95_1 σ (iter (s_X9_ownerOf_l95_1 σ a1) n k_30 v3_30) = R → va_P D vwCl (WM ca h ad σ) H → va_D A (WM ca h ad σ) → va_S A s.heap H locs → lv_has ls 5 [(4, .int (nI k_30)), (3, .int v3_30), (0, .ref h), (1, .int a1)] → W p l e ((headSpec wsX9_ownerOf ({ frames := 2, cells := 0, slots := 0, locals := 44 })).room) s m ([.ref h, .int a1, .int a2] : List Value).toArray below meth c H locs 0 0 QQ (F0 m 95 ls []) := by
          intro n
          induction n with
          | zero =>
            intro k_30 v3_30 hk_30 H locs ls hR hP hD hS hl
            refine lv_iload hx hb dX9_ownerOf_95 (lv_at hl 0 rfl) ?_
            refine lv_aload_n hx hb dX9_ownerOf_97 rfl (lv_at hl 2 rfl) ?_
            refine va_get (D := D) (ci := 9) (v := .int (σ 6 0)) (C := RX9) (T := TX9) (N := 51) hx hb hts hu9 hown hK hP 0 wm_0 rfl 6 (by decide) (hts (.fieldLink RX9 164 "GrazeBookModel" "herds" "I") (List.mem_cons_of_mem _ mw_789)) (fun _ h9 => h9) rfl dX9_ownerOf_98 ?_
            refine lv_icmp_ge (tgt := 143) hx hb dX9_ownerOf_101 (by decide) (fun _ => ?_) (fun c_31 => absurd (ge_end hk_30) c_31)
            exact hE_30 v3_30 _ _ _ hR hP hD hS (lv_sub hl [1] rfl)
          | succ n ih =>
            intro k_30 v3_30 hk_30 H locs ls hR hP hD hS hl
            obtain ⟨S_30, hB_30⟩ : ∃ s9, s_X9_ownerOf_l95_1 σ a1 k_30 v3_30 = s9 := ⟨_, rfl⟩
            have hR : s_X9_ownerOf_c95_1 σ (iter (s_X9_ownerOf_l95_1 σ a1) n (k_30 + 1) S_30) = R := by rw [← hB_30]; exact hR
            have hB_30 : (if (s_X9_isOut σ (nI k_30)) = (0 : Int32) then (v3_30 + (0 : Int32)) else (if (σ 35 k_30) = a1 then (v3_30 + (s_X9_partsOfHerd σ (nI k_30))) else (v3_30 + (0 : Int32)))) = S_30 := hB_30
            refine lv_iload hx hb dX9_ownerOf_95 (lv_at hl 0 rfl) ?_
            refine lv_aload_n hx hb dX9_ownerOf_97 rfl (lv_at hl 2 rfl) ?_
            refine va_get (D := D) (ci := 9) (v := .int (σ 6 0)) (C := RX9) (T := TX9) (N := 51) hx hb hts hu9 hown hK hP 0 wm_0 rfl 6 (by decide) (hts (.fieldLink RX9 164 "GrazeBookModel" "herds" "I") (List.mem_cons_of_mem _ mw_789)) (fun _ h9 => h9) rfl dX9_ownerOf_98 ?_
            refine lv_icmp_ge (tgt := 143) hx hb dX9_ownerOf_101 (by decide) (fun c_32 => absurd c_32 (ge_go hk_30)) (fun _ => ?_)
            refine lv_iload_n hx hb dX9_ownerOf_104 rfl (lv_at hl 1 rfl) ?_
            refine lv_aload_n hx hb dX9_ownerOf_105 rfl (lv_at hl 2 rfl) ?_
            refine lv_iload hx hb dX9_ownerOf_106 (lv_at hl 0 rfl) ?_
            have hF := pw_free hD hS hA
            refine va_calli (va_runV (As := [.int (nI k_30)]) (rest := [.int v3_30]) ⟨hx, hb, hml, hown, hts⟩ (k_X9_isOut l D ca h ad σ (nI k_30) H.size hI (ix_loop (N := 20) hk_30 (ir_6 hI) (by decide) (by decide)) _ rfl) (cwV 1 hts gX9_ownerOf_X9_isOut rfl rfl rfl (by decide +kernel) ⟨Nat.le_of_ble_eq_true rfl, Nat.le_of_ble_eq_true rfl⟩) ⟨pw_blind, va_recv hK hP (ci := 9) (q0 := 0) rfl wm_0, pw_give hP hK hD⟩ rfl rfl hl.1 rfl (lv_room (Nat.le_of_ble_eq_true rfl)) dX9_ownerOf_108 ⟨Nat.le_of_ble_eq_true rfl, Nat.le_of_ble_eq_true rfl⟩) hS (fun q _ h => hF q h) hF (fun r_33 u t H1 locs ht hvm hw hB hz1 hk1 hS => ?_)
            subst hw
            obtain ⟨hP, hD⟩ := pw_back hF ht hB
            clear hB hk1 hz1 hF
            generalize H1 = H at hP hS ⊢
            refine lv_if_eq (tgt := 134) hx hb dX9_ownerOf_111 (by decide) (fun c_34 => ?_) (fun c_34 => ?_)
            · have hB_30 := (if_pos c_34).symm.trans hB_30
              refine lv_iconst (v := (0 : Int32)) hx hb dX9_ownerOf_134 (by decide) ?_
              refine lv_iadd hx hb dX9_ownerOf_135 ?_
              refine lv_istore_n (lv' := [(3, .int (v3_30 + (0 : Int32))), (4, .int (nI k_30)), (0, .ref h), (1, .int a1)]) hx hb dX9_ownerOf_136 rfl hl (by decide) rfl (fun ls hl => ?_)
              refine lv_iinc (v := (nI (k_30 + 1))) (lv' := [(4, .int (nI (k_30 + 1))), (3, .int (v3_30 + (0 : Int32))), (0, .ref h), (1, .int a1)]) hx hb dX9_ownerOf_137 hl (k := 1) rfl (by rw [show Int32.ofInt 1 = 1 from by decide]; exact nI_1 _) (by decide) rfl (fun ls hl => ?_)
              refine lv_goto (tgt := 95) hx hb dX9_ownerOf_140 (by decide) ?_
              subst hB_30
              exact ih (k_30 + 1) (v3_30 + (0 : Int32)) (ge_next hk_30)  _ _ _ hR hP hD hS (lv_sub hl [0, 1, 2, 3] rfl)
            · have hB_30 := (if_neg c_34).symm.trans hB_30
              refine lv_aload_n hx hb dX9_ownerOf_114 rfl (lv_at hl 2 rfl) ?_
              refine va_get (D := D) (ci := 9) (v := .ref (ad 35)) (C := RX9) (T := TX9) (N := 51) hx hb hts hu9 hown hK hP 0 wm_0 rfl 35 (by decide) (hts (.fieldLink RX9 80 "GrazeBookModel" "hOwner" "[I") (List.mem_cons_of_mem _ mw_818)) (fun _ h9 => h9) rfl dX9_ownerOf_115 ?_
              refine lv_iload hx hb dX9_ownerOf_118 (lv_at hl 0 rfl) ?_
              refine va_iald_k (k := k_30) (v := (σ 35 k_30)) hx hb hK hP 24 0 wm_a35 rfl (ix_cl hk_30) rfl (ix_loop (N := 20) hk_30 (ir_6 hI) (by decide) (by decide)) dX9_ownerOf_120 ?_
              refine lv_iload_n hx hb dX9_ownerOf_121 rfl (lv_at hl 3 rfl) ?_
              refine lv_icmp_ne (tgt := 134) hx hb dX9_ownerOf_122 (by decide) (fun c_35 => ?_) (fun c_35 => ?_)
              · have hB_30 := (if_neg c_35).symm.trans hB_30
                refine lv_iconst (v := (0 : Int32)) hx hb dX9_ownerOf_134 (by decide) ?_
                refine lv_iadd hx hb dX9_ownerOf_135 ?_
                refine lv_istore_n (lv' := [(3, .int (v3_30 + (0 : Int32))), (4, .int (nI k_30)), (0, .ref h), (1, .int a1)]) hx hb dX9_ownerOf_136 rfl hl (by decide) rfl (fun ls hl => ?_)
                refine lv_iinc (v := (nI (k_30 + 1))) (lv' := [(4, .int (nI (k_30 + 1))), (3, .int (v3_30 + (0 : Int32))), (0, .ref h), (1, .int a1)]) hx hb dX9_ownerOf_137 hl (k := 1) rfl (by rw [show Int32.ofInt 1 = 1 from by decide]; exact nI_1 _) (by decide) rfl (fun ls hl => ?_)
                refine lv_goto (tgt := 95) hx hb dX9_ownerOf_140 (by decide) ?_
                subst hB_30
                exact ih (k_30 + 1) (v3_30 + (0 : Int32)) (ge_next hk_30)  _ _ _ hR hP hD hS (lv_sub hl [0, 1, 2, 3] rfl)
              · have hB_30 := (if_pos c_35).symm.trans hB_30
                refine lv_aload_n hx hb dX9_ownerOf_125 rfl (lv_at hl 2 rfl) ?_
                refine lv_iload hx hb dX9_ownerOf_126 (lv_at hl 0 rfl) ?_
                have hF := pw_free hD hS hA
                refine va_calli (va_runV (As := [.int (nI k_30)]) (rest := [.int v3_30]) ⟨hx, hb, hml, hown, hts⟩ (k_X9_partsOfHerd l D ca h ad σ (nI k_30) H.size hI (ix_loop (N := 20) hk_30 (ir_6 hI) (by decide) (by decide)) _ rfl) (cwV 1 hts gX9_ownerOf_X9_partsOfHerd rfl rfl rfl (by decide +kernel) ⟨Nat.le_of_ble_eq_true rfl, Nat.le_of_ble_eq_true rfl⟩) ⟨pw_blind, va_recv hK hP (ci := 9) (q0 := 0) rfl wm_0, pw_give hP hK hD⟩ rfl rfl hl.1 rfl (lv_room (Nat.le_of_ble_eq_true rfl)) dX9_ownerOf_128 ⟨Nat.le_of_ble_eq_true rfl, Nat.le_of_ble_eq_true rfl⟩) hS (fun q _ h => hF q h) hF (fun r_36 u t H1 locs ht hvm hw hB hz1 hk1 hS => ?_)
                subst hw
                obtain ⟨hP, hD⟩ := pw_back hF ht hB
                clear hB hk1 hz1 hF
                generalize H1 = H at hP hS ⊢
                refine lv_goto (tgt := 135) hx hb dX9_ownerOf_131 (by decide) ?_
                refine lv_iadd hx hb dX9_ownerOf_135 ?_
                refine lv_istore_n (lv' := [(3, .int (v3_30 + (s_X9_partsOfHerd σ (nI k_30)))), (4, .int (nI k_30)), (0, .ref h), (1, .int a1)]) hx hb dX9_ownerOf_136 rfl hl (by decide) rfl (fun ls hl => ?_)
                refine lv_iinc (v := (nI (k_30 + 1))) (lv' := [(4, .int (nI (k_30 + 1))), (3, .int (v3_30 + (s_X9_partsOfHerd σ (nI k_30)))), (0, .ref h), (1, .int a1)]) hx hb dX9_ownerOf_137 hl (k := 1) rfl (by rw [show Int32.ofInt 1 = 1 from by decide]; exact nI_1 _) (by decide) rfl (fun ls hl => ?_)
                refine lv_goto (tgt := 95) hx hb dX9_ownerOf_140 (by decide) ?_
                subst hB_30
                exact ih (k_30 + 1) (v3_30 + (s_X9_partsOfHerd σ (nI k_30))) (ge_next hk_30)  _ _ _ hR hP hD hS (lv_sub hl [0, 1, 2, 3] rfl)
        exact hL_30 _ 0 (0 : Int32) ⟨rfl, by decide⟩  _ _ _ hR hP hD hS (lv_sub hl [0, 1, 2, 3] rfl)
      have hR := (if_neg c_29).symm.trans hR
      by_cases c_37 : a2 = (3 : Int32)
      · have hR := (if_pos c_37).symm.trans hR
        refine lv_tableIn (tgt := 145) hx hb dX9_ownerOf_25 (by rw [c_37]; decide) (by rw [c_37]; decide) (by rw [c_37]; rfl) (by decide) ?_
        refine lv_iconst (v := (0 : Int32)) hx hb dX9_ownerOf_145 (by decide) ?_
        refine lv_istore (lv' := [(4, .int (0 : Int32)), (3, .int (0 : Int32)), (0, .ref h), (1, .int a1), (2, .int a2)]) hx hb dX9_ownerOf_146 hl (by decide) rfl (fun ls hl => ?_)
        have hE_38 : ∀ (v3_38 : Int32) (H : Heap) (locs : List Loc) (ls : Array Slot), s_X9_ownerOf_c148_1 σ v3_38 = R → va_P D vwCl (WM ca h ad σ) H → va_D A (WM ca h ad σ) → va_S A s.heap H locs → lv_has ls 5 [(3, .int v3_38)] → W p l e ((headSpec wsX9_ownerOf ({ frames := 2, cells := 0, slots := 0, locals := 44 })).room) s m ([.ref h, .int a1, .int a2] : List Value).toArray below meth c H locs 0 0 QQ (F0 m 186 ls []) := by
          intro v3_38 H locs ls hR hP hD hS hl
          have hR : (v3_38, σ) = R := hR
          refine lv_iload_n hx hb dX9_ownerOf_186 rfl (lv_at hl 0 rfl) ?_
          have hI9 : IR σ := hI
          subst hR
          rw [hQ]
          exact W.iret (v := v3_38) hx hb hr (fun t ht hW => ⟨⟨v3_38, (), rfl, rfl, ⟨by rw [ht]; exact hP, va_K.moved hW.alike hK, by rw [← hAe]; exact hD⟩, hI9⟩, hS.F ht⟩) hS.2.2 dX9_ownerOf_187
        have hL_38 : ∀ (n k_38 : Nat) (v3_38 : Int32) (hk_38 : lpk (σ 5 0) k_38 n) (H : Heap) (locs : List Loc) (ls : Array Slot), s_X9_ownerOf_c148_1 σ (iter (s_X9_ownerOf_l148_1 σ a1) n k_38 v3_38) = R → va_P D vwCl (WM ca h ad σ) H → va_D A (WM ca h ad σ) → va_S A s.heap H locs → lv_has ls 5 [(4, .int (nI k_38)), (3, .int v3_38), (0, .ref h), (1, .int a1)] → W p l e ((headSpec wsX9_ownerOf ({ frames := 2, cells := 0, slots := 0, locals := 44 })).room) s m ([.ref h, .int a1, .int a2] : List Value).toArray below meth c H locs 0 0 QQ (F0 m 148 ls []) := by
          intro n
          induction n with
          | zero =>
            intro k_38 v3_38 hk_38 H locs ls hR hP hD hS hl
            refine lv_iload hx hb dX9_ownerOf_148 (lv_at hl 0 rfl) ?_
            refine lv_aload_n hx hb dX9_ownerOf_150 rfl (lv_at hl 2 rfl) ?_
            refine va_get (D := D) (ci := 9) (v := .int (σ 5 0)) (C := RX9) (T := TX9) (N := 51) hx hb hts hu9 hown hK hP 0 wm_0 rfl 5 (by decide) (hts (.fieldLink RX9 148 "GrazeBookModel" "rights" "I") (List.mem_cons_of_mem _ mw_788)) (fun _ h9 => h9) rfl dX9_ownerOf_151 ?_
            refine lv_icmp_ge (tgt := 186) hx hb dX9_ownerOf_154 (by decide) (fun _ => ?_) (fun c_39 => absurd (ge_end hk_38) c_39)
            exact hE_38 v3_38 _ _ _ hR hP hD hS (lv_sub hl [1] rfl)
          | succ n ih =>
            intro k_38 v3_38 hk_38 H locs ls hR hP hD hS hl
            obtain ⟨S_38, hB_38⟩ : ∃ s9, s_X9_ownerOf_l148_1 σ a1 k_38 v3_38 = s9 := ⟨_, rfl⟩
            have hR : s_X9_ownerOf_c148_1 σ (iter (s_X9_ownerOf_l148_1 σ a1) n (k_38 + 1) S_38) = R := by rw [← hB_38]; exact hR
            have hB_38 : (if (s_X9_ownerOfRight σ (nI k_38)) = a1 then (v3_38 + (s_X9_partsOf σ (nI k_38))) else (v3_38 + (0 : Int32))) = S_38 := hB_38
            refine lv_iload hx hb dX9_ownerOf_148 (lv_at hl 0 rfl) ?_
            refine lv_aload_n hx hb dX9_ownerOf_150 rfl (lv_at hl 2 rfl) ?_
            refine va_get (D := D) (ci := 9) (v := .int (σ 5 0)) (C := RX9) (T := TX9) (N := 51) hx hb hts hu9 hown hK hP 0 wm_0 rfl 5 (by decide) (hts (.fieldLink RX9 148 "GrazeBookModel" "rights" "I") (List.mem_cons_of_mem _ mw_788)) (fun _ h9 => h9) rfl dX9_ownerOf_151 ?_
            refine lv_icmp_ge (tgt := 186) hx hb dX9_ownerOf_154 (by decide) (fun c_40 => absurd c_40 (ge_go hk_38)) (fun _ => ?_)
            refine lv_iload_n hx hb dX9_ownerOf_157 rfl (lv_at hl 1 rfl) ?_
            refine lv_aload_n hx hb dX9_ownerOf_158 rfl (lv_at hl 2 rfl) ?_
            refine lv_iload hx hb dX9_ownerOf_159 (lv_at hl 0 rfl) ?_
            have hF := pw_free hD hS hA
            refine va_calli (va_runV (As := [.int (nI k_38)]) (rest := [.int v3_38]) ⟨hx, hb, hml, hown, hts⟩ (k_X9_ownerOfRight l D ca h ad σ (nI k_38) H.size hI (ix_loop (N := 60) hk_38 (ir_5 hI) (by decide) (by decide)) _ rfl) (cwV 1 hts gX9_ownerOf_X9_ownerOfRight rfl rfl rfl (by decide +kernel) ⟨Nat.le_of_ble_eq_true rfl, Nat.le_of_ble_eq_true rfl⟩) ⟨pw_blind, va_recv hK hP (ci := 9) (q0 := 0) rfl wm_0, pw_give hP hK hD⟩ rfl rfl hl.1 rfl (lv_room (Nat.le_of_ble_eq_true rfl)) dX9_ownerOf_161 ⟨Nat.le_of_ble_eq_true rfl, Nat.le_of_ble_eq_true rfl⟩) hS (fun q _ h => hF q h) hF (fun r_41 u t H1 locs ht hvm hw hB hz1 hk1 hS => ?_)
            subst hw
            obtain ⟨hP, hD⟩ := pw_back hF ht hB
            clear hB hk1 hz1 hF
            generalize H1 = H at hP hS ⊢
            refine lv_iload_n hx hb dX9_ownerOf_164 rfl (lv_at hl 3 rfl) ?_
            refine lv_icmp_ne (tgt := 177) hx hb dX9_ownerOf_165 (by decide) (fun c_42 => ?_) (fun c_42 => ?_)
            · have hB_38 := (if_neg c_42).symm.trans hB_38
              refine lv_iconst (v := (0 : Int32)) hx hb dX9_ownerOf_177 (by decide) ?_
              refine lv_iadd hx hb dX9_ownerOf_178 ?_
              refine lv_istore_n (lv' := [(3, .int (v3_38 + (0 : Int32))), (4, .int (nI k_38)), (0, .ref h), (1, .int a1)]) hx hb dX9_ownerOf_179 rfl hl (by decide) rfl (fun ls hl => ?_)
              refine lv_iinc (v := (nI (k_38 + 1))) (lv' := [(4, .int (nI (k_38 + 1))), (3, .int (v3_38 + (0 : Int32))), (0, .ref h), (1, .int a1)]) hx hb dX9_ownerOf_180 hl (k := 1) rfl (by rw [show Int32.ofInt 1 = 1 from by decide]; exact nI_1 _) (by decide) rfl (fun ls hl => ?_)
              refine lv_goto (tgt := 148) hx hb dX9_ownerOf_183 (by decide) ?_
              subst hB_38
              exact ih (k_38 + 1) (v3_38 + (0 : Int32)) (ge_next hk_38)  _ _ _ hR hP hD hS (lv_sub hl [0, 1, 2, 3] rfl)
            · have hB_38 := (if_pos c_42).symm.trans hB_38
              refine lv_aload_n hx hb dX9_ownerOf_168 rfl (lv_at hl 2 rfl) ?_
              refine lv_iload hx hb dX9_ownerOf_169 (lv_at hl 0 rfl) ?_
              have hF := pw_free hD hS hA
              refine va_calli (va_runV (As := [.int (nI k_38)]) (rest := [.int v3_38]) ⟨hx, hb, hml, hown, hts⟩ (k_X9_partsOf l D ca h ad σ (nI k_38) H.size hI (ix_loop (N := 60) hk_38 (ir_5 hI) (by decide) (by decide)) _ rfl) (cwV 1 hts gX9_ownerOf_X9_partsOf rfl rfl rfl (by decide +kernel) ⟨Nat.le_of_ble_eq_true rfl, Nat.le_of_ble_eq_true rfl⟩) ⟨pw_blind, va_recv hK hP (ci := 9) (q0 := 0) rfl wm_0, pw_give hP hK hD⟩ rfl rfl hl.1 rfl (lv_room (Nat.le_of_ble_eq_true rfl)) dX9_ownerOf_171 ⟨Nat.le_of_ble_eq_true rfl, Nat.le_of_ble_eq_true rfl⟩) hS (fun q _ h => hF q h) hF (fun r_43 u t H1 locs ht hvm hw hB hz1 hk1 hS => ?_)
              subst hw
              obtain ⟨hP, hD⟩ := pw_back hF ht hB
              clear hB hk1 hz1 hF
              generalize H1 = H at hP hS ⊢
              refine lv_goto (tgt := 178) hx hb dX9_ownerOf_174 (by decide) ?_
              refine lv_iadd hx hb dX9_ownerOf_178 ?_
              refine lv_istore_n (lv' := [(3, .int (v3_38 + (s_X9_partsOf σ (nI k_38)))), (4, .int (nI k_38)), (0, .ref h), (1, .int a1)]) hx hb dX9_ownerOf_179 rfl hl (by decide) rfl (fun ls hl => ?_)
              refine lv_iinc (v := (nI (k_38 + 1))) (lv' := [(4, .int (nI (k_38 + 1))), (3, .int (v3_38 + (s_X9_partsOf σ (nI k_38)))), (0, .ref h), (1, .int a1)]) hx hb dX9_ownerOf_180 hl (k := 1) rfl (by rw [show Int32.ofInt 1 = 1 from by decide]; exact nI_1 _) (by decide) rfl (fun ls hl => ?_)
              refine lv_goto (tgt := 148) hx hb dX9_ownerOf_183 (by decide) ?_
              subst hB_38
              exact ih (k_38 + 1) (v3_38 + (s_X9_partsOf σ (nI k_38))) (ge_next hk_38)  _ _ _ hR hP hD hS (lv_sub hl [0, 1, 2, 3] rfl)
        exact hL_38 _ 0 (0 : Int32) ⟨rfl, by decide⟩  _ _ _ hR hP hD hS (lv_sub hl [0, 1, 2, 3] rfl)
      have hR := (if_neg c_37).symm.trans hR
      refine lv_tableOut (tgt := 188) hx hb dX9_ownerOf_25 (sw_out3 c_25 c_27 c_29 c_37) (by decide) ?_
      refine lv_aload_n hx hb dX9_ownerOf_188 rfl (lv_at hl 1 rfl) ?_
      refine lv_bipush (v := (-2 : Int32)) hx hb dX9_ownerOf_189 (by decide) ?_
      have hF := pw_free hD hS hA
      refine va_calli (va_runV (As := [.int (-2 : Int32)]) (rest := []) ⟨hx, hb, hml, hown, hts⟩ (k_X9_refuse l D ca h ad σ (-2 : Int32) H.size hI (by unfold vp_in; decide) _ rfl) (cwV 1 hts gX9_ownerOf_X9_refuse rfl rfl rfl (by decide +kernel) ⟨Nat.le_of_ble_eq_true rfl, Nat.le_of_ble_eq_true rfl⟩) ⟨pw_blind, va_recv hK hP (ci := 9) (q0 := 0) rfl wm_0, pw_give hP hK hD⟩ rfl rfl hl.1 rfl (lv_room (Nat.le_of_ble_eq_true rfl)) dX9_ownerOf_191 ⟨Nat.le_of_ble_eq_true rfl, Nat.le_of_ble_eq_true rfl⟩) hS (fun q _ h => hF q h) hF (fun r_44 u t H1 locs ht hvm hw hB hz1 hk1 hS => ?_)
      subst hw
      obtain ⟨hB, hI_45⟩ := hB
      obtain ⟨hP, hD⟩ := pw_back hF ht hB
      clear hB hk1 hz1 hF
      generalize H1 = H at hP hS ⊢
      have hI9 : IR ((s_X9_refuse σ (-2 : Int32)).2) := hI_45
      subst hR
      rw [hQ]
      exact W.iret (v := ((s_X9_refuse σ (-2 : Int32)).1)) hx hb hr (fun t ht hW => ⟨⟨((s_X9_refuse σ (-2 : Int32)).1), (), rfl, rfl, ⟨by rw [ht]; exact hP, va_K.moved hW.alike hK, by rw [← hAe]; exact hD⟩, hI9⟩, hS.F ht⟩) hS.2.2 dX9_ownerOf_194
    · have hR := (if_pos c_24).symm.trans hR
      refine lv_aload_n hx hb dX9_ownerOf_16 rfl (lv_at hl 0 rfl) ?_
      refine lv_iconst (v := (-1 : Int32)) hx hb dX9_ownerOf_17 (by decide) ?_
      have hF := pw_free hD hS hA
      refine va_calli (va_runV (As := [.int (-1 : Int32)]) (rest := []) ⟨hx, hb, hml, hown, hts⟩ (k_X9_refuse l D ca h ad σ (-1 : Int32) H.size hI (by unfold vp_in; decide) _ rfl) (cwV 1 hts gX9_ownerOf_X9_refuse rfl rfl rfl (by decide +kernel) ⟨Nat.le_of_ble_eq_true rfl, Nat.le_of_ble_eq_true rfl⟩) ⟨pw_blind, va_recv hK hP (ci := 9) (q0 := 0) rfl wm_0, pw_give hP hK hD⟩ rfl rfl hl.1 rfl (lv_room (Nat.le_of_ble_eq_true rfl)) dX9_ownerOf_18 ⟨Nat.le_of_ble_eq_true rfl, Nat.le_of_ble_eq_true rfl⟩) hS (fun q _ h => hF q h) hF (fun r_46 u t H1 locs ht hvm hw hB hz1 hk1 hS => ?_)
      subst hw
      obtain ⟨hB, hI_47⟩ := hB
      obtain ⟨hP, hD⟩ := pw_back hF ht hB
      clear hB hk1 hz1 hF
      generalize H1 = H at hP hS ⊢
      have hI9 : IR ((s_X9_refuse σ (-1 : Int32)).2) := hI_47
      subst hR
      rw [hQ]
      exact W.iret (v := ((s_X9_refuse σ (-1 : Int32)).1)) hx hb hr (fun t ht hW => ⟨⟨((s_X9_refuse σ (-1 : Int32)).1), (), rfl, rfl, ⟨by rw [ht]; exact hP, va_K.moved hW.alike hK, by rw [← hAe]; exact hD⟩, hI9⟩, hS.F ht⟩) hS.2.2 dX9_ownerOf_21

def s_X9_count_c102  : Int32 → Int32 := fun x9 => match x9 with
  | v2_7 => v2_7
def s_X9_count_l102 (σ : St) (k_7 : Nat) : Int32 → Int32 := fun x9 => match x9 with
  | v2_7 => (if (s_X9_isInForce σ (nI k_7)) = (0 : Int32) then (v2_7 + (0 : Int32)) else (v2_7 + (1 : Int32)))
def s_X9_count_c136  : Int32 → Int32 := fun x9 => match x9 with
  | v2_13 => v2_13
def s_X9_count_l136 (σ : St) (k_13 : Nat) : Int32 → Int32 := fun x9 => match x9 with
  | v2_13 => (if (σ 41 k_13) = (2 : Int32) then (v2_13 + (0 : Int32)) else (v2_13 + (1 : Int32)))
def s_X9_count_c172  : Int32 → Int32 := fun x9 => match x9 with
  | v2_18 => v2_18
def s_X9_count_l172 (σ : St) (k_18 : Nat) : Int32 → Int32 := fun x9 => match x9 with
  | v2_18 => (v2_18 + (σ 13 k_18))
def s_X9_count_c102_1  : Int32 → Int32 := fun x9 => match x9 with
  | v2_30 => v2_30
def s_X9_count_l102_1 (σ : St) (k_30 : Nat) : Int32 → Int32 := fun x9 => match x9 with
  | v2_30 => (if (s_X9_isInForce σ (nI k_30)) = (0 : Int32) then (v2_30 + (0 : Int32)) else (v2_30 + (1 : Int32)))
def s_X9_count_c136_1  : Int32 → Int32 := fun x9 => match x9 with
  | v2_36 => v2_36
def s_X9_count_l136_1 (σ : St) (k_36 : Nat) : Int32 → Int32 := fun x9 => match x9 with
  | v2_36 => (if (σ 41 k_36) = (2 : Int32) then (v2_36 + (0 : Int32)) else (v2_36 + (1 : Int32)))
def s_X9_count_c172_1  : Int32 → Int32 := fun x9 => match x9 with
  | v2_41 => v2_41
def s_X9_count_l172_1 (σ : St) (k_41 : Nat) : Int32 → Int32 := fun x9 => match x9 with
  | v2_41 => (v2_41 + (σ 13 k_41))
def s_X9_count (σ : St) (a1 : Int32) : Int32 := (if a1 ≤ (10 : Int32) then (if a1 = (0 : Int32) then (σ 1 0) else (if a1 = (1 : Int32) then (σ 2 0) else (if a1 = (2 : Int32) then (σ 3 0) else (if a1 = (3 : Int32) then (σ 4 0) else (if a1 = (4 : Int32) then (s_X9_count_c102 (iter (s_X9_count_l102 σ) ((σ 5 0).toNatClampNeg - 0) 0 (0 : Int32))) else (if a1 = (5 : Int32) then (s_X9_count_c136 (iter (s_X9_count_l136 σ) ((σ 6 0).toNatClampNeg - 0) 0 (0 : Int32))) else (if a1 = (6 : Int32) then (s_X9_count_c172 (iter (s_X9_count_l172 σ) ((σ 2 0).toNatClampNeg - 0) 0 (0 : Int32))) else (if a1 = (7 : Int32) then (σ 10 0) else (if a1 = (8 : Int32) then (σ 11 0) else (if a1 = (9 : Int32) then (σ 12 0) else (-9 : Int32))))))))))) else (if (17 : Int32) ≤ a1 then (if a1 = (0 : Int32) then (σ 1 0) else (if a1 = (1 : Int32) then (σ 2 0) else (if a1 = (2 : Int32) then (σ 3 0) else (if a1 = (3 : Int32) then (σ 4 0) else (if a1 = (4 : Int32) then (s_X9_count_c102_1 (iter (s_X9_count_l102_1 σ) ((σ 5 0).toNatClampNeg - 0) 0 (0 : Int32))) else (if a1 = (5 : Int32) then (s_X9_count_c136_1 (iter (s_X9_count_l136_1 σ) ((σ 6 0).toNatClampNeg - 0) 0 (0 : Int32))) else (if a1 = (6 : Int32) then (s_X9_count_c172_1 (iter (s_X9_count_l172_1 σ) ((σ 2 0).toNatClampNeg - 0) 0 (0 : Int32))) else (if a1 = (7 : Int32) then (σ 10 0) else (if a1 = (8 : Int32) then (σ 11 0) else (if a1 = (9 : Int32) then (σ 12 0) else (-9 : Int32))))))))))) else (σ 0 ((a1 - (10 : Int32)).toNatClampNeg))))
set_option maxHeartbeats 1000000 in
set_option maxRecDepth 100000 in
theorem k_X9_count (l : Launch) (D : va_G) (ca : Nat → ClassId) (h : Nat) (ad : Nat → Nat) (σ : St) (a1 : Int32) (sz : Nat) (hI : IR σ)  (R : Int32) (hR : s_X9_count σ a1 = R) : Met l yX9_count wsX9_count ({ frames := 1, cells := 0, slots := 0, locals := 21 }) (va_Pc [.ref h, .int a1] (pw_pre D ca (WM ca h ad σ) sz)) (va_Qi (fun (r : Int32) (_ : Unit) => r = R) (fun (_ : Unit) (t : State) => pw_post D ca (WM ca h ad σ) sz (WM ca h ad σ) t) (va_A (WM ca h ad σ) sz)) 0 0 (va_A (WM ca h ad σ) sz) := by
  refine Met.ofW (cc := cX9_count) (maxL := 4) (ret := (some .int)) (by decide) rfl ?_
  intro p e s m args below meth c s₁ B hml hv
  obtain ⟨rfl, hsz, hP, hK, hD0⟩ := hv
  have hx := B.exec
  have hb := B.bytes
  have hr := B.returns
  have hts := atoms_spec (ws := wsX9_count) B.pre
  have hown : s.vm.findClass RX9 = some m.cls := findClass_of_methodNamed B.named
  have hlocks := B.notSynchronized
  have hu9 : ∀ w ∈ u_ws RX9 TX9 51, w ∈ wsX9_count := fun w h => List.mem_cons_of_mem _ (uw9 w h)
  subst hsz
  have hD := hD0.self (sz := s.heap.size)
  obtain ⟨A, hAe⟩ : ∃ A, A = va_A (WM ca h ad σ) s.heap.size := ⟨_, rfl⟩
  rw [← hAe] at hD ⊢
  have hA : ∀ q : Nat, s.heap.size ≤ q → A q := fun q h => by rw [hAe]; exact Or.inr h
  have hS : va_S A s.heap s.heap [] := va_S.rf
  have hl := lv_entry ([.ref h, .int a1]) (n := 4) (Nat.le_of_ble_eq_true rfl)
  rw [lg_entry_eq]
  generalize (lg_sl ([.ref h, .int a1]) ++ List.replicate (4 - (lg_sl ([.ref h, .int a1])).length) Slot.unset).toArray = ls at hl ⊢
  have hl : lv_has ls 4 [(0, .ref h), (1, .int a1)] := hl
  obtain ⟨H, hH⟩ : ∃ H, H = s.heap := ⟨_, rfl⟩
  have hP : va_P D vwCl (WM ca h ad σ) H := by rw [hH]; exact hP
  have hS : va_S A s.heap H [] := by rw [hH]; exact hS
  obtain ⟨QQ, hQ⟩ : ∃ Q9, Q9 = MQ below (va_Qi (fun (r : Int32) (_ : Unit) => r = R) (fun (_ : Unit) (t : State) => pw_post D ca (WM ca h ad σ) s.heap.size (WM ca h ad σ) t) A) ([.ref h, .int a1] : List Value).toArray s 0 0 A := ⟨_, rfl⟩
  rw [← hQ]
  show W _ _ _ _ _ _ _ _ _ _ s.heap _ _ _ _ _
  rw [← hH]
  have hR : (if a1 ≤ (10 : Int32) then (if a1 = (0 : Int32) then (σ 1 0) else (if a1 = (1 : Int32) then (σ 2 0) else (if a1 = (2 : Int32) then (σ 3 0) else (if a1 = (3 : Int32) then (σ 4 0) else (if a1 = (4 : Int32) then (s_X9_count_c102 (iter (s_X9_count_l102 σ) ((σ 5 0).toNatClampNeg - 0) 0 (0 : Int32))) else (if a1 = (5 : Int32) then (s_X9_count_c136 (iter (s_X9_count_l136 σ) ((σ 6 0).toNatClampNeg - 0) 0 (0 : Int32))) else (if a1 = (6 : Int32) then (s_X9_count_c172 (iter (s_X9_count_l172 σ) ((σ 2 0).toNatClampNeg - 0) 0 (0 : Int32))) else (if a1 = (7 : Int32) then (σ 10 0) else (if a1 = (8 : Int32) then (σ 11 0) else (if a1 = (9 : Int32) then (σ 12 0) else (-9 : Int32))))))))))) else (if (17 : Int32) ≤ a1 then (if a1 = (0 : Int32) then (σ 1 0) else (if a1 = (1 : Int32) then (σ 2 0) else (if a1 = (2 : Int32) then (σ 3 0) else (if a1 = (3 : Int32) then (σ 4 0) else (if a1 = (4 : Int32) then (s_X9_count_c102_1 (iter (s_X9_count_l102_1 σ) ((σ 5 0).toNatClampNeg - 0) 0 (0 : Int32))) else (if a1 = (5 : Int32) then (s_X9_count_c136_1 (iter (s_X9_count_l136_1 σ) ((σ 6 0).toNatClampNeg - 0) 0 (0 : Int32))) else (if a1 = (6 : Int32) then (s_X9_count_c172_1 (iter (s_X9_count_l172_1 σ) ((σ 2 0).toNatClampNeg - 0) 0 (0 : Int32))) else (if a1 = (7 : Int32) then (σ 10 0) else (if a1 = (8 : Int32) then (σ 11 0) else (if a1 = (9 : Int32) then (σ 12 0) else (-9 : Int32))))))))))) else (σ 0 ((a1 - (10 : Int32)).toNatClampNeg)))) = R := hR
  refine lv_iload_n hx hb dX9_count_0 rfl (lv_at hl 1 rfl) ?_
  refine lv_bipush (v := (10 : Int32)) hx hb dX9_count_1 (by decide) ?_
  refine lv_icmp_le (tgt := 22) hx hb dX9_count_3 (by decide) (fun c_1 => ?_) (fun c_1 => ?_)
  · have hR := (if_pos c_1).symm.trans hR
    refine lv_iconst (v := (0 : Int32)) hx hb dX9_count_22 (by decide) ?_
    refine lv_istore_n (lv' := [(2, .int (0 : Int32)), (0, .ref h), (1, .int a1)]) hx hb dX9_count_23 rfl hl (by decide) rfl (fun ls hl => ?_)
    refine lv_iload_n hx hb dX9_count_24 rfl (lv_at hl 2 rfl) ?_
    by_cases c_2 : a1 = (0 : Int32)
    · have hR := (if_pos c_2).symm.trans hR
      refine lv_tableIn (tgt := 80) hx hb dX9_count_25 (by rw [c_2]; decide) (by rw [c_2]; decide) (by rw [c_2]; rfl) (by decide) ?_
      refine lv_aload_n hx hb dX9_count_80 rfl (lv_at hl 1 rfl) ?_
      refine va_get (D := D) (ci := 9) (v := .int (σ 1 0)) (C := RX9) (T := TX9) (N := 51) hx hb hts hu9 hown hK hP 0 wm_0 rfl 1 (by decide) (hts (.fieldLink RX9 141 "GrazeBookModel" "day" "I") (List.mem_cons_of_mem _ mw_784)) (fun _ h9 => h9) rfl dX9_count_81 ?_
      subst hR
      rw [hQ]
      exact W.iret (v := (σ 1 0)) hx hb hr (fun t ht hW => ⟨⟨(σ 1 0), (), rfl, rfl, ⟨by rw [ht]; exact hP, va_K.moved hW.alike hK, by rw [← hAe]; exact hD⟩⟩, hS.F ht⟩) hS.2.2 dX9_count_84
    have hR := (if_neg c_2).symm.trans hR
    by_cases c_3 : a1 = (1 : Int32)
    · have hR := (if_pos c_3).symm.trans hR
      refine lv_tableIn (tgt := 85) hx hb dX9_count_25 (by rw [c_3]; decide) (by rw [c_3]; decide) (by rw [c_3]; rfl) (by decide) ?_
      refine lv_aload_n hx hb dX9_count_85 rfl (lv_at hl 1 rfl) ?_
      refine va_get (D := D) (ci := 9) (v := .int (σ 2 0)) (C := RX9) (T := TX9) (N := 51) hx hb hts hu9 hown hK hP 0 wm_0 rfl 2 (by decide) (hts (.fieldLink RX9 127 "GrazeBookModel" "pieces" "I") (List.mem_cons_of_mem _ mw_785)) (fun _ h9 => h9) rfl dX9_count_86 ?_
      subst hR
      rw [hQ]
      exact W.iret (v := (σ 2 0)) hx hb hr (fun t ht hW => ⟨⟨(σ 2 0), (), rfl, rfl, ⟨by rw [ht]; exact hP, va_K.moved hW.alike hK, by rw [← hAe]; exact hD⟩⟩, hS.F ht⟩) hS.2.2 dX9_count_89
    have hR := (if_neg c_3).symm.trans hR
    by_cases c_4 : a1 = (2 : Int32)
    · have hR := (if_pos c_4).symm.trans hR
      refine lv_tableIn (tgt := 90) hx hb dX9_count_25 (by rw [c_4]; decide) (by rw [c_4]; decide) (by rw [c_4]; rfl) (by decide) ?_
      refine lv_aload_n hx hb dX9_count_90 rfl (lv_at hl 1 rfl) ?_
      refine va_get (D := D) (ci := 9) (v := .int (σ 3 0)) (C := RX9) (T := TX9) (N := 51) hx hb hts hu9 hown hK hP 0 wm_0 rfl 3 (by decide) (hts (.fieldLink RX9 131 "GrazeBookModel" "owners" "I") (List.mem_cons_of_mem _ mw_786)) (fun _ h9 => h9) rfl dX9_count_91 ?_
      subst hR
      rw [hQ]
      exact W.iret (v := (σ 3 0)) hx hb hr (fun t ht hW => ⟨⟨(σ 3 0), (), rfl, rfl, ⟨by rw [ht]; exact hP, va_K.moved hW.alike hK, by rw [← hAe]; exact hD⟩⟩, hS.F ht⟩) hS.2.2 dX9_count_94
    have hR := (if_neg c_4).symm.trans hR
    by_cases c_5 : a1 = (3 : Int32)
    · have hR := (if_pos c_5).symm.trans hR
      refine lv_tableIn (tgt := 95) hx hb dX9_count_25 (by rw [c_5]; decide) (by rw [c_5]; decide) (by rw [c_5]; rfl) (by decide) ?_
      refine lv_aload_n hx hb dX9_count_95 rfl (lv_at hl 1 rfl) ?_
      refine va_get (D := D) (ci := 9) (v := .int (σ 4 0)) (C := RX9) (T := TX9) (N := 51) hx hb hts hu9 hown hK hP 0 wm_0 rfl 4 (by decide) (hts (.fieldLink RX9 138 "GrazeBookModel" "houses" "I") (List.mem_cons_of_mem _ mw_787)) (fun _ h9 => h9) rfl dX9_count_96 ?_
      subst hR
      rw [hQ]
      exact W.iret (v := (σ 4 0)) hx hb hr (fun t ht hW => ⟨⟨(σ 4 0), (), rfl, rfl, ⟨by rw [ht]; exact hP, va_K.moved hW.alike hK, by rw [← hAe]; exact hD⟩⟩, hS.F ht⟩) hS.2.2 dX9_count_99
    have hR := (if_neg c_5).symm.trans hR
    by_cases c_6 : a1 = (4 : Int32)
    · have hR := (if_pos c_6).symm.trans hR
      refine lv_tableIn (tgt := 100) hx hb dX9_count_25 (by rw [c_6]; decide) (by rw [c_6]; decide) (by rw [c_6]; rfl) (by decide) ?_
      refine lv_iconst (v := (0 : Int32)) hx hb dX9_count_100 (by decide) ?_
      refine lv_istore_n (lv' := [(3, .int (0 : Int32)), (2, .int (0 : Int32)), (0, .ref h), (1, .int a1)]) hx hb dX9_count_101 rfl hl (by decide) rfl (fun ls hl => ?_)
      have hE_7 : ∀ (v2_7 : Int32) (H : Heap) (locs : List Loc) (ls : Array Slot), s_X9_count_c102 v2_7 = R → va_P D vwCl (WM ca h ad σ) H → va_D A (WM ca h ad σ) → va_S A s.heap H locs → lv_has ls 4 [(2, .int v2_7)] → W p l e ((headSpec wsX9_count ({ frames := 1, cells := 0, slots := 0, locals := 21 })).room) s m ([.ref h, .int a1] : List Value).toArray below meth c H locs 0 0 QQ (F0 m 132 ls []) := by
        intro v2_7 H locs ls hR hP hD hS hl
        have hR : v2_7 = R := hR
        refine lv_iload_n hx hb dX9_count_132 rfl (lv_at hl 0 rfl) ?_
        subst hR
        rw [hQ]
        exact W.iret (v := v2_7) hx hb hr (fun t ht hW => ⟨⟨v2_7, (), rfl, rfl, ⟨by rw [ht]; exact hP, va_K.moved hW.alike hK, by rw [← hAe]; exact hD⟩⟩, hS.F ht⟩) hS.2.2 dX9_count_133
      have hL_7 : ∀ (n k_7 : Nat) (v2_7 : Int32) (hk_7 : lpk (σ 5 0) k_7 n) (H : Heap) (locs : List Loc) (ls : Array Slot), s_X9_count_c102 (iter (s_X9_count_l102 σ) n k_7 v2_7) = R → va_P D vwCl (WM ca h ad σ) H → va_D A (WM ca h ad σ) → va_S A s.heap H locs → lv_has ls 4 [(3, .int (nI k_7)), (2, .int v2_7), (0, .ref h)] → W p l e ((headSpec wsX9_count ({ frames := 1, cells := 0, slots := 0, locals := 21 })).room) s m ([.ref h, .int a1] : List Value).toArray below meth c H locs 0 0 QQ (F0 m 102 ls []) := by
        intro n
        induction n with
        | zero =>
          intro k_7 v2_7 hk_7 H locs ls hR hP hD hS hl
          refine lv_iload_n hx hb dX9_count_102 rfl (lv_at hl 0 rfl) ?_
          refine lv_aload_n hx hb dX9_count_103 rfl (lv_at hl 2 rfl) ?_
          refine va_get (D := D) (ci := 9) (v := .int (σ 5 0)) (C := RX9) (T := TX9) (N := 51) hx hb hts hu9 hown hK hP 0 wm_0 rfl 5 (by decide) (hts (.fieldLink RX9 148 "GrazeBookModel" "rights" "I") (List.mem_cons_of_mem _ mw_788)) (fun _ h9 => h9) rfl dX9_count_104 ?_
          refine lv_icmp_ge (tgt := 132) hx hb dX9_count_107 (by decide) (fun _ => ?_) (fun c_8 => absurd (ge_end hk_7) c_8)
          exact hE_7 v2_7 _ _ _ hR hP hD hS (lv_sub hl [1] rfl)
        | succ n ih =>
          intro k_7 v2_7 hk_7 H locs ls hR hP hD hS hl
          obtain ⟨S_7, hB_7⟩ : ∃ s9, s_X9_count_l102 σ k_7 v2_7 = s9 := ⟨_, rfl⟩
          have hR : s_X9_count_c102 (iter (s_X9_count_l102 σ) n (k_7 + 1) S_7) = R := by rw [← hB_7]; exact hR
          have hB_7 : (if (s_X9_isInForce σ (nI k_7)) = (0 : Int32) then (v2_7 + (0 : Int32)) else (v2_7 + (1 : Int32))) = S_7 := hB_7
          refine lv_iload_n hx hb dX9_count_102 rfl (lv_at hl 0 rfl) ?_
          refine lv_aload_n hx hb dX9_count_103 rfl (lv_at hl 2 rfl) ?_
          refine va_get (D := D) (ci := 9) (v := .int (σ 5 0)) (C := RX9) (T := TX9) (N := 51) hx hb hts hu9 hown hK hP 0 wm_0 rfl 5 (by decide) (hts (.fieldLink RX9 148 "GrazeBookModel" "rights" "I") (List.mem_cons_of_mem _ mw_788)) (fun _ h9 => h9) rfl dX9_count_104 ?_
          refine lv_icmp_ge (tgt := 132) hx hb dX9_count_107 (by decide) (fun c_9 => absurd c_9 (ge_go hk_7)) (fun _ => ?_)
          refine lv_iload_n hx hb dX9_count_110 rfl (lv_at hl 1 rfl) ?_
          refine lv_aload_n hx hb dX9_count_111 rfl (lv_at hl 2 rfl) ?_
          refine lv_iload_n hx hb dX9_count_112 rfl (lv_at hl 0 rfl) ?_
          have hF := pw_free hD hS hA
          refine va_calli (va_runV (As := [.int (nI k_7)]) (rest := [.int v2_7]) ⟨hx, hb, hml, hown, hts⟩ (k_X9_isInForce l D ca h ad σ (nI k_7) H.size hI (ix_loop (N := 60) hk_7 (ir_5 hI) (by decide) (by decide)) _ rfl) (cwV 1 hts gX9_count_X9_isInForce rfl rfl rfl (by decide +kernel) ⟨Nat.le_of_ble_eq_true rfl, Nat.le_of_ble_eq_true rfl⟩) ⟨pw_blind, va_recv hK hP (ci := 9) (q0 := 0) rfl wm_0, pw_give hP hK hD⟩ rfl rfl hl.1 rfl (lv_room (Nat.le_of_ble_eq_true rfl)) dX9_count_113 ⟨Nat.le_of_ble_eq_true rfl, Nat.le_of_ble_eq_true rfl⟩) hS (fun q _ h => hF q h) hF (fun r_10 u t H1 locs ht hvm hw hB hz1 hk1 hS => ?_)
          subst hw
          obtain ⟨hP, hD⟩ := pw_back hF ht hB
          clear hB hk1 hz1 hF
          generalize H1 = H at hP hS ⊢
          refine lv_if_eq (tgt := 123) hx hb dX9_count_116 (by decide) (fun c_11 => ?_) (fun c_11 => ?_)
          · have hB_7 := (if_pos c_11).symm.trans hB_7
            refine lv_iconst (v := (0 : Int32)) hx hb dX9_count_123 (by decide) ?_
            refine lv_iadd hx hb dX9_count_124 ?_
            refine lv_istore_n (lv' := [(2, .int (v2_7 + (0 : Int32))), (3, .int (nI k_7)), (0, .ref h)]) hx hb dX9_count_125 rfl hl (by decide) rfl (fun ls hl => ?_)
            refine lv_iinc (v := (nI (k_7 + 1))) (lv' := [(3, .int (nI (k_7 + 1))), (2, .int (v2_7 + (0 : Int32))), (0, .ref h)]) hx hb dX9_count_126 hl (k := 1) rfl (by rw [show Int32.ofInt 1 = 1 from by decide]; exact nI_1 _) (by decide) rfl (fun ls hl => ?_)
            refine lv_goto (tgt := 102) hx hb dX9_count_129 (by decide) ?_
            subst hB_7
            exact ih (k_7 + 1) (v2_7 + (0 : Int32)) (ge_next hk_7)  _ _ _ hR hP hD hS (lv_sub hl [0, 1, 2] rfl)
          · have hB_7 := (if_neg c_11).symm.trans hB_7
            refine lv_iconst (v := (1 : Int32)) hx hb dX9_count_119 (by decide) ?_
            refine lv_goto (tgt := 124) hx hb dX9_count_120 (by decide) ?_
            refine lv_iadd hx hb dX9_count_124 ?_
            refine lv_istore_n (lv' := [(2, .int (v2_7 + (1 : Int32))), (3, .int (nI k_7)), (0, .ref h)]) hx hb dX9_count_125 rfl hl (by decide) rfl (fun ls hl => ?_)
            refine lv_iinc (v := (nI (k_7 + 1))) (lv' := [(3, .int (nI (k_7 + 1))), (2, .int (v2_7 + (1 : Int32))), (0, .ref h)]) hx hb dX9_count_126 hl (k := 1) rfl (by rw [show Int32.ofInt 1 = 1 from by decide]; exact nI_1 _) (by decide) rfl (fun ls hl => ?_)
            refine lv_goto (tgt := 102) hx hb dX9_count_129 (by decide) ?_
            subst hB_7
            exact ih (k_7 + 1) (v2_7 + (1 : Int32)) (ge_next hk_7)  _ _ _ hR hP hD hS (lv_sub hl [0, 1, 2] rfl)
      exact hL_7 _ 0 (0 : Int32) ⟨rfl, by decide⟩  _ _ _ hR hP hD hS (lv_sub hl [0, 1, 2] rfl)
    have hR := (if_neg c_6).symm.trans hR
    by_cases c_12 : a1 = (5 : Int32)
    · have hR := (if_pos c_12).symm.trans hR
      refine lv_tableIn (tgt := 134) hx hb dX9_count_25 (by rw [c_12]; decide) (by rw [c_12]; decide) (by rw [c_12]; rfl) (by decide) ?_
      refine lv_iconst (v := (0 : Int32)) hx hb dX9_count_134 (by decide) ?_
      refine lv_istore_n (lv' := [(3, .int (0 : Int32)), (2, .int (0 : Int32)), (0, .ref h), (1, .int a1)]) hx hb dX9_count_135 rfl hl (by decide) rfl (fun ls hl => ?_)
      have hE_13 : ∀ (v2_13 : Int32) (H : Heap) (locs : List Loc) (ls : Array Slot), s_X9_count_c136 v2_13 = R → va_P D vwCl (WM ca h ad σ) H → va_D A (WM ca h ad σ) → va_S A s.heap H locs → lv_has ls 4 [(2, .int v2_13)] → W p l e ((headSpec wsX9_count ({ frames := 1, cells := 0, slots := 0, locals := 21 })).room) s m ([.ref h, .int a1] : List Value).toArray below meth c H locs 0 0 QQ (F0 m 168 ls []) := by
        intro v2_13 H locs ls hR hP hD hS hl
        have hR : v2_13 = R := hR
        refine lv_iload_n hx hb dX9_count_168 rfl (lv_at hl 0 rfl) ?_
        subst hR
        rw [hQ]
        exact W.iret (v := v2_13) hx hb hr (fun t ht hW => ⟨⟨v2_13, (), rfl, rfl, ⟨by rw [ht]; exact hP, va_K.moved hW.alike hK, by rw [← hAe]; exact hD⟩⟩, hS.F ht⟩) hS.2.2 dX9_count_169
      have hL_13 : ∀ (n k_13 : Nat) (v2_13 : Int32) (hk_13 : lpk (σ 6 0) k_13 n) (H : Heap) (locs : List Loc) (ls : Array Slot), s_X9_count_c136 (iter (s_X9_count_l136 σ) n k_13 v2_13) = R → va_P D vwCl (WM ca h ad σ) H → va_D A (WM ca h ad σ) → va_S A s.heap H locs → lv_has ls 4 [(3, .int (nI k_13)), (2, .int v2_13), (0, .ref h)] → W p l e ((headSpec wsX9_count ({ frames := 1, cells := 0, slots := 0, locals := 21 })).room) s m ([.ref h, .int a1] : List Value).toArray below meth c H locs 0 0 QQ (F0 m 136 ls []) := by
        intro n
        induction n with
        | zero =>
          intro k_13 v2_13 hk_13 H locs ls hR hP hD hS hl
          refine lv_iload_n hx hb dX9_count_136 rfl (lv_at hl 0 rfl) ?_
          refine lv_aload_n hx hb dX9_count_137 rfl (lv_at hl 2 rfl) ?_
          refine va_get (D := D) (ci := 9) (v := .int (σ 6 0)) (C := RX9) (T := TX9) (N := 51) hx hb hts hu9 hown hK hP 0 wm_0 rfl 6 (by decide) (hts (.fieldLink RX9 164 "GrazeBookModel" "herds" "I") (List.mem_cons_of_mem _ mw_789)) (fun _ h9 => h9) rfl dX9_count_138 ?_
          refine lv_icmp_ge (tgt := 168) hx hb dX9_count_141 (by decide) (fun _ => ?_) (fun c_14 => absurd (ge_end hk_13) c_14)
          exact hE_13 v2_13 _ _ _ hR hP hD hS (lv_sub hl [1] rfl)
        | succ n ih =>
          intro k_13 v2_13 hk_13 H locs ls hR hP hD hS hl
          obtain ⟨S_13, hB_13⟩ : ∃ s9, s_X9_count_l136 σ k_13 v2_13 = s9 := ⟨_, rfl⟩
          have hR : s_X9_count_c136 (iter (s_X9_count_l136 σ) n (k_13 + 1) S_13) = R := by rw [← hB_13]; exact hR
          have hB_13 : (if (σ 41 k_13) = (2 : Int32) then (v2_13 + (0 : Int32)) else (v2_13 + (1 : Int32))) = S_13 := hB_13
          refine lv_iload_n hx hb dX9_count_136 rfl (lv_at hl 0 rfl) ?_
          refine lv_aload_n hx hb dX9_count_137 rfl (lv_at hl 2 rfl) ?_
          refine va_get (D := D) (ci := 9) (v := .int (σ 6 0)) (C := RX9) (T := TX9) (N := 51) hx hb hts hu9 hown hK hP 0 wm_0 rfl 6 (by decide) (hts (.fieldLink RX9 164 "GrazeBookModel" "herds" "I") (List.mem_cons_of_mem _ mw_789)) (fun _ h9 => h9) rfl dX9_count_138 ?_
          refine lv_icmp_ge (tgt := 168) hx hb dX9_count_141 (by decide) (fun c_15 => absurd c_15 (ge_go hk_13)) (fun _ => ?_)
          refine lv_iload_n hx hb dX9_count_144 rfl (lv_at hl 1 rfl) ?_
          refine lv_aload_n hx hb dX9_count_145 rfl (lv_at hl 2 rfl) ?_
          refine va_get (D := D) (ci := 9) (v := .ref (ad 41)) (C := RX9) (T := TX9) (N := 51) hx hb hts hu9 hown hK hP 0 wm_0 rfl 41 (by decide) (hts (.fieldLink RX9 98 "GrazeBookModel" "hState" "[I") (List.mem_cons_of_mem _ mw_824)) (fun _ h9 => h9) rfl dX9_count_146 ?_
          refine lv_iload_n hx hb dX9_count_149 rfl (lv_at hl 0 rfl) ?_
          refine va_iald_k (k := k_13) (v := (σ 41 k_13)) hx hb hK hP 30 0 wm_a41 rfl (ix_cl hk_13) rfl (ix_loop (N := 20) hk_13 (ir_6 hI) (by decide) (by decide)) dX9_count_150 ?_
          refine lv_iconst (v := (2 : Int32)) hx hb dX9_count_151 (by decide) ?_
          refine lv_icmp_eq (tgt := 159) hx hb dX9_count_152 (by decide) (fun c_16 => ?_) (fun c_16 => ?_)
          · have hB_13 := (if_pos c_16).symm.trans hB_13
            refine lv_iconst (v := (0 : Int32)) hx hb dX9_count_159 (by decide) ?_
            refine lv_iadd hx hb dX9_count_160 ?_
            refine lv_istore_n (lv' := [(2, .int (v2_13 + (0 : Int32))), (3, .int (nI k_13)), (0, .ref h)]) hx hb dX9_count_161 rfl hl (by decide) rfl (fun ls hl => ?_)
            refine lv_iinc (v := (nI (k_13 + 1))) (lv' := [(3, .int (nI (k_13 + 1))), (2, .int (v2_13 + (0 : Int32))), (0, .ref h)]) hx hb dX9_count_162 hl (k := 1) rfl (by rw [show Int32.ofInt 1 = 1 from by decide]; exact nI_1 _) (by decide) rfl (fun ls hl => ?_)
            refine lv_goto (tgt := 136) hx hb dX9_count_165 (by decide) ?_
            subst hB_13
            exact ih (k_13 + 1) (v2_13 + (0 : Int32)) (ge_next hk_13)  _ _ _ hR hP hD hS (lv_sub hl [0, 1, 2] rfl)
          · have hB_13 := (if_neg c_16).symm.trans hB_13
            refine lv_iconst (v := (1 : Int32)) hx hb dX9_count_155 (by decide) ?_
            refine lv_goto (tgt := 160) hx hb dX9_count_156 (by decide) ?_
            refine lv_iadd hx hb dX9_count_160 ?_
            refine lv_istore_n (lv' := [(2, .int (v2_13 + (1 : Int32))), (3, .int (nI k_13)), (0, .ref h)]) hx hb dX9_count_161 rfl hl (by decide) rfl (fun ls hl => ?_)
            refine lv_iinc (v := (nI (k_13 + 1))) (lv' := [(3, .int (nI (k_13 + 1))), (2, .int (v2_13 + (1 : Int32))), (0, .ref h)]) hx hb dX9_count_162 hl (k := 1) rfl (by rw [show Int32.ofInt 1 = 1 from by decide]; exact nI_1 _) (by decide) rfl (fun ls hl => ?_)
            refine lv_goto (tgt := 136) hx hb dX9_count_165 (by decide) ?_
            subst hB_13
            exact ih (k_13 + 1) (v2_13 + (1 : Int32)) (ge_next hk_13)  _ _ _ hR hP hD hS (lv_sub hl [0, 1, 2] rfl)
      exact hL_13 _ 0 (0 : Int32) ⟨rfl, by decide⟩  _ _ _ hR hP hD hS (lv_sub hl [0, 1, 2] rfl)
    have hR := (if_neg c_12).symm.trans hR
    by_cases c_17 : a1 = (6 : Int32)
    · have hR := (if_pos c_17).symm.trans hR
      refine lv_tableIn (tgt := 170) hx hb dX9_count_25 (by rw [c_17]; decide) (by rw [c_17]; decide) (by rw [c_17]; rfl) (by decide) ?_
      refine lv_iconst (v := (0 : Int32)) hx hb dX9_count_170 (by decide) ?_
      refine lv_istore_n (lv' := [(3, .int (0 : Int32)), (2, .int (0 : Int32)), (0, .ref h), (1, .int a1)]) hx hb dX9_count_171 rfl hl (by decide) rfl (fun ls hl => ?_)
      have hE_18 : ∀ (v2_18 : Int32) (H : Heap) (locs : List Loc) (ls : Array Slot), s_X9_count_c172 v2_18 = R → va_P D vwCl (WM ca h ad σ) H → va_D A (WM ca h ad σ) → va_S A s.heap H locs → lv_has ls 4 [(2, .int v2_18)] → W p l e ((headSpec wsX9_count ({ frames := 1, cells := 0, slots := 0, locals := 21 })).room) s m ([.ref h, .int a1] : List Value).toArray below meth c H locs 0 0 QQ (F0 m 195 ls []) := by
        intro v2_18 H locs ls hR hP hD hS hl
        have hR : v2_18 = R := hR
        refine lv_iload_n hx hb dX9_count_195 rfl (lv_at hl 0 rfl) ?_
        subst hR
        rw [hQ]
        exact W.iret (v := v2_18) hx hb hr (fun t ht hW => ⟨⟨v2_18, (), rfl, rfl, ⟨by rw [ht]; exact hP, va_K.moved hW.alike hK, by rw [← hAe]; exact hD⟩⟩, hS.F ht⟩) hS.2.2 dX9_count_196
      have hL_18 : ∀ (n k_18 : Nat) (v2_18 : Int32) (hk_18 : lpk (σ 2 0) k_18 n) (H : Heap) (locs : List Loc) (ls : Array Slot), s_X9_count_c172 (iter (s_X9_count_l172 σ) n k_18 v2_18) = R → va_P D vwCl (WM ca h ad σ) H → va_D A (WM ca h ad σ) → va_S A s.heap H locs → lv_has ls 4 [(3, .int (nI k_18)), (2, .int v2_18), (0, .ref h)] → W p l e ((headSpec wsX9_count ({ frames := 1, cells := 0, slots := 0, locals := 21 })).room) s m ([.ref h, .int a1] : List Value).toArray below meth c H locs 0 0 QQ (F0 m 172 ls []) := by
        intro n
        induction n with
        | zero =>
          intro k_18 v2_18 hk_18 H locs ls hR hP hD hS hl
          refine lv_iload_n hx hb dX9_count_172 rfl (lv_at hl 0 rfl) ?_
          refine lv_aload_n hx hb dX9_count_173 rfl (lv_at hl 2 rfl) ?_
          refine va_get (D := D) (ci := 9) (v := .int (σ 2 0)) (C := RX9) (T := TX9) (N := 51) hx hb hts hu9 hown hK hP 0 wm_0 rfl 2 (by decide) (hts (.fieldLink RX9 127 "GrazeBookModel" "pieces" "I") (List.mem_cons_of_mem _ mw_785)) (fun _ h9 => h9) rfl dX9_count_174 ?_
          refine lv_icmp_ge (tgt := 195) hx hb dX9_count_177 (by decide) (fun _ => ?_) (fun c_19 => absurd (ge_end hk_18) c_19)
          exact hE_18 v2_18 _ _ _ hR hP hD hS (lv_sub hl [1] rfl)
        | succ n ih =>
          intro k_18 v2_18 hk_18 H locs ls hR hP hD hS hl
          obtain ⟨S_18, hB_18⟩ : ∃ s9, s_X9_count_l172 σ k_18 v2_18 = s9 := ⟨_, rfl⟩
          have hR : s_X9_count_c172 (iter (s_X9_count_l172 σ) n (k_18 + 1) S_18) = R := by rw [← hB_18]; exact hR
          have hB_18 : (v2_18 + (σ 13 k_18)) = S_18 := hB_18
          refine lv_iload_n hx hb dX9_count_172 rfl (lv_at hl 0 rfl) ?_
          refine lv_aload_n hx hb dX9_count_173 rfl (lv_at hl 2 rfl) ?_
          refine va_get (D := D) (ci := 9) (v := .int (σ 2 0)) (C := RX9) (T := TX9) (N := 51) hx hb hts hu9 hown hK hP 0 wm_0 rfl 2 (by decide) (hts (.fieldLink RX9 127 "GrazeBookModel" "pieces" "I") (List.mem_cons_of_mem _ mw_785)) (fun _ h9 => h9) rfl dX9_count_174 ?_
          refine lv_icmp_ge (tgt := 195) hx hb dX9_count_177 (by decide) (fun c_20 => absurd c_20 (ge_go hk_18)) (fun _ => ?_)
          refine lv_iload_n hx hb dX9_count_180 rfl (lv_at hl 1 rfl) ?_
          refine lv_aload_n hx hb dX9_count_181 rfl (lv_at hl 2 rfl) ?_
          refine va_get (D := D) (ci := 9) (v := .ref (ad 13)) (C := RX9) (T := TX9) (N := 51) hx hb hts hu9 hown hK hP 0 wm_0 rfl 13 (by decide) (hts (.fieldLink RX9 13 "GrazeBookModel" "grass" "[I") (List.mem_cons_of_mem _ mw_796)) (fun _ h9 => h9) rfl dX9_count_182 ?_
          refine lv_iload_n hx hb dX9_count_185 rfl (lv_at hl 0 rfl) ?_
          refine va_iald_k (k := k_18) (v := (σ 13 k_18)) hx hb hK hP 2 0 wm_a13 rfl (ix_cl hk_18) rfl (ix_loop (N := 6) hk_18 (ir_2 hI) (by decide) (by decide)) dX9_count_186 ?_
          refine lv_iadd hx hb dX9_count_187 ?_
          refine lv_istore_n (lv' := [(2, .int (v2_18 + (σ 13 k_18))), (3, .int (nI k_18)), (0, .ref h)]) hx hb dX9_count_188 rfl hl (by decide) rfl (fun ls hl => ?_)
          refine lv_iinc (v := (nI (k_18 + 1))) (lv' := [(3, .int (nI (k_18 + 1))), (2, .int (v2_18 + (σ 13 k_18))), (0, .ref h)]) hx hb dX9_count_189 hl (k := 1) rfl (by rw [show Int32.ofInt 1 = 1 from by decide]; exact nI_1 _) (by decide) rfl (fun ls hl => ?_)
          refine lv_goto (tgt := 172) hx hb dX9_count_192 (by decide) ?_
          subst hB_18
          exact ih (k_18 + 1) (v2_18 + (σ 13 k_18)) (ge_next hk_18)  _ _ _ hR hP hD hS (lv_sub hl [0, 1, 2] rfl)
      exact hL_18 _ 0 (0 : Int32) ⟨rfl, by decide⟩  _ _ _ hR hP hD hS (lv_sub hl [0, 1, 2] rfl)
    have hR := (if_neg c_17).symm.trans hR
    by_cases c_21 : a1 = (7 : Int32)
    · have hR := (if_pos c_21).symm.trans hR
      refine lv_tableIn (tgt := 197) hx hb dX9_count_25 (by rw [c_21]; decide) (by rw [c_21]; decide) (by rw [c_21]; rfl) (by decide) ?_
      refine lv_aload_n hx hb dX9_count_197 rfl (lv_at hl 1 rfl) ?_
      refine va_get (D := D) (ci := 9) (v := .int (σ 10 0)) (C := RX9) (T := TX9) (N := 51) hx hb hts hu9 hown hK hP 0 wm_0 rfl 10 (by decide) (hts (.fieldLink RX9 230 "GrazeBookModel" "hungers" "I") (List.mem_cons_of_mem _ mw_793)) (fun _ h9 => h9) rfl dX9_count_198 ?_
      subst hR
      rw [hQ]
      exact W.iret (v := (σ 10 0)) hx hb hr (fun t ht hW => ⟨⟨(σ 10 0), (), rfl, rfl, ⟨by rw [ht]; exact hP, va_K.moved hW.alike hK, by rw [← hAe]; exact hD⟩⟩, hS.F ht⟩) hS.2.2 dX9_count_201
    have hR := (if_neg c_21).symm.trans hR
    by_cases c_22 : a1 = (8 : Int32)
    · have hR := (if_pos c_22).symm.trans hR
      refine lv_tableIn (tgt := 202) hx hb dX9_count_25 (by rw [c_22]; decide) (by rw [c_22]; decide) (by rw [c_22]; rfl) (by decide) ?_
      refine lv_aload_n hx hb dX9_count_202 rfl (lv_at hl 1 rfl) ?_
      refine va_get (D := D) (ci := 9) (v := .int (σ 11 0)) (C := RX9) (T := TX9) (N := 51) hx hb hts hu9 hown hK hP 0 wm_0 rfl 11 (by decide) (hts (.fieldLink RX9 221 "GrazeBookModel" "eats" "I") (List.mem_cons_of_mem _ mw_794)) (fun _ h9 => h9) rfl dX9_count_203 ?_
      subst hR
      rw [hQ]
      exact W.iret (v := (σ 11 0)) hx hb hr (fun t ht hW => ⟨⟨(σ 11 0), (), rfl, rfl, ⟨by rw [ht]; exact hP, va_K.moved hW.alike hK, by rw [← hAe]; exact hD⟩⟩, hS.F ht⟩) hS.2.2 dX9_count_206
    have hR := (if_neg c_22).symm.trans hR
    by_cases c_23 : a1 = (9 : Int32)
    · have hR := (if_pos c_23).symm.trans hR
      refine lv_tableIn (tgt := 207) hx hb dX9_count_25 (by rw [c_23]; decide) (by rw [c_23]; decide) (by rw [c_23]; rfl) (by decide) ?_
      refine lv_aload_n hx hb dX9_count_207 rfl (lv_at hl 1 rfl) ?_
      refine va_get (D := D) (ci := 9) (v := .int (σ 12 0)) (C := RX9) (T := TX9) (N := 51) hx hb hts hu9 hown hK hP 0 wm_0 rfl 12 (by decide) (hts (.fieldLink RX9 211 "GrazeBookModel" "lapsed" "I") (List.mem_cons_of_mem _ mw_795)) (fun _ h9 => h9) rfl dX9_count_208 ?_
      subst hR
      rw [hQ]
      exact W.iret (v := (σ 12 0)) hx hb hr (fun t ht hW => ⟨⟨(σ 12 0), (), rfl, rfl, ⟨by rw [ht]; exact hP, va_K.moved hW.alike hK, by rw [← hAe]; exact hD⟩⟩, hS.F ht⟩) hS.2.2 dX9_count_211
    have hR := (if_neg c_23).symm.trans hR
    refine lv_tableOut (tgt := 212) hx hb dX9_count_25 (sw_out9 c_2 c_3 c_4 c_5 c_6 c_12 c_17 c_21 c_22 c_23) (by decide) ?_
    refine lv_bipush (v := (-9 : Int32)) hx hb dX9_count_212 (by decide) ?_
    subst hR
    rw [hQ]
    exact W.iret (v := (-9 : Int32)) hx hb hr (fun t ht hW => ⟨⟨(-9 : Int32), (), rfl, rfl, ⟨by rw [ht]; exact hP, va_K.moved hW.alike hK, by rw [← hAe]; exact hD⟩⟩, hS.F ht⟩) hS.2.2 dX9_count_214
  · have hR := (if_neg c_1).symm.trans hR
    refine lv_iload_n hx hb dX9_count_6 rfl (lv_at hl 1 rfl) ?_
    refine lv_bipush (v := (17 : Int32)) hx hb dX9_count_7 (by decide) ?_
    refine lv_icmp_ge (tgt := 22) hx hb dX9_count_9 (by decide) (fun c_24 => ?_) (fun c_24 => ?_)
    · have hR := (if_pos c_24).symm.trans hR
      refine lv_iconst (v := (0 : Int32)) hx hb dX9_count_22 (by decide) ?_
      refine lv_istore_n (lv' := [(2, .int (0 : Int32)), (0, .ref h), (1, .int a1)]) hx hb dX9_count_23 rfl hl (by decide) rfl (fun ls hl => ?_)
      refine lv_iload_n hx hb dX9_count_24 rfl (lv_at hl 2 rfl) ?_
      by_cases c_25 : a1 = (0 : Int32)
      · have hR := (if_pos c_25).symm.trans hR
        refine lv_tableIn (tgt := 80) hx hb dX9_count_25 (by rw [c_25]; decide) (by rw [c_25]; decide) (by rw [c_25]; rfl) (by decide) ?_
        refine lv_aload_n hx hb dX9_count_80 rfl (lv_at hl 1 rfl) ?_
        refine va_get (D := D) (ci := 9) (v := .int (σ 1 0)) (C := RX9) (T := TX9) (N := 51) hx hb hts hu9 hown hK hP 0 wm_0 rfl 1 (by decide) (hts (.fieldLink RX9 141 "GrazeBookModel" "day" "I") (List.mem_cons_of_mem _ mw_784)) (fun _ h9 => h9) rfl dX9_count_81 ?_
        subst hR
        rw [hQ]
        exact W.iret (v := (σ 1 0)) hx hb hr (fun t ht hW => ⟨⟨(σ 1 0), (), rfl, rfl, ⟨by rw [ht]; exact hP, va_K.moved hW.alike hK, by rw [← hAe]; exact hD⟩⟩, hS.F ht⟩) hS.2.2 dX9_count_84
      have hR := (if_neg c_25).symm.trans hR
      by_cases c_26 : a1 = (1 : Int32)
      · have hR := (if_pos c_26).symm.trans hR
        refine lv_tableIn (tgt := 85) hx hb dX9_count_25 (by rw [c_26]; decide) (by rw [c_26]; decide) (by rw [c_26]; rfl) (by decide) ?_
        refine lv_aload_n hx hb dX9_count_85 rfl (lv_at hl 1 rfl) ?_
        refine va_get (D := D) (ci := 9) (v := .int (σ 2 0)) (C := RX9) (T := TX9) (N := 51) hx hb hts hu9 hown hK hP 0 wm_0 rfl 2 (by decide) (hts (.fieldLink RX9 127 "GrazeBookModel" "pieces" "I") (List.mem_cons_of_mem _ mw_785)) (fun _ h9 => h9) rfl dX9_count_86 ?_
        subst hR
        rw [hQ]
        exact W.iret (v := (σ 2 0)) hx hb hr (fun t ht hW => ⟨⟨(σ 2 0), (), rfl, rfl, ⟨by rw [ht]; exact hP, va_K.moved hW.alike hK, by rw [← hAe]; exact hD⟩⟩, hS.F ht⟩) hS.2.2 dX9_count_89
      have hR := (if_neg c_26).symm.trans hR
      by_cases c_27 : a1 = (2 : Int32)
      · have hR := (if_pos c_27).symm.trans hR
        refine lv_tableIn (tgt := 90) hx hb dX9_count_25 (by rw [c_27]; decide) (by rw [c_27]; decide) (by rw [c_27]; rfl) (by decide) ?_
        refine lv_aload_n hx hb dX9_count_90 rfl (lv_at hl 1 rfl) ?_
        refine va_get (D := D) (ci := 9) (v := .int (σ 3 0)) (C := RX9) (T := TX9) (N := 51) hx hb hts hu9 hown hK hP 0 wm_0 rfl 3 (by decide) (hts (.fieldLink RX9 131 "GrazeBookModel" "owners" "I") (List.mem_cons_of_mem _ mw_786)) (fun _ h9 => h9) rfl dX9_count_91 ?_
        subst hR
        rw [hQ]
        exact W.iret (v := (σ 3 0)) hx hb hr (fun t ht hW => ⟨⟨(σ 3 0), (), rfl, rfl, ⟨by rw [ht]; exact hP, va_K.moved hW.alike hK, by rw [← hAe]; exact hD⟩⟩, hS.F ht⟩) hS.2.2 dX9_count_94
      have hR := (if_neg c_27).symm.trans hR
      by_cases c_28 : a1 = (3 : Int32)
      · have hR := (if_pos c_28).symm.trans hR
        refine lv_tableIn (tgt := 95) hx hb dX9_count_25 (by rw [c_28]; decide) (by rw [c_28]; decide) (by rw [c_28]; rfl) (by decide) ?_
        refine lv_aload_n hx hb dX9_count_95 rfl (lv_at hl 1 rfl) ?_
        refine va_get (D := D) (ci := 9) (v := .int (σ 4 0)) (C := RX9) (T := TX9) (N := 51) hx hb hts hu9 hown hK hP 0 wm_0 rfl 4 (by decide) (hts (.fieldLink RX9 138 "GrazeBookModel" "houses" "I") (List.mem_cons_of_mem _ mw_787)) (fun _ h9 => h9) rfl dX9_count_96 ?_
        subst hR
        rw [hQ]
        exact W.iret (v := (σ 4 0)) hx hb hr (fun t ht hW => ⟨⟨(σ 4 0), (), rfl, rfl, ⟨by rw [ht]; exact hP, va_K.moved hW.alike hK, by rw [← hAe]; exact hD⟩⟩, hS.F ht⟩) hS.2.2 dX9_count_99
      have hR := (if_neg c_28).symm.trans hR
      by_cases c_29 : a1 = (4 : Int32)
      · have hR := (if_pos c_29).symm.trans hR
        refine lv_tableIn (tgt := 100) hx hb dX9_count_25 (by rw [c_29]; decide) (by rw [c_29]; decide) (by rw [c_29]; rfl) (by decide) ?_
        refine lv_iconst (v := (0 : Int32)) hx hb dX9_count_100 (by decide) ?_
        refine lv_istore_n (lv' := [(3, .int (0 : Int32)), (2, .int (0 : Int32)), (0, .ref h), (1, .int a1)]) hx hb dX9_count_101 rfl hl (by decide) rfl (fun ls hl => ?_)
        have hE_30 : ∀ (v2_30 : Int32) (H : Heap) (locs : List Loc) (ls : Array Slot), s_X9_count_c102_1 v2_30 = R → va_P D vwCl (WM ca h ad σ) H → va_D A (WM ca h ad σ) → va_S A s.heap H locs → lv_has ls 4 [(2, .int v2_30)] → W p l e ((headSpec wsX9_count ({ frames := 1, cells := 0, slots := 0, locals := 21 })).room) s m ([.ref h, .int a1] : List Value).toArray below meth c H locs 0 0 QQ (F0 m 132 ls []) := by
          intro v2_30 H locs ls hR hP hD hS hl
          have hR : v2_30 = R := hR
          refine lv_iload_n hx hb dX9_count_132 rfl (lv_at hl 0 rfl) ?_
          subst hR
          rw [hQ]
          exact W.iret (v := v2_30) hx hb hr (fun t ht hW => ⟨⟨v2_30, (), rfl, rfl, ⟨by rw [ht]; exact hP, va_K.moved hW.alike hK, by rw [← hAe]; exact hD⟩⟩, hS.F ht⟩) hS.2.2 dX9_count_133
        have hL_30 : ∀ (n k_30 : Nat) (v2_30 : Int32) (hk_30 : lpk (σ 5 0) k_30 n) (H : Heap) (locs : List Loc) (ls : Array Slot), s_X9_count_c102_1 (iter (s_X9_count_l102_1 σ) n k_30 v2_30) = R → va_P D vwCl (WM ca h ad σ) H → va_D A (WM ca h ad σ) → va_S A s.heap H locs → lv_has ls 4 [(3, .int (nI k_30)), (2, .int v2_30), (0, .ref h)] → W p l e ((headSpec wsX9_count ({ frames := 1, cells := 0, slots := 0, locals := 21 })).room) s m ([.ref h, .int a1] : List Value).toArray below meth c H locs 0 0 QQ (F0 m 102 ls []) := by
          intro n
          induction n with
          | zero =>
            intro k_30 v2_30 hk_30 H locs ls hR hP hD hS hl
            refine lv_iload_n hx hb dX9_count_102 rfl (lv_at hl 0 rfl) ?_
            refine lv_aload_n hx hb dX9_count_103 rfl (lv_at hl 2 rfl) ?_
            refine va_get (D := D) (ci := 9) (v := .int (σ 5 0)) (C := RX9) (T := TX9) (N := 51) hx hb hts hu9 hown hK hP 0 wm_0 rfl 5 (by decide) (hts (.fieldLink RX9 148 "GrazeBookModel" "rights" "I") (List.mem_cons_of_mem _ mw_788)) (fun _ h9 => h9) rfl dX9_count_104 ?_
            refine lv_icmp_ge (tgt := 132) hx hb dX9_count_107 (by decide) (fun _ => ?_) (fun c_31 => absurd (ge_end hk_30) c_31)
            exact hE_30 v2_30 _ _ _ hR hP hD hS (lv_sub hl [1] rfl)
          | succ n ih =>
            intro k_30 v2_30 hk_30 H locs ls hR hP hD hS hl
            obtain ⟨S_30, hB_30⟩ : ∃ s9, s_X9_count_l102_1 σ k_30 v2_30 = s9 := ⟨_, rfl⟩
            have hR : s_X9_count_c102_1 (iter (s_X9_count_l102_1 σ) n (k_30 + 1) S_30) = R := by rw [← hB_30]; exact hR
            have hB_30 : (if (s_X9_isInForce σ (nI k_30)) = (0 : Int32) then (v2_30 + (0 : Int32)) else (v2_30 + (1 : Int32))) = S_30 := hB_30
            refine lv_iload_n hx hb dX9_count_102 rfl (lv_at hl 0 rfl) ?_
            refine lv_aload_n hx hb dX9_count_103 rfl (lv_at hl 2 rfl) ?_
            refine va_get (D := D) (ci := 9) (v := .int (σ 5 0)) (C := RX9) (T := TX9) (N := 51) hx hb hts hu9 hown hK hP 0 wm_0 rfl 5 (by decide) (hts (.fieldLink RX9 148 "GrazeBookModel" "rights" "I") (List.mem_cons_of_mem _ mw_788)) (fun _ h9 => h9) rfl dX9_count_104 ?_
            refine lv_icmp_ge (tgt := 132) hx hb dX9_count_107 (by decide) (fun c_32 => absurd c_32 (ge_go hk_30)) (fun _ => ?_)
            refine lv_iload_n hx hb dX9_count_110 rfl (lv_at hl 1 rfl) ?_
            refine lv_aload_n hx hb dX9_count_111 rfl (lv_at hl 2 rfl) ?_
            refine lv_iload_n hx hb dX9_count_112 rfl (lv_at hl 0 rfl) ?_
            have hF := pw_free hD hS hA
            refine va_calli (va_runV (As := [.int (nI k_30)]) (rest := [.int v2_30]) ⟨hx, hb, hml, hown, hts⟩ (k_X9_isInForce l D ca h ad σ (nI k_30) H.size hI (ix_loop (N := 60) hk_30 (ir_5 hI) (by decide) (by decide)) _ rfl) (cwV 1 hts gX9_count_X9_isInForce rfl rfl rfl (by decide +kernel) ⟨Nat.le_of_ble_eq_true rfl, Nat.le_of_ble_eq_true rfl⟩) ⟨pw_blind, va_recv hK hP (ci := 9) (q0 := 0) rfl wm_0, pw_give hP hK hD⟩ rfl rfl hl.1 rfl (lv_room (Nat.le_of_ble_eq_true rfl)) dX9_count_113 ⟨Nat.le_of_ble_eq_true rfl, Nat.le_of_ble_eq_true rfl⟩) hS (fun q _ h => hF q h) hF (fun r_33 u t H1 locs ht hvm hw hB hz1 hk1 hS => ?_)
            subst hw
            obtain ⟨hP, hD⟩ := pw_back hF ht hB
            clear hB hk1 hz1 hF
            generalize H1 = H at hP hS ⊢
            refine lv_if_eq (tgt := 123) hx hb dX9_count_116 (by decide) (fun c_34 => ?_) (fun c_34 => ?_)
            · have hB_30 := (if_pos c_34).symm.trans hB_30
              refine lv_iconst (v := (0 : Int32)) hx hb dX9_count_123 (by decide) ?_
              refine lv_iadd hx hb dX9_count_124 ?_
              refine lv_istore_n (lv' := [(2, .int (v2_30 + (0 : Int32))), (3, .int (nI k_30)), (0, .ref h)]) hx hb dX9_count_125 rfl hl (by decide) rfl (fun ls hl => ?_)
              refine lv_iinc (v := (nI (k_30 + 1))) (lv' := [(3, .int (nI (k_30 + 1))), (2, .int (v2_30 + (0 : Int32))), (0, .ref h)]) hx hb dX9_count_126 hl (k := 1) rfl (by rw [show Int32.ofInt 1 = 1 from by decide]; exact nI_1 _) (by decide) rfl (fun ls hl => ?_)
              refine lv_goto (tgt := 102) hx hb dX9_count_129 (by decide) ?_
              subst hB_30
              exact ih (k_30 + 1) (v2_30 + (0 : Int32)) (ge_next hk_30)  _ _ _ hR hP hD hS (lv_sub hl [0, 1, 2] rfl)
            · have hB_30 := (if_neg c_34).symm.trans hB_30
              refine lv_iconst (v := (1 : Int32)) hx hb dX9_count_119 (by decide) ?_
              refine lv_goto (tgt := 124) hx hb dX9_count_120 (by decide) ?_
              refine lv_iadd hx hb dX9_count_124 ?_
              refine lv_istore_n (lv' := [(2, .int (v2_30 + (1 : Int32))), (3, .int (nI k_30)), (0, .ref h)]) hx hb dX9_count_125 rfl hl (by decide) rfl (fun ls hl => ?_)
              refine lv_iinc (v := (nI (k_30 + 1))) (lv' := [(3, .int (nI (k_30 + 1))), (2, .int (v2_30 + (1 : Int32))), (0, .ref h)]) hx hb dX9_count_126 hl (k := 1) rfl (by rw [show Int32.ofInt 1 = 1 from by decide]; exact nI_1 _) (by decide) rfl (fun ls hl => ?_)
              refine lv_goto (tgt := 102) hx hb dX9_count_129 (by decide) ?_
              subst hB_30
              exact ih (k_30 + 1) (v2_30 + (1 : Int32)) (ge_next hk_30)  _ _ _ hR hP hD hS (lv_sub hl [0, 1, 2] rfl)
        exact hL_30 _ 0 (0 : Int32) ⟨rfl, by decide⟩  _ _ _ hR hP hD hS (lv_sub hl [0, 1, 2] rfl)
      have hR := (if_neg c_29).symm.trans hR
      by_cases c_35 : a1 = (5 : Int32)
      · have hR := (if_pos c_35).symm.trans hR
        refine lv_tableIn (tgt := 134) hx hb dX9_count_25 (by rw [c_35]; decide) (by rw [c_35]; decide) (by rw [c_35]; rfl) (by decide) ?_
        refine lv_iconst (v := (0 : Int32)) hx hb dX9_count_134 (by decide) ?_
        refine lv_istore_n (lv' := [(3, .int (0 : Int32)), (2, .int (0 : Int32)), (0, .ref h), (1, .int a1)]) hx hb dX9_count_135 rfl hl (by decide) rfl (fun ls hl => ?_)
        have hE_36 : ∀ (v2_36 : Int32) (H : Heap) (locs : List Loc) (ls : Array Slot), s_X9_count_c136_1 v2_36 = R → va_P D vwCl (WM ca h ad σ) H → va_D A (WM ca h ad σ) → va_S A s.heap H locs → lv_has ls 4 [(2, .int v2_36)] → W p l e ((headSpec wsX9_count ({ frames := 1, cells := 0, slots := 0, locals := 21 })).room) s m ([.ref h, .int a1] : List Value).toArray below meth c H locs 0 0 QQ (F0 m 168 ls []) := by
          intro v2_36 H locs ls hR hP hD hS hl
          have hR : v2_36 = R := hR
          refine lv_iload_n hx hb dX9_count_168 rfl (lv_at hl 0 rfl) ?_
          subst hR
          rw [hQ]
          exact W.iret (v := v2_36) hx hb hr (fun t ht hW => ⟨⟨v2_36, (), rfl, rfl, ⟨by rw [ht]; exact hP, va_K.moved hW.alike hK, by rw [← hAe]; exact hD⟩⟩, hS.F ht⟩) hS.2.2 dX9_count_169
        have hL_36 : ∀ (n k_36 : Nat) (v2_36 : Int32) (hk_36 : lpk (σ 6 0) k_36 n) (H : Heap) (locs : List Loc) (ls : Array Slot), s_X9_count_c136_1 (iter (s_X9_count_l136_1 σ) n k_36 v2_36) = R → va_P D vwCl (WM ca h ad σ) H → va_D A (WM ca h ad σ) → va_S A s.heap H locs → lv_has ls 4 [(3, .int (nI k_36)), (2, .int v2_36), (0, .ref h)] → W p l e ((headSpec wsX9_count ({ frames := 1, cells := 0, slots := 0, locals := 21 })).room) s m ([.ref h, .int a1] : List Value).toArray below meth c H locs 0 0 QQ (F0 m 136 ls []) := by
          intro n
          induction n with
          | zero =>
            intro k_36 v2_36 hk_36 H locs ls hR hP hD hS hl
            refine lv_iload_n hx hb dX9_count_136 rfl (lv_at hl 0 rfl) ?_
            refine lv_aload_n hx hb dX9_count_137 rfl (lv_at hl 2 rfl) ?_
            refine va_get (D := D) (ci := 9) (v := .int (σ 6 0)) (C := RX9) (T := TX9) (N := 51) hx hb hts hu9 hown hK hP 0 wm_0 rfl 6 (by decide) (hts (.fieldLink RX9 164 "GrazeBookModel" "herds" "I") (List.mem_cons_of_mem _ mw_789)) (fun _ h9 => h9) rfl dX9_count_138 ?_
            refine lv_icmp_ge (tgt := 168) hx hb dX9_count_141 (by decide) (fun _ => ?_) (fun c_37 => absurd (ge_end hk_36) c_37)
            exact hE_36 v2_36 _ _ _ hR hP hD hS (lv_sub hl [1] rfl)
          | succ n ih =>
            intro k_36 v2_36 hk_36 H locs ls hR hP hD hS hl
            obtain ⟨S_36, hB_36⟩ : ∃ s9, s_X9_count_l136_1 σ k_36 v2_36 = s9 := ⟨_, rfl⟩
            have hR : s_X9_count_c136_1 (iter (s_X9_count_l136_1 σ) n (k_36 + 1) S_36) = R := by rw [← hB_36]; exact hR
            have hB_36 : (if (σ 41 k_36) = (2 : Int32) then (v2_36 + (0 : Int32)) else (v2_36 + (1 : Int32))) = S_36 := hB_36
            refine lv_iload_n hx hb dX9_count_136 rfl (lv_at hl 0 rfl) ?_
            refine lv_aload_n hx hb dX9_count_137 rfl (lv_at hl 2 rfl) ?_
            refine va_get (D := D) (ci := 9) (v := .int (σ 6 0)) (C := RX9) (T := TX9) (N := 51) hx hb hts hu9 hown hK hP 0 wm_0 rfl 6 (by decide) (hts (.fieldLink RX9 164 "GrazeBookModel" "herds" "I") (List.mem_cons_of_mem _ mw_789)) (fun _ h9 => h9) rfl dX9_count_138 ?_
            refine lv_icmp_ge (tgt := 168) hx hb dX9_count_141 (by decide) (fun c_38 => absurd c_38 (ge_go hk_36)) (fun _ => ?_)
            refine lv_iload_n hx hb dX9_count_144 rfl (lv_at hl 1 rfl) ?_
            refine lv_aload_n hx hb dX9_count_145 rfl (lv_at hl 2 rfl) ?_
            refine va_get (D := D) (ci := 9) (v := .ref (ad 41)) (C := RX9) (T := TX9) (N := 51) hx hb hts hu9 hown hK hP 0 wm_0 rfl 41 (by decide) (hts (.fieldLink RX9 98 "GrazeBookModel" "hState" "[I") (List.mem_cons_of_mem _ mw_824)) (fun _ h9 => h9) rfl dX9_count_146 ?_
            refine lv_iload_n hx hb dX9_count_149 rfl (lv_at hl 0 rfl) ?_
            refine va_iald_k (k := k_36) (v := (σ 41 k_36)) hx hb hK hP 30 0 wm_a41 rfl (ix_cl hk_36) rfl (ix_loop (N := 20) hk_36 (ir_6 hI) (by decide) (by decide)) dX9_count_150 ?_
            refine lv_iconst (v := (2 : Int32)) hx hb dX9_count_151 (by decide) ?_
            refine lv_icmp_eq (tgt := 159) hx hb dX9_count_152 (by decide) (fun c_39 => ?_) (fun c_39 => ?_)
            · have hB_36 := (if_pos c_39).symm.trans hB_36
              refine lv_iconst (v := (0 : Int32)) hx hb dX9_count_159 (by decide) ?_
              refine lv_iadd hx hb dX9_count_160 ?_
              refine lv_istore_n (lv' := [(2, .int (v2_36 + (0 : Int32))), (3, .int (nI k_36)), (0, .ref h)]) hx hb dX9_count_161 rfl hl (by decide) rfl (fun ls hl => ?_)
              refine lv_iinc (v := (nI (k_36 + 1))) (lv' := [(3, .int (nI (k_36 + 1))), (2, .int (v2_36 + (0 : Int32))), (0, .ref h)]) hx hb dX9_count_162 hl (k := 1) rfl (by rw [show Int32.ofInt 1 = 1 from by decide]; exact nI_1 _) (by decide) rfl (fun ls hl => ?_)
              refine lv_goto (tgt := 136) hx hb dX9_count_165 (by decide) ?_
              subst hB_36
              exact ih (k_36 + 1) (v2_36 + (0 : Int32)) (ge_next hk_36)  _ _ _ hR hP hD hS (lv_sub hl [0, 1, 2] rfl)
            · have hB_36 := (if_neg c_39).symm.trans hB_36
              refine lv_iconst (v := (1 : Int32)) hx hb dX9_count_155 (by decide) ?_
              refine lv_goto (tgt := 160) hx hb dX9_count_156 (by decide) ?_
              refine lv_iadd hx hb dX9_count_160 ?_
              refine lv_istore_n (lv' := [(2, .int (v2_36 + (1 : Int32))), (3, .int (nI k_36)), (0, .ref h)]) hx hb dX9_count_161 rfl hl (by decide) rfl (fun ls hl => ?_)
              refine lv_iinc (v := (nI (k_36 + 1))) (lv' := [(3, .int (nI (k_36 + 1))), (2, .int (v2_36 + (1 : Int32))), (0, .ref h)]) hx hb dX9_count_162 hl (k := 1) rfl (by rw [show Int32.ofInt 1 = 1 from by decide]; exact nI_1 _) (by decide) rfl (fun ls hl => ?_)
              refine lv_goto (tgt := 136) hx hb dX9_count_165 (by decide) ?_
              subst hB_36
              exact ih (k_36 + 1) (v2_36 + (1 : Int32)) (ge_next hk_36)  _ _ _ hR hP hD hS (lv_sub hl [0, 1, 2] rfl)
        exact hL_36 _ 0 (0 : Int32) ⟨rfl, by decide⟩  _ _ _ hR hP hD hS (lv_sub hl [0, 1, 2] rfl)
      have hR := (if_neg c_35).symm.trans hR
      by_cases c_40 : a1 = (6 : Int32)
      · have hR := (if_pos c_40).symm.trans hR
        refine lv_tableIn (tgt := 170) hx hb dX9_count_25 (by rw [c_40]; decide) (by rw [c_40]; decide) (by rw [c_40]; rfl) (by decide) ?_
        refine lv_iconst (v := (0 : Int32)) hx hb dX9_count_170 (by decide) ?_
        refine lv_istore_n (lv' := [(3, .int (0 : Int32)), (2, .int (0 : Int32)), (0, .ref h), (1, .int a1)]) hx hb dX9_count_171 rfl hl (by decide) rfl (fun ls hl => ?_)
        have hE_41 : ∀ (v2_41 : Int32) (H : Heap) (locs : List Loc) (ls : Array Slot), s_X9_count_c172_1 v2_41 = R → va_P D vwCl (WM ca h ad σ) H → va_D A (WM ca h ad σ) → va_S A s.heap H locs → lv_has ls 4 [(2, .int v2_41)] → W p l e ((headSpec wsX9_count ({ frames := 1, cells := 0, slots := 0, locals := 21 })).room) s m ([.ref h, .int a1] : List Value).toArray below meth c H locs 0 0 QQ (F0 m 195 ls []) := by
          intro v2_41 H locs ls hR hP hD hS hl
          have hR : v2_41 = R := hR
          refine lv_iload_n hx hb dX9_count_195 rfl (lv_at hl 0 rfl) ?_
          subst hR
          rw [hQ]
          exact W.iret (v := v2_41) hx hb hr (fun t ht hW => ⟨⟨v2_41, (), rfl, rfl, ⟨by rw [ht]; exact hP, va_K.moved hW.alike hK, by rw [← hAe]; exact hD⟩⟩, hS.F ht⟩) hS.2.2 dX9_count_196
        have hL_41 : ∀ (n k_41 : Nat) (v2_41 : Int32) (hk_41 : lpk (σ 2 0) k_41 n) (H : Heap) (locs : List Loc) (ls : Array Slot), s_X9_count_c172_1 (iter (s_X9_count_l172_1 σ) n k_41 v2_41) = R → va_P D vwCl (WM ca h ad σ) H → va_D A (WM ca h ad σ) → va_S A s.heap H locs → lv_has ls 4 [(3, .int (nI k_41)), (2, .int v2_41), (0, .ref h)] → W p l e ((headSpec wsX9_count ({ frames := 1, cells := 0, slots := 0, locals := 21 })).room) s m ([.ref h, .int a1] : List Value).toArray below meth c H locs 0 0 QQ (F0 m 172 ls []) := by
          intro n
          induction n with
          | zero =>
            intro k_41 v2_41 hk_41 H locs ls hR hP hD hS hl
            refine lv_iload_n hx hb dX9_count_172 rfl (lv_at hl 0 rfl) ?_
            refine lv_aload_n hx hb dX9_count_173 rfl (lv_at hl 2 rfl) ?_
            refine va_get (D := D) (ci := 9) (v := .int (σ 2 0)) (C := RX9) (T := TX9) (N := 51) hx hb hts hu9 hown hK hP 0 wm_0 rfl 2 (by decide) (hts (.fieldLink RX9 127 "GrazeBookModel" "pieces" "I") (List.mem_cons_of_mem _ mw_785)) (fun _ h9 => h9) rfl dX9_count_174 ?_
            refine lv_icmp_ge (tgt := 195) hx hb dX9_count_177 (by decide) (fun _ => ?_) (fun c_42 => absurd (ge_end hk_41) c_42)
            exact hE_41 v2_41 _ _ _ hR hP hD hS (lv_sub hl [1] rfl)
          | succ n ih =>
            intro k_41 v2_41 hk_41 H locs ls hR hP hD hS hl
            obtain ⟨S_41, hB_41⟩ : ∃ s9, s_X9_count_l172_1 σ k_41 v2_41 = s9 := ⟨_, rfl⟩
            have hR : s_X9_count_c172_1 (iter (s_X9_count_l172_1 σ) n (k_41 + 1) S_41) = R := by rw [← hB_41]; exact hR
            have hB_41 : (v2_41 + (σ 13 k_41)) = S_41 := hB_41
            refine lv_iload_n hx hb dX9_count_172 rfl (lv_at hl 0 rfl) ?_
            refine lv_aload_n hx hb dX9_count_173 rfl (lv_at hl 2 rfl) ?_
            refine va_get (D := D) (ci := 9) (v := .int (σ 2 0)) (C := RX9) (T := TX9) (N := 51) hx hb hts hu9 hown hK hP 0 wm_0 rfl 2 (by decide) (hts (.fieldLink RX9 127 "GrazeBookModel" "pieces" "I") (List.mem_cons_of_mem _ mw_785)) (fun _ h9 => h9) rfl dX9_count_174 ?_
            refine lv_icmp_ge (tgt := 195) hx hb dX9_count_177 (by decide) (fun c_43 => absurd c_43 (ge_go hk_41)) (fun _ => ?_)
            refine lv_iload_n hx hb dX9_count_180 rfl (lv_at hl 1 rfl) ?_
            refine lv_aload_n hx hb dX9_count_181 rfl (lv_at hl 2 rfl) ?_
            refine va_get (D := D) (ci := 9) (v := .ref (ad 13)) (C := RX9) (T := TX9) (N := 51) hx hb hts hu9 hown hK hP 0 wm_0 rfl 13 (by decide) (hts (.fieldLink RX9 13 "GrazeBookModel" "grass" "[I") (List.mem_cons_of_mem _ mw_796)) (fun _ h9 => h9) rfl dX9_count_182 ?_
            refine lv_iload_n hx hb dX9_count_185 rfl (lv_at hl 0 rfl) ?_
            refine va_iald_k (k := k_41) (v := (σ 13 k_41)) hx hb hK hP 2 0 wm_a13 rfl (ix_cl hk_41) rfl (ix_loop (N := 6) hk_41 (ir_2 hI) (by decide) (by decide)) dX9_count_186 ?_
            refine lv_iadd hx hb dX9_count_187 ?_
            refine lv_istore_n (lv' := [(2, .int (v2_41 + (σ 13 k_41))), (3, .int (nI k_41)), (0, .ref h)]) hx hb dX9_count_188 rfl hl (by decide) rfl (fun ls hl => ?_)
            refine lv_iinc (v := (nI (k_41 + 1))) (lv' := [(3, .int (nI (k_41 + 1))), (2, .int (v2_41 + (σ 13 k_41))), (0, .ref h)]) hx hb dX9_count_189 hl (k := 1) rfl (by rw [show Int32.ofInt 1 = 1 from by decide]; exact nI_1 _) (by decide) rfl (fun ls hl => ?_)
            refine lv_goto (tgt := 172) hx hb dX9_count_192 (by decide) ?_
            subst hB_41
            exact ih (k_41 + 1) (v2_41 + (σ 13 k_41)) (ge_next hk_41)  _ _ _ hR hP hD hS (lv_sub hl [0, 1, 2] rfl)
        exact hL_41 _ 0 (0 : Int32) ⟨rfl, by decide⟩  _ _ _ hR hP hD hS (lv_sub hl [0, 1, 2] rfl)
      have hR := (if_neg c_40).symm.trans hR
      by_cases c_44 : a1 = (7 : Int32)
      · have hR := (if_pos c_44).symm.trans hR
        refine lv_tableIn (tgt := 197) hx hb dX9_count_25 (by rw [c_44]; decide) (by rw [c_44]; decide) (by rw [c_44]; rfl) (by decide) ?_
        refine lv_aload_n hx hb dX9_count_197 rfl (lv_at hl 1 rfl) ?_
        refine va_get (D := D) (ci := 9) (v := .int (σ 10 0)) (C := RX9) (T := TX9) (N := 51) hx hb hts hu9 hown hK hP 0 wm_0 rfl 10 (by decide) (hts (.fieldLink RX9 230 "GrazeBookModel" "hungers" "I") (List.mem_cons_of_mem _ mw_793)) (fun _ h9 => h9) rfl dX9_count_198 ?_
        subst hR
        rw [hQ]
        exact W.iret (v := (σ 10 0)) hx hb hr (fun t ht hW => ⟨⟨(σ 10 0), (), rfl, rfl, ⟨by rw [ht]; exact hP, va_K.moved hW.alike hK, by rw [← hAe]; exact hD⟩⟩, hS.F ht⟩) hS.2.2 dX9_count_201
      have hR := (if_neg c_44).symm.trans hR
      by_cases c_45 : a1 = (8 : Int32)
      · have hR := (if_pos c_45).symm.trans hR
        refine lv_tableIn (tgt := 202) hx hb dX9_count_25 (by rw [c_45]; decide) (by rw [c_45]; decide) (by rw [c_45]; rfl) (by decide) ?_
        refine lv_aload_n hx hb dX9_count_202 rfl (lv_at hl 1 rfl) ?_
        refine va_get (D := D) (ci := 9) (v := .int (σ 11 0)) (C := RX9) (T := TX9) (N := 51) hx hb hts hu9 hown hK hP 0 wm_0 rfl 11 (by decide) (hts (.fieldLink RX9 221 "GrazeBookModel" "eats" "I") (List.mem_cons_of_mem _ mw_794)) (fun _ h9 => h9) rfl dX9_count_203 ?_
        subst hR
        rw [hQ]
        exact W.iret (v := (σ 11 0)) hx hb hr (fun t ht hW => ⟨⟨(σ 11 0), (), rfl, rfl, ⟨by rw [ht]; exact hP, va_K.moved hW.alike hK, by rw [← hAe]; exact hD⟩⟩, hS.F ht⟩) hS.2.2 dX9_count_206
      have hR := (if_neg c_45).symm.trans hR
      by_cases c_46 : a1 = (9 : Int32)
      · have hR := (if_pos c_46).symm.trans hR
        refine lv_tableIn (tgt := 207) hx hb dX9_count_25 (by rw [c_46]; decide) (by rw [c_46]; decide) (by rw [c_46]; rfl) (by decide) ?_
        refine lv_aload_n hx hb dX9_count_207 rfl (lv_at hl 1 rfl) ?_
        refine va_get (D := D) (ci := 9) (v := .int (σ 12 0)) (C := RX9) (T := TX9) (N := 51) hx hb hts hu9 hown hK hP 0 wm_0 rfl 12 (by decide) (hts (.fieldLink RX9 211 "GrazeBookModel" "lapsed" "I") (List.mem_cons_of_mem _ mw_795)) (fun _ h9 => h9) rfl dX9_count_208 ?_
        subst hR
        rw [hQ]
        exact W.iret (v := (σ 12 0)) hx hb hr (fun t ht hW => ⟨⟨(σ 12 0), (), rfl, rfl, ⟨by rw [ht]; exact hP, va_K.moved hW.alike hK, by rw [← hAe]; exact hD⟩⟩, hS.F ht⟩) hS.2.2 dX9_count_211
      have hR := (if_neg c_46).symm.trans hR
      refine lv_tableOut (tgt := 212) hx hb dX9_count_25 (sw_out9 c_25 c_26 c_27 c_28 c_29 c_35 c_40 c_44 c_45 c_46) (by decide) ?_
      refine lv_bipush (v := (-9 : Int32)) hx hb dX9_count_212 (by decide) ?_
      subst hR
      rw [hQ]
      exact W.iret (v := (-9 : Int32)) hx hb hr (fun t ht hW => ⟨⟨(-9 : Int32), (), rfl, rfl, ⟨by rw [ht]; exact hP, va_K.moved hW.alike hK, by rw [← hAe]; exact hD⟩⟩, hS.F ht⟩) hS.2.2 dX9_count_214
    · have hR := (if_neg c_24).symm.trans hR
      refine lv_aload_n hx hb dX9_count_12 rfl (lv_at hl 0 rfl) ?_
      refine va_get (D := D) (ci := 9) (v := .ref (ad 0)) (C := RX9) (T := TX9) (N := 51) hx hb hts hu9 hown hK hP 0 wm_0 rfl 0 (by decide) (hts (.fieldLink RX9 7 "GrazeBookModel" "refusals" "[I") (List.mem_cons_of_mem _ mw_783)) (fun _ h9 => h9) rfl dX9_count_13 ?_
      refine lv_iload_n hx hb dX9_count_16 rfl (lv_at hl 1 rfl) ?_
      refine lv_bipush (v := (10 : Int32)) hx hb dX9_count_17 (by decide) ?_
      refine lv_isub hx hb dX9_count_19 ?_
      refine va_iald_k (k := ((a1 - (10 : Int32)).toNatClampNeg)) (v := (σ 0 ((a1 - (10 : Int32)).toNatClampNeg))) hx hb hK hP 1 0 wm_a0 rfl rfl rfl (ix_ref (lt_of_not_le0 c_1) (lt_of_not_le0 c_24)) dX9_count_20 ?_
      subst hR
      rw [hQ]
      exact W.iret (v := (σ 0 ((a1 - (10 : Int32)).toNatClampNeg))) hx hb hr (fun t ht hW => ⟨⟨(σ 0 ((a1 - (10 : Int32)).toNatClampNeg)), (), rfl, rfl, ⟨by rw [ht]; exact hP, va_K.moved hW.alike hK, by rw [← hAe]; exact hD⟩⟩, hS.F ht⟩) hS.2.2 dX9_count_21

