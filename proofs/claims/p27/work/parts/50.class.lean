def s_X4_restsOn (σ : St) (g : Nat) (a1 : Int32) : Int32 := (if (σ 404 g) < a1 then (0 : Int32) else (1 : Int32))
set_option maxHeartbeats 1000000 in
set_option maxRecDepth 100000 in
theorem k_X4_restsOn (l : Launch) (D : va_G) (ca : Nat → ClassId) (h : Nat) (ad : Nat → Nat) (pa : Nat → Nat → Nat) (tb : Nat) (σ : St) (g : Nat) (a1 : Int32) (sz : Nat) (hI : IX σ) (hg : g < (σ 811 0).toNatClampNeg) (R : Int32) (hR : s_X4_restsOn σ g a1 = R) : Met l yX4_restsOn wsX4_restsOn ({ frames := 0, cells := 0, slots := 0, locals := 0 }) (va_Pc [.ref (pa 0 g), .int a1] (cw_pre D ca (WC ca h ad pa σ) sz tb)) (va_Qi (fun (r : Int32) (_ : Unit) => r = R) (fun (_ : Unit) (t : State) => pw_post D ca (WC ca h ad pa σ) sz (WC ca h ad pa σ) t) (va_A (WC ca h ad pa σ) sz)) 0 0 (va_A (WC ca h ad pa σ) sz) := by
  refine Met.ofW (cc := cX4_restsOn) (maxL := 2) (ret := (some .boolean)) (by decide) rfl ?_
  intro p e s m args below meth c s₁ B hml hv
  obtain ⟨rfl, ⟨hsz, hP, hK, hD0⟩, hZ⟩ := hv
  have hx := B.exec
  have hb := B.bytes
  have hr := B.returns
  have hts := atoms_spec (ws := wsX4_restsOn) B.pre
  have hown : s.vm.findClass RX4 = some m.cls := findClass_of_methodNamed B.named
  have hlocks := B.notSynchronized
  have hu4 : ∀ w ∈ u_ws RX4 TX4 6, w ∈ wsX4_restsOn := fun w h => List.mem_cons_of_mem _ (uw4 w h)
  subst hsz
  have hD := hD0.self (sz := s.heap.size)
  obtain ⟨A, hAe⟩ : ∃ A, A = va_A (WC ca h ad pa σ) s.heap.size := ⟨_, rfl⟩
  rw [← hAe] at hD hZ ⊢
  have hA : ∀ q : Nat, s.heap.size ≤ q → A q := fun q h => by rw [hAe]; exact Or.inr h
  have hS : va_S A s.heap s.heap [] := va_S.rf
  have hl := lv_entry ([.ref (pa 0 g), .int a1]) (n := 2) (Nat.le_of_ble_eq_true rfl)
  rw [lg_entry_eq]
  generalize (lg_sl ([.ref (pa 0 g), .int a1]) ++ List.replicate (2 - (lg_sl ([.ref (pa 0 g), .int a1])).length) Slot.unset).toArray = ls at hl ⊢
  have hl : lv_has ls 2 [(0, .ref (pa 0 g)), (1, .int a1)] := hl
  obtain ⟨H, hH⟩ : ∃ H, H = s.heap := ⟨_, rfl⟩
  have hP : va_P D vwCl (WC ca h ad pa σ) H := by rw [hH]; exact hP
  have hS : va_S A s.heap H [] := by rw [hH]; exact hS
  obtain ⟨QQ, hQ⟩ : ∃ Q9, Q9 = MQ below (va_Qi (fun (r : Int32) (_ : Unit) => r = R) (fun (_ : Unit) (t : State) => pw_post D ca (WC ca h ad pa σ) s.heap.size (WC ca h ad pa σ) t) A) ([.ref (pa 0 g), .int a1] : List Value).toArray s 0 0 A := ⟨_, rfl⟩
  rw [← hQ]
  show W _ _ _ _ _ _ _ _ _ _ s.heap _ _ _ _ _
  rw [← hH]
  have hR : (if (σ 404 g) < a1 then (0 : Int32) else (1 : Int32)) = R := hR
  refine lv_iload_n hx hb dX4_restsOn_0 rfl (lv_at hl 1 rfl) ?_
  refine lv_aload_n hx hb dX4_restsOn_1 rfl (lv_at hl 0 rfl) ?_
  refine va_get (D := D) (ci := 4) (v := .int (σ 404 g)) (C := RX4) (T := TX4) (N := 6) hx hb hts hu4 hown hK hP (pcG ca h ad pa σ g) (wc_aG hg) rfl 4 (by decide) (hts (.fieldLink RX4 7 "GrazeBook$Ground" "rest" "I") (List.mem_cons_of_mem _ mw_291)) (fun _ h9 => h9) rfl dX4_restsOn_2 ?_
  refine lv_icmp_gt (tgt := 12) hx hb dX4_restsOn_5 (by decide) (fun c_1 => ?_) (fun c_1 => ?_)
  · have hR := (if_pos c_1).symm.trans hR
    refine lv_iconst (v := (0 : Int32)) hx hb dX4_restsOn_12 (by decide) ?_
    subst hR
    rw [hQ]
    exact W.zret (v := (0 : Int32)) hx hb hr rfl (fun t ht hW => ⟨⟨(0 : Int32), (), rfl, rfl, ⟨by rw [ht]; exact hP, va_K.moved hW.alike hK, by rw [← hAe]; exact hD⟩⟩, hS.F ht⟩) hS.2.2 dX4_restsOn_13
  · have hR := (if_neg c_1).symm.trans hR
    refine lv_iconst (v := (1 : Int32)) hx hb dX4_restsOn_8 (by decide) ?_
    refine lv_goto (tgt := 13) hx hb dX4_restsOn_9 (by decide) ?_
    subst hR
    rw [hQ]
    exact W.zret (v := (1 : Int32)) hx hb hr rfl (fun t ht hW => ⟨⟨(1 : Int32), (), rfl, rfl, ⟨by rw [ht]; exact hP, va_K.moved hW.alike hK, by rw [← hAe]; exact hD⟩⟩, hS.F ht⟩) hS.2.2 dX4_restsOn_13

def s_X0_isInForce (σ : St) (i : Nat) (a1 : Int32) : Int32 := (if (σ 8 i) = (0 : Int32) then (if a1 < (σ 2 i) then (0 : Int32) else (if (σ 3 i) < a1 then (0 : Int32) else (1 : Int32))) else (0 : Int32))
set_option maxHeartbeats 1000000 in
set_option maxRecDepth 100000 in
theorem k_X0_isInForce (l : Launch) (D : va_G) (ca : Nat → ClassId) (h : Nat) (ad : Nat → Nat) (pa : Nat → Nat → Nat) (tb : Nat) (σ : St) (i : Nat) (a1 : Int32) (sz : Nat) (hI : IX σ) (hi : i < (σ 814 0).toNatClampNeg) (R : Int32) (hR : s_X0_isInForce σ i a1 = R) : Met l yX0_isInForce wsX0_isInForce ({ frames := 0, cells := 0, slots := 0, locals := 0 }) (va_Pc [.ref (pa 2 i), .int a1] (cw_pre D ca (WC ca h ad pa σ) sz tb)) (va_Qi (fun (r : Int32) (_ : Unit) => r = R) (fun (_ : Unit) (t : State) => pw_post D ca (WC ca h ad pa σ) sz (WC ca h ad pa σ) t) (va_A (WC ca h ad pa σ) sz)) 0 0 (va_A (WC ca h ad pa σ) sz) := by
  refine Met.ofW (cc := cX0_isInForce) (maxL := 2) (ret := (some .boolean)) (by decide) rfl ?_
  intro p e s m args below meth c s₁ B hml hv
  obtain ⟨rfl, ⟨hsz, hP, hK, hD0⟩, hZ⟩ := hv
  have hx := B.exec
  have hb := B.bytes
  have hr := B.returns
  have hts := atoms_spec (ws := wsX0_isInForce) B.pre
  have hown : s.vm.findClass RX0 = some m.cls := findClass_of_methodNamed B.named
  have hlocks := B.notSynchronized
  have hu0 : ∀ w ∈ u_ws RX0 TX0 9, w ∈ wsX0_isInForce := fun w h => List.mem_cons_of_mem _ (uw0 w h)
  subst hsz
  have hD := hD0.self (sz := s.heap.size)
  obtain ⟨A, hAe⟩ : ∃ A, A = va_A (WC ca h ad pa σ) s.heap.size := ⟨_, rfl⟩
  rw [← hAe] at hD hZ ⊢
  have hA : ∀ q : Nat, s.heap.size ≤ q → A q := fun q h => by rw [hAe]; exact Or.inr h
  have hS : va_S A s.heap s.heap [] := va_S.rf
  have hl := lv_entry ([.ref (pa 2 i), .int a1]) (n := 2) (Nat.le_of_ble_eq_true rfl)
  rw [lg_entry_eq]
  generalize (lg_sl ([.ref (pa 2 i), .int a1]) ++ List.replicate (2 - (lg_sl ([.ref (pa 2 i), .int a1])).length) Slot.unset).toArray = ls at hl ⊢
  have hl : lv_has ls 2 [(0, .ref (pa 2 i)), (1, .int a1)] := hl
  obtain ⟨H, hH⟩ : ∃ H, H = s.heap := ⟨_, rfl⟩
  have hP : va_P D vwCl (WC ca h ad pa σ) H := by rw [hH]; exact hP
  have hS : va_S A s.heap H [] := by rw [hH]; exact hS
  obtain ⟨QQ, hQ⟩ : ∃ Q9, Q9 = MQ below (va_Qi (fun (r : Int32) (_ : Unit) => r = R) (fun (_ : Unit) (t : State) => pw_post D ca (WC ca h ad pa σ) s.heap.size (WC ca h ad pa σ) t) A) ([.ref (pa 2 i), .int a1] : List Value).toArray s 0 0 A := ⟨_, rfl⟩
  rw [← hQ]
  show W _ _ _ _ _ _ _ _ _ _ s.heap _ _ _ _ _
  rw [← hH]
  have hR : (if (σ 8 i) = (0 : Int32) then (if a1 < (σ 2 i) then (0 : Int32) else (if (σ 3 i) < a1 then (0 : Int32) else (1 : Int32))) else (0 : Int32)) = R := hR
  refine lv_aload_n hx hb dX0_isInForce_0 rfl (lv_at hl 0 rfl) ?_
  refine va_get (D := D) (ci := 0) (v := .int (σ 8 i)) (C := RX0) (T := TX0) (N := 9) hx hb hts hu0 hown hK hP (pcC ca h ad pa σ i) (wc_aC hi) rfl 8 (by decide) (hts (.fieldLink RX0 15 "GrazeBook$Claim" "gone" "Z") (List.mem_cons_of_mem _ mw_374)) (fun _ h9 => h9) rfl dX0_isInForce_1 ?_
  refine lv_if_ne (tgt := 27) hx hb dX0_isInForce_4 (by decide) (fun c_1 => ?_) (fun c_1 => ?_)
  · have hR := (if_neg c_1).symm.trans hR
    refine lv_iconst (v := (0 : Int32)) hx hb dX0_isInForce_27 (by decide) ?_
    subst hR
    rw [hQ]
    exact W.zret (v := (0 : Int32)) hx hb hr rfl (fun t ht hW => ⟨⟨(0 : Int32), (), rfl, rfl, ⟨by rw [ht]; exact hP, va_K.moved hW.alike hK, by rw [← hAe]; exact hD⟩⟩, hS.F ht⟩) hS.2.2 dX0_isInForce_28
  · have hR := (if_pos c_1).symm.trans hR
    refine lv_iload_n hx hb dX0_isInForce_7 rfl (lv_at hl 1 rfl) ?_
    refine lv_aload_n hx hb dX0_isInForce_8 rfl (lv_at hl 0 rfl) ?_
    refine va_get (D := D) (ci := 0) (v := .int (σ 2 i)) (C := RX0) (T := TX0) (N := 9) hx hb hts hu0 hown hK hP (pcC ca h ad pa σ i) (wc_aC hi) rfl 2 (by decide) (hts (.fieldLink RX0 28 "GrazeBook$Claim" "first" "I") (List.mem_cons_of_mem _ mw_362)) (fun _ h9 => h9) rfl dX0_isInForce_9 ?_
    refine lv_icmp_lt (tgt := 27) hx hb dX0_isInForce_12 (by decide) (fun c_2 => ?_) (fun c_2 => ?_)
    · have hR := (if_pos c_2).symm.trans hR
      refine lv_iconst (v := (0 : Int32)) hx hb dX0_isInForce_27 (by decide) ?_
      subst hR
      rw [hQ]
      exact W.zret (v := (0 : Int32)) hx hb hr rfl (fun t ht hW => ⟨⟨(0 : Int32), (), rfl, rfl, ⟨by rw [ht]; exact hP, va_K.moved hW.alike hK, by rw [← hAe]; exact hD⟩⟩, hS.F ht⟩) hS.2.2 dX0_isInForce_28
    · have hR := (if_neg c_2).symm.trans hR
      refine lv_iload_n hx hb dX0_isInForce_15 rfl (lv_at hl 1 rfl) ?_
      refine lv_aload_n hx hb dX0_isInForce_16 rfl (lv_at hl 0 rfl) ?_
      refine va_get (D := D) (ci := 0) (v := .int (σ 3 i)) (C := RX0) (T := TX0) (N := 9) hx hb hts hu0 hown hK hP (pcC ca h ad pa σ i) (wc_aC hi) rfl 3 (by decide) (hts (.fieldLink RX0 31 "GrazeBook$Claim" "last" "I") (List.mem_cons_of_mem _ mw_364)) (fun _ h9 => h9) rfl dX0_isInForce_17 ?_
      refine lv_icmp_gt (tgt := 27) hx hb dX0_isInForce_20 (by decide) (fun c_3 => ?_) (fun c_3 => ?_)
      · have hR := (if_pos c_3).symm.trans hR
        refine lv_iconst (v := (0 : Int32)) hx hb dX0_isInForce_27 (by decide) ?_
        subst hR
        rw [hQ]
        exact W.zret (v := (0 : Int32)) hx hb hr rfl (fun t ht hW => ⟨⟨(0 : Int32), (), rfl, rfl, ⟨by rw [ht]; exact hP, va_K.moved hW.alike hK, by rw [← hAe]; exact hD⟩⟩, hS.F ht⟩) hS.2.2 dX0_isInForce_28
      · have hR := (if_neg c_3).symm.trans hR
        refine lv_iconst (v := (1 : Int32)) hx hb dX0_isInForce_23 (by decide) ?_
        refine lv_goto (tgt := 28) hx hb dX0_isInForce_24 (by decide) ?_
        subst hR
        rw [hQ]
        exact W.zret (v := (1 : Int32)) hx hb hr rfl (fun t ht hW => ⟨⟨(1 : Int32), (), rfl, rfl, ⟨by rw [ht]; exact hP, va_K.moved hW.alike hK, by rw [← hAe]; exact hD⟩⟩, hS.F ht⟩) hS.2.2 dX0_isInForce_28

def s_X0_fits (σ : St) (i : Nat) (j : Nat) : Int32 := (if (σ 203 j) = (-1 : Int32) then (0 : Int32) else (if (σ 0 i) = (2 : Int32) then (if (σ 201 j) = (2 : Int32) then (1 : Int32) else (0 : Int32)) else (if (σ 0 i) = (3 : Int32) then (if (σ 203 j) = (σ 4 i) then (1 : Int32) else (0 : Int32)) else (1 : Int32))))
set_option maxHeartbeats 1000000 in
set_option maxRecDepth 100000 in
theorem k_X0_fits (l : Launch) (D : va_G) (ca : Nat → ClassId) (h : Nat) (ad : Nat → Nat) (pa : Nat → Nat → Nat) (tb : Nat) (σ : St) (i : Nat) (j : Nat) (sz : Nat) (hI : IX σ) (hi : i < (σ 814 0).toNatClampNeg) (hj : j < (σ 815 0).toNatClampNeg) (R : Int32) (hR : s_X0_fits σ i j = R) : Met l yX0_fits wsX0_fits ({ frames := 0, cells := 0, slots := 0, locals := 0 }) (va_Pc [.ref (pa 2 i), .ref (pa 3 j)] (cw_pre D ca (WC ca h ad pa σ) sz tb)) (va_Qi (fun (r : Int32) (_ : Unit) => r = R) (fun (_ : Unit) (t : State) => pw_post D ca (WC ca h ad pa σ) sz (WC ca h ad pa σ) t) (va_A (WC ca h ad pa σ) sz)) 0 0 (va_A (WC ca h ad pa σ) sz) := by
  refine Met.ofW (cc := cX0_fits) (maxL := 2) (ret := (some .boolean)) (by decide) rfl ?_
  intro p e s m args below meth c s₁ B hml hv
  obtain ⟨rfl, ⟨hsz, hP, hK, hD0⟩, hZ⟩ := hv
  have hx := B.exec
  have hb := B.bytes
  have hr := B.returns
  have hts := atoms_spec (ws := wsX0_fits) B.pre
  have hown : s.vm.findClass RX0 = some m.cls := findClass_of_methodNamed B.named
  have hlocks := B.notSynchronized
  have hu0 : ∀ w ∈ u_ws RX0 TX0 9, w ∈ wsX0_fits := fun w h => List.mem_cons_of_mem _ (uw0 w h)
  have hu2 : ∀ w ∈ u_ws RX2 TX2 8, w ∈ wsX0_fits := fun w h => List.mem_cons_of_mem _ (uw2 w h)
  subst hsz
  have hD := hD0.self (sz := s.heap.size)
  obtain ⟨A, hAe⟩ : ∃ A, A = va_A (WC ca h ad pa σ) s.heap.size := ⟨_, rfl⟩
  rw [← hAe] at hD hZ ⊢
  have hA : ∀ q : Nat, s.heap.size ≤ q → A q := fun q h => by rw [hAe]; exact Or.inr h
  have hS : va_S A s.heap s.heap [] := va_S.rf
  have hl := lv_entry ([.ref (pa 2 i), .ref (pa 3 j)]) (n := 2) (Nat.le_of_ble_eq_true rfl)
  rw [lg_entry_eq]
  generalize (lg_sl ([.ref (pa 2 i), .ref (pa 3 j)]) ++ List.replicate (2 - (lg_sl ([.ref (pa 2 i), .ref (pa 3 j)])).length) Slot.unset).toArray = ls at hl ⊢
  have hl : lv_has ls 2 [(0, .ref (pa 2 i)), (1, .ref (pa 3 j))] := hl
  obtain ⟨H, hH⟩ : ∃ H, H = s.heap := ⟨_, rfl⟩
  have hP : va_P D vwCl (WC ca h ad pa σ) H := by rw [hH]; exact hP
  have hS : va_S A s.heap H [] := by rw [hH]; exact hS
  obtain ⟨QQ, hQ⟩ : ∃ Q9, Q9 = MQ below (va_Qi (fun (r : Int32) (_ : Unit) => r = R) (fun (_ : Unit) (t : State) => pw_post D ca (WC ca h ad pa σ) s.heap.size (WC ca h ad pa σ) t) A) ([.ref (pa 2 i), .ref (pa 3 j)] : List Value).toArray s 0 0 A := ⟨_, rfl⟩
  rw [← hQ]
  show W _ _ _ _ _ _ _ _ _ _ s.heap _ _ _ _ _
  rw [← hH]
  have hR : (if (σ 203 j) = (-1 : Int32) then (0 : Int32) else (if (σ 0 i) = (2 : Int32) then (if (σ 201 j) = (2 : Int32) then (1 : Int32) else (0 : Int32)) else (if (σ 0 i) = (3 : Int32) then (if (σ 203 j) = (σ 4 i) then (1 : Int32) else (0 : Int32)) else (1 : Int32)))) = R := hR
  refine lv_aload_n hx hb dX0_fits_0 rfl (lv_at hl 1 rfl) ?_
  refine va_get (D := D) (ci := 2) (v := .int (σ 203 j)) (C := RX2) (T := TX2) (N := 8) hx hb hts hu2 hown hK hP (pcD ca h ad pa σ j) (wc_aD hj) rfl 3 (by decide) (hts (.fieldLink RX0 40 "GrazeBook$Drove" "piece" "I") (List.mem_cons_of_mem _ mw_450)) (fun _ h9 => h9) rfl dX0_fits_1 ?_
  refine lv_iconst (v := (-1 : Int32)) hx hb dX0_fits_4 (by decide) ?_
  refine lv_icmp_ne (tgt := 10) hx hb dX0_fits_5 (by decide) (fun c_1 => ?_) (fun c_1 => ?_)
  · have hR := (if_neg c_1).symm.trans hR
    refine lv_aload_n hx hb dX0_fits_10 rfl (lv_at hl 0 rfl) ?_
    refine va_get (D := D) (ci := 0) (v := .int (σ 0 i)) (C := RX0) (T := TX0) (N := 9) hx hb hts hu0 hown hK hP (pcC ca h ad pa σ i) (wc_aC hi) rfl 0 (by decide) (hts (.fieldLink RX0 19 "GrazeBook$Claim" "kind" "I") (List.mem_cons_of_mem _ mw_357)) (fun _ h9 => h9) rfl dX0_fits_11 ?_
    refine lv_iconst (v := (2 : Int32)) hx hb dX0_fits_14 (by decide) ?_
    refine lv_icmp_ne (tgt := 32) hx hb dX0_fits_15 (by decide) (fun c_2 => ?_) (fun c_2 => ?_)
    · have hR := (if_neg c_2).symm.trans hR
      refine lv_aload_n hx hb dX0_fits_32 rfl (lv_at hl 0 rfl) ?_
      refine va_get (D := D) (ci := 0) (v := .int (σ 0 i)) (C := RX0) (T := TX0) (N := 9) hx hb hts hu0 hown hK hP (pcC ca h ad pa σ i) (wc_aC hi) rfl 0 (by decide) (hts (.fieldLink RX0 19 "GrazeBook$Claim" "kind" "I") (List.mem_cons_of_mem _ mw_357)) (fun _ h9 => h9) rfl dX0_fits_33 ?_
      refine lv_iconst (v := (3 : Int32)) hx hb dX0_fits_36 (by decide) ?_
      refine lv_icmp_ne (tgt := 51) hx hb dX0_fits_37 (by decide) (fun c_3 => ?_) (fun c_3 => ?_)
      · have hR := (if_neg c_3).symm.trans hR
        refine lv_iconst (v := (1 : Int32)) hx hb dX0_fits_51 (by decide) ?_
        refine lv_goto (tgt := 56) hx hb dX0_fits_52 (by decide) ?_
        subst hR
        rw [hQ]
        exact W.zret (v := (1 : Int32)) hx hb hr rfl (fun t ht hW => ⟨⟨(1 : Int32), (), rfl, rfl, ⟨by rw [ht]; exact hP, va_K.moved hW.alike hK, by rw [← hAe]; exact hD⟩⟩, hS.F ht⟩) hS.2.2 dX0_fits_56
      · have hR := (if_pos c_3).symm.trans hR
        refine lv_aload_n hx hb dX0_fits_40 rfl (lv_at hl 1 rfl) ?_
        refine va_get (D := D) (ci := 2) (v := .int (σ 203 j)) (C := RX2) (T := TX2) (N := 8) hx hb hts hu2 hown hK hP (pcD ca h ad pa σ j) (wc_aD hj) rfl 3 (by decide) (hts (.fieldLink RX0 40 "GrazeBook$Drove" "piece" "I") (List.mem_cons_of_mem _ mw_450)) (fun _ h9 => h9) rfl dX0_fits_41 ?_
        refine lv_aload_n hx hb dX0_fits_44 rfl (lv_at hl 0 rfl) ?_
        refine va_get (D := D) (ci := 0) (v := .int (σ 4 i)) (C := RX0) (T := TX0) (N := 9) hx hb hts hu0 hown hK hP (pcC ca h ad pa σ i) (wc_aC hi) rfl 4 (by decide) (hts (.fieldLink RX0 34 "GrazeBook$Claim" "piece" "I") (List.mem_cons_of_mem _ mw_366)) (fun _ h9 => h9) rfl dX0_fits_45 ?_
        refine lv_icmp_ne (tgt := 55) hx hb dX0_fits_48 (by decide) (fun c_4 => ?_) (fun c_4 => ?_)
        · have hR := (if_neg c_4).symm.trans hR
          refine lv_iconst (v := (0 : Int32)) hx hb dX0_fits_55 (by decide) ?_
          subst hR
          rw [hQ]
          exact W.zret (v := (0 : Int32)) hx hb hr rfl (fun t ht hW => ⟨⟨(0 : Int32), (), rfl, rfl, ⟨by rw [ht]; exact hP, va_K.moved hW.alike hK, by rw [← hAe]; exact hD⟩⟩, hS.F ht⟩) hS.2.2 dX0_fits_56
        · have hR := (if_pos c_4).symm.trans hR
          refine lv_iconst (v := (1 : Int32)) hx hb dX0_fits_51 (by decide) ?_
          refine lv_goto (tgt := 56) hx hb dX0_fits_52 (by decide) ?_
          subst hR
          rw [hQ]
          exact W.zret (v := (1 : Int32)) hx hb hr rfl (fun t ht hW => ⟨⟨(1 : Int32), (), rfl, rfl, ⟨by rw [ht]; exact hP, va_K.moved hW.alike hK, by rw [← hAe]; exact hD⟩⟩, hS.F ht⟩) hS.2.2 dX0_fits_56
    · have hR := (if_pos c_2).symm.trans hR
      refine lv_aload_n hx hb dX0_fits_18 rfl (lv_at hl 1 rfl) ?_
      refine va_get (D := D) (ci := 2) (v := .int (σ 201 j)) (C := RX2) (T := TX2) (N := 8) hx hb hts hu2 hown hK hP (pcD ca h ad pa σ j) (wc_aD hj) rfl 1 (by decide) (hts (.fieldLink RX0 43 "GrazeBook$Drove" "sort" "I") (List.mem_cons_of_mem _ mw_444)) (fun _ h9 => h9) rfl dX0_fits_19 ?_
      refine lv_iconst (v := (2 : Int32)) hx hb dX0_fits_22 (by decide) ?_
      refine lv_icmp_ne (tgt := 30) hx hb dX0_fits_23 (by decide) (fun c_5 => ?_) (fun c_5 => ?_)
      · have hR := (if_neg c_5).symm.trans hR
        refine lv_iconst (v := (0 : Int32)) hx hb dX0_fits_30 (by decide) ?_
        subst hR
        rw [hQ]
        exact W.zret (v := (0 : Int32)) hx hb hr rfl (fun t ht hW => ⟨⟨(0 : Int32), (), rfl, rfl, ⟨by rw [ht]; exact hP, va_K.moved hW.alike hK, by rw [← hAe]; exact hD⟩⟩, hS.F ht⟩) hS.2.2 dX0_fits_31
      · have hR := (if_pos c_5).symm.trans hR
        refine lv_iconst (v := (1 : Int32)) hx hb dX0_fits_26 (by decide) ?_
        refine lv_goto (tgt := 31) hx hb dX0_fits_27 (by decide) ?_
        subst hR
        rw [hQ]
        exact W.zret (v := (1 : Int32)) hx hb hr rfl (fun t ht hW => ⟨⟨(1 : Int32), (), rfl, rfl, ⟨by rw [ht]; exact hP, va_K.moved hW.alike hK, by rw [← hAe]; exact hD⟩⟩, hS.F ht⟩) hS.2.2 dX0_fits_31
  · have hR := (if_pos c_1).symm.trans hR
    refine lv_iconst (v := (0 : Int32)) hx hb dX0_fits_8 (by decide) ?_
    subst hR
    rw [hQ]
    exact W.zret (v := (0 : Int32)) hx hb hr rfl (fun t ht hW => ⟨⟨(0 : Int32), (), rfl, rfl, ⟨by rw [ht]; exact hP, va_K.moved hW.alike hK, by rw [← hAe]; exact hD⟩⟩, hS.F ht⟩) hS.2.2 dX0_fits_9

def s_X2_parts (σ : St) (j : Nat) : Int32 := (if (σ 201 j) < (0 : Int32) then (0 : Int32) else (if (3 : Int32) ≤ (σ 201 j) then (0 : Int32) else ((σ 202 j) * (pb ((σ 201 j).toNatClampNeg)))))
set_option maxHeartbeats 1000000 in
set_option maxRecDepth 100000 in
theorem k_X2_parts (l : Launch) (D : va_G) (ca : Nat → ClassId) (h : Nat) (ad : Nat → Nat) (pa : Nat → Nat → Nat) (tb : Nat) (σ : St) (j : Nat) (sz : Nat) (hI : IX σ) (hj : j < (σ 815 0).toNatClampNeg) (R : Int32) (hR : s_X2_parts σ j = R) : Met l yX2_parts wsX2_parts ({ frames := 0, cells := 0, slots := 0, locals := 0 }) (va_Pc [.ref (pa 3 j)] (cw_pre D ca (WC ca h ad pa σ) sz tb)) (va_Qi (fun (r : Int32) (_ : Unit) => r = R) (fun (_ : Unit) (t : State) => pw_post D ca (WC ca h ad pa σ) sz (WC ca h ad pa σ) t) (va_A (WC ca h ad pa σ) sz)) 0 0 (va_A (WC ca h ad pa σ) sz) := by
  refine Met.ofW (cc := cX2_parts) (maxL := 1) (ret := (some .int)) (by decide) rfl ?_
  intro p e s m args below meth c s₁ B hml hv
  obtain ⟨rfl, ⟨hsz, hP, hK, hD0⟩, hZ⟩ := hv
  have hx := B.exec
  have hb := B.bytes
  have hr := B.returns
  have hts := atoms_spec (ws := wsX2_parts) B.pre
  have hown : s.vm.findClass RX2 = some m.cls := findClass_of_methodNamed B.named
  have hlocks := B.notSynchronized
  have hu2 : ∀ w ∈ u_ws RX2 TX2 8, w ∈ wsX2_parts := fun w h => List.mem_cons_of_mem _ (uw2 w h)
  subst hsz
  have hD := hD0.self (sz := s.heap.size)
  obtain ⟨A, hAe⟩ : ∃ A, A = va_A (WC ca h ad pa σ) s.heap.size := ⟨_, rfl⟩
  rw [← hAe] at hD hZ ⊢
  have hA : ∀ q : Nat, s.heap.size ≤ q → A q := fun q h => by rw [hAe]; exact Or.inr h
  have hS : va_S A s.heap s.heap [] := va_S.rf
  have hl := lv_entry ([.ref (pa 3 j)]) (n := 1) (Nat.le_of_ble_eq_true rfl)
  rw [lg_entry_eq]
  generalize (lg_sl ([.ref (pa 3 j)]) ++ List.replicate (1 - (lg_sl ([.ref (pa 3 j)])).length) Slot.unset).toArray = ls at hl ⊢
  have hl : lv_has ls 1 [(0, .ref (pa 3 j))] := hl
  obtain ⟨H, hH⟩ : ∃ H, H = s.heap := ⟨_, rfl⟩
  have hP : va_P D vwCl (WC ca h ad pa σ) H := by rw [hH]; exact hP
  have hS : va_S A s.heap H [] := by rw [hH]; exact hS
  obtain ⟨QQ, hQ⟩ : ∃ Q9, Q9 = MQ below (va_Qi (fun (r : Int32) (_ : Unit) => r = R) (fun (_ : Unit) (t : State) => pw_post D ca (WC ca h ad pa σ) s.heap.size (WC ca h ad pa σ) t) A) ([.ref (pa 3 j)] : List Value).toArray s 0 0 A := ⟨_, rfl⟩
  rw [← hQ]
  show W _ _ _ _ _ _ _ _ _ _ s.heap _ _ _ _ _
  rw [← hH]
  have hR : (if (σ 201 j) < (0 : Int32) then (0 : Int32) else (if (3 : Int32) ≤ (σ 201 j) then (0 : Int32) else ((σ 202 j) * (pb ((σ 201 j).toNatClampNeg))))) = R := hR
  refine lv_aload_n hx hb dX2_parts_0 rfl (lv_at hl 0 rfl) ?_
  refine va_get (D := D) (ci := 2) (v := .int (σ 201 j)) (C := RX2) (T := TX2) (N := 8) hx hb hts hu2 hown hK hP (pcD ca h ad pa σ j) (wc_aD hj) rfl 1 (by decide) (hts (.fieldLink RX2 30 "GrazeBook$Drove" "sort" "I") (List.mem_cons_of_mem _ mw_442)) (fun _ h9 => h9) rfl dX2_parts_1 ?_
  refine lv_if_lt (tgt := 31) hx hb dX2_parts_4 (by decide) (fun c_1 => ?_) (fun c_1 => ?_)
  · have hR := (if_pos c_1).symm.trans hR
    refine lv_iconst (v := (0 : Int32)) hx hb dX2_parts_31 (by decide) ?_
    subst hR
    rw [hQ]
    exact W.iret (v := (0 : Int32)) hx hb hr (fun t ht hW => ⟨⟨(0 : Int32), (), rfl, rfl, ⟨by rw [ht]; exact hP, va_K.moved hW.alike hK, by rw [← hAe]; exact hD⟩⟩, hS.F ht⟩) hS.2.2 dX2_parts_32
  · have hR := (if_neg c_1).symm.trans hR
    refine lv_aload_n hx hb dX2_parts_7 rfl (lv_at hl 0 rfl) ?_
    refine va_get (D := D) (ci := 2) (v := .int (σ 201 j)) (C := RX2) (T := TX2) (N := 8) hx hb hts hu2 hown hK hP (pcD ca h ad pa σ j) (wc_aD hj) rfl 1 (by decide) (hts (.fieldLink RX2 30 "GrazeBook$Drove" "sort" "I") (List.mem_cons_of_mem _ mw_442)) (fun _ h9 => h9) rfl dX2_parts_8 ?_
    refine lv_iconst (v := (3 : Int32)) hx hb dX2_parts_11 (by decide) ?_
    refine lv_icmp_ge (tgt := 31) hx hb dX2_parts_12 (by decide) (fun c_2 => ?_) (fun c_2 => ?_)
    · have hR := (if_pos c_2).symm.trans hR
      refine lv_iconst (v := (0 : Int32)) hx hb dX2_parts_31 (by decide) ?_
      subst hR
      rw [hQ]
      exact W.iret (v := (0 : Int32)) hx hb hr (fun t ht hW => ⟨⟨(0 : Int32), (), rfl, rfl, ⟨by rw [ht]; exact hP, va_K.moved hW.alike hK, by rw [← hAe]; exact hD⟩⟩, hS.F ht⟩) hS.2.2 dX2_parts_32
    · have hR := (if_neg c_2).symm.trans hR
      refine lv_aload_n hx hb dX2_parts_15 rfl (lv_at hl 0 rfl) ?_
      refine va_get (D := D) (ci := 2) (v := .int (σ 202 j)) (C := RX2) (T := TX2) (N := 8) hx hb hts hu2 hown hK hP (pcD ca h ad pa σ j) (wc_aD hj) rfl 2 (by decide) (hts (.fieldLink RX2 33 "GrazeBook$Drove" "beasts" "I") (List.mem_cons_of_mem _ mw_446)) (fun _ h9 => h9) rfl dX2_parts_16 ?_
      refine va_getsN hx hb hZ.2.1 hS hown (va_Nw.use rfl hZ.1) (fun _ h9 => h9) dX2_parts_19 ?_
      refine lv_aload_n hx hb dX2_parts_22 rfl (lv_at hl 0 rfl) ?_
      refine va_get (D := D) (ci := 2) (v := .int (σ 201 j)) (C := RX2) (T := TX2) (N := 8) hx hb hts hu2 hown hK hP (pcD ca h ad pa σ j) (wc_aD hj) rfl 1 (by decide) (hts (.fieldLink RX2 30 "GrazeBook$Drove" "sort" "I") (List.mem_cons_of_mem _ mw_442)) (fun _ h9 => h9) rfl dX2_parts_23 ?_
      refine va_ti (v := .int (pb ((σ 201 j).toNatClampNeg))) hx hb hZ.2.2 hS (ix_rng (not_lt0 c_1) (lt_of_not_le0 c_2) (by decide)) (by rw [show (σ 201 j).toNatClampNeg = ((σ 201 j).toNatClampNeg) from rfl]) dX2_parts_26 ?_
      refine lv_imul hx hb dX2_parts_27 ?_
      refine lv_goto (tgt := 32) hx hb dX2_parts_28 (by decide) ?_
      subst hR
      rw [hQ]
      exact W.iret (v := ((σ 202 j) * (pb ((σ 201 j).toNatClampNeg)))) hx hb hr (fun t ht hW => ⟨⟨((σ 202 j) * (pb ((σ 201 j).toNatClampNeg))), (), rfl, rfl, ⟨by rw [ht]; exact hP, va_K.moved hW.alike hK, by rw [← hAe]; exact hD⟩⟩, hS.F ht⟩) hS.2.2 dX2_parts_32

def s_X2_daysInPound (σ : St) (j : Nat) (a1 : Int32) : Int32 := (if (σ 206 j) = (1 : Int32) then ((a1 - (σ 207 j)) + (1 : Int32)) else (0 : Int32))
set_option maxHeartbeats 1000000 in
set_option maxRecDepth 100000 in
theorem k_X2_daysInPound (l : Launch) (D : va_G) (ca : Nat → ClassId) (h : Nat) (ad : Nat → Nat) (pa : Nat → Nat → Nat) (tb : Nat) (σ : St) (j : Nat) (a1 : Int32) (sz : Nat) (hI : IX σ) (hj : j < (σ 815 0).toNatClampNeg) (R : Int32) (hR : s_X2_daysInPound σ j a1 = R) : Met l yX2_daysInPound wsX2_daysInPound ({ frames := 0, cells := 0, slots := 0, locals := 0 }) (va_Pc [.ref (pa 3 j), .int a1] (cw_pre D ca (WC ca h ad pa σ) sz tb)) (va_Qi (fun (r : Int32) (_ : Unit) => r = R) (fun (_ : Unit) (t : State) => pw_post D ca (WC ca h ad pa σ) sz (WC ca h ad pa σ) t) (va_A (WC ca h ad pa σ) sz)) 0 0 (va_A (WC ca h ad pa σ) sz) := by
  refine Met.ofW (cc := cX2_daysInPound) (maxL := 2) (ret := (some .int)) (by decide) rfl ?_
  intro p e s m args below meth c s₁ B hml hv
  obtain ⟨rfl, ⟨hsz, hP, hK, hD0⟩, hZ⟩ := hv
  have hx := B.exec
  have hb := B.bytes
  have hr := B.returns
  have hts := atoms_spec (ws := wsX2_daysInPound) B.pre
  have hown : s.vm.findClass RX2 = some m.cls := findClass_of_methodNamed B.named
  have hlocks := B.notSynchronized
  have hu2 : ∀ w ∈ u_ws RX2 TX2 8, w ∈ wsX2_daysInPound := fun w h => List.mem_cons_of_mem _ (uw2 w h)
  subst hsz
  have hD := hD0.self (sz := s.heap.size)
  obtain ⟨A, hAe⟩ : ∃ A, A = va_A (WC ca h ad pa σ) s.heap.size := ⟨_, rfl⟩
  rw [← hAe] at hD hZ ⊢
  have hA : ∀ q : Nat, s.heap.size ≤ q → A q := fun q h => by rw [hAe]; exact Or.inr h
  have hS : va_S A s.heap s.heap [] := va_S.rf
  have hl := lv_entry ([.ref (pa 3 j), .int a1]) (n := 2) (Nat.le_of_ble_eq_true rfl)
  rw [lg_entry_eq]
  generalize (lg_sl ([.ref (pa 3 j), .int a1]) ++ List.replicate (2 - (lg_sl ([.ref (pa 3 j), .int a1])).length) Slot.unset).toArray = ls at hl ⊢
  have hl : lv_has ls 2 [(0, .ref (pa 3 j)), (1, .int a1)] := hl
  obtain ⟨H, hH⟩ : ∃ H, H = s.heap := ⟨_, rfl⟩
  have hP : va_P D vwCl (WC ca h ad pa σ) H := by rw [hH]; exact hP
  have hS : va_S A s.heap H [] := by rw [hH]; exact hS
  obtain ⟨QQ, hQ⟩ : ∃ Q9, Q9 = MQ below (va_Qi (fun (r : Int32) (_ : Unit) => r = R) (fun (_ : Unit) (t : State) => pw_post D ca (WC ca h ad pa σ) s.heap.size (WC ca h ad pa σ) t) A) ([.ref (pa 3 j), .int a1] : List Value).toArray s 0 0 A := ⟨_, rfl⟩
  rw [← hQ]
  show W _ _ _ _ _ _ _ _ _ _ s.heap _ _ _ _ _
  rw [← hH]
  have hR : (if (σ 206 j) = (1 : Int32) then ((a1 - (σ 207 j)) + (1 : Int32)) else (0 : Int32)) = R := hR
  refine lv_aload_n hx hb dX2_daysInPound_0 rfl (lv_at hl 0 rfl) ?_
  refine va_get (D := D) (ci := 2) (v := .int (σ 206 j)) (C := RX2) (T := TX2) (N := 8) hx hb hts hu2 hown hK hP (pcD ca h ad pa σ j) (wc_aD hj) rfl 6 (by decide) (hts (.fieldLink RX2 21 "GrazeBook$Drove" "state" "I") (List.mem_cons_of_mem _ mw_456)) (fun _ h9 => h9) rfl dX2_daysInPound_1 ?_
  refine lv_iconst (v := (1 : Int32)) hx hb dX2_daysInPound_4 (by decide) ?_
  refine lv_icmp_ne (tgt := 19) hx hb dX2_daysInPound_5 (by decide) (fun c_1 => ?_) (fun c_1 => ?_)
  · have hR := (if_neg c_1).symm.trans hR
    refine lv_iconst (v := (0 : Int32)) hx hb dX2_daysInPound_19 (by decide) ?_
    subst hR
    rw [hQ]
    exact W.iret (v := (0 : Int32)) hx hb hr (fun t ht hW => ⟨⟨(0 : Int32), (), rfl, rfl, ⟨by rw [ht]; exact hP, va_K.moved hW.alike hK, by rw [← hAe]; exact hD⟩⟩, hS.F ht⟩) hS.2.2 dX2_daysInPound_20
  · have hR := (if_pos c_1).symm.trans hR
    refine lv_iload_n hx hb dX2_daysInPound_8 rfl (lv_at hl 1 rfl) ?_
    refine lv_aload_n hx hb dX2_daysInPound_9 rfl (lv_at hl 0 rfl) ?_
    refine va_get (D := D) (ci := 2) (v := .int (σ 207 j)) (C := RX2) (T := TX2) (N := 8) hx hb hts hu2 hown hK hP (pcD ca h ad pa σ j) (wc_aD hj) rfl 7 (by decide) (hts (.fieldLink RX2 24 "GrazeBook$Drove" "poundedOn" "I") (List.mem_cons_of_mem _ mw_458)) (fun _ h9 => h9) rfl dX2_daysInPound_10 ?_
    refine lv_isub hx hb dX2_daysInPound_13 ?_
    refine lv_iconst (v := (1 : Int32)) hx hb dX2_daysInPound_14 (by decide) ?_
    refine lv_iadd hx hb dX2_daysInPound_15 ?_
    refine lv_goto (tgt := 20) hx hb dX2_daysInPound_16 (by decide) ?_
    subst hR
    rw [hQ]
    exact W.iret (v := ((a1 - (σ 207 j)) + (1 : Int32))) hx hb hr (fun t ht hW => ⟨⟨((a1 - (σ 207 j)) + (1 : Int32)), (), rfl, rfl, ⟨by rw [ht]; exact hP, va_K.moved hW.alike hK, by rw [← hAe]; exact hD⟩⟩, hS.F ht⟩) hS.2.2 dX2_daysInPound_20

def s_X2_fee (σ : St) (j : Nat) (a1 : Int32) : Int32 := ((s_X2_daysInPound σ j a1) * (σ 202 j))
set_option maxHeartbeats 1000000 in
set_option maxRecDepth 100000 in
theorem k_X2_fee (l : Launch) (D : va_G) (ca : Nat → ClassId) (h : Nat) (ad : Nat → Nat) (pa : Nat → Nat → Nat) (tb : Nat) (σ : St) (j : Nat) (a1 : Int32) (sz : Nat) (hI : IX σ) (hj : j < (σ 815 0).toNatClampNeg) (R : Int32) (hR : s_X2_fee σ j a1 = R) : Met l yX2_fee wsX2_fee ({ frames := 1, cells := 0, slots := 0, locals := 21 }) (va_Pc [.ref (pa 3 j), .int a1] (cw_pre D ca (WC ca h ad pa σ) sz tb)) (va_Qi (fun (r : Int32) (_ : Unit) => r = R) (fun (_ : Unit) (t : State) => pw_post D ca (WC ca h ad pa σ) sz (WC ca h ad pa σ) t) (va_A (WC ca h ad pa σ) sz)) 0 0 (va_A (WC ca h ad pa σ) sz) := by
  refine Met.ofW (cc := cX2_fee) (maxL := 2) (ret := (some .int)) (by decide) rfl ?_
  intro p e s m args below meth c s₁ B hml hv
  obtain ⟨rfl, ⟨hsz, hP, hK, hD0⟩, hZ⟩ := hv
  have hx := B.exec
  have hb := B.bytes
  have hr := B.returns
  have hts := atoms_spec (ws := wsX2_fee) B.pre
  have hown : s.vm.findClass RX2 = some m.cls := findClass_of_methodNamed B.named
  have hlocks := B.notSynchronized
  have hu2 : ∀ w ∈ u_ws RX2 TX2 8, w ∈ wsX2_fee := fun w h => List.mem_cons_of_mem _ (uw2 w h)
  subst hsz
  have hD := hD0.self (sz := s.heap.size)
  obtain ⟨A, hAe⟩ : ∃ A, A = va_A (WC ca h ad pa σ) s.heap.size := ⟨_, rfl⟩
  rw [← hAe] at hD hZ ⊢
  have hA : ∀ q : Nat, s.heap.size ≤ q → A q := fun q h => by rw [hAe]; exact Or.inr h
  have hS : va_S A s.heap s.heap [] := va_S.rf
  have hl := lv_entry ([.ref (pa 3 j), .int a1]) (n := 2) (Nat.le_of_ble_eq_true rfl)
  rw [lg_entry_eq]
  generalize (lg_sl ([.ref (pa 3 j), .int a1]) ++ List.replicate (2 - (lg_sl ([.ref (pa 3 j), .int a1])).length) Slot.unset).toArray = ls at hl ⊢
  have hl : lv_has ls 2 [(0, .ref (pa 3 j)), (1, .int a1)] := hl
  obtain ⟨H, hH⟩ : ∃ H, H = s.heap := ⟨_, rfl⟩
  have hP : va_P D vwCl (WC ca h ad pa σ) H := by rw [hH]; exact hP
  have hS : va_S A s.heap H [] := by rw [hH]; exact hS
  obtain ⟨QQ, hQ⟩ : ∃ Q9, Q9 = MQ below (va_Qi (fun (r : Int32) (_ : Unit) => r = R) (fun (_ : Unit) (t : State) => pw_post D ca (WC ca h ad pa σ) s.heap.size (WC ca h ad pa σ) t) A) ([.ref (pa 3 j), .int a1] : List Value).toArray s 0 0 A := ⟨_, rfl⟩
  rw [← hQ]
  show W _ _ _ _ _ _ _ _ _ _ s.heap _ _ _ _ _
  rw [← hH]
  have hR : ((s_X2_daysInPound σ j a1) * (σ 202 j)) = R := hR
  refine lv_aload_n hx hb dX2_fee_0 rfl (lv_at hl 0 rfl) ?_
  refine lv_iload_n hx hb dX2_fee_1 rfl (lv_at hl 1 rfl) ?_
  have hF := pw_free hD hS hA
  refine va_calli (va_runV (As := [.int a1]) (rest := []) ⟨hx, hb, hml, hown, hts⟩ (k_X2_daysInPound l D ca h ad pa tb σ j a1 H.size hI hj _ rfl) (cwV 1 hts gX2_fee_X2_daysInPound rfl rfl rfl (by decide +kernel) ⟨Nat.le_of_ble_eq_true rfl, Nat.le_of_ble_eq_true rfl⟩) ⟨cw_blind, va_recv hK hP (ci := 2) (q0 := (pcD ca h ad pa σ j)) rfl (wc_aD hj), cw_give hP hK hD hZ hS hF⟩ rfl rfl hl.1 rfl (lv_room (Nat.le_of_ble_eq_true rfl)) dX2_fee_2 ⟨Nat.le_of_ble_eq_true rfl, Nat.le_of_ble_eq_true rfl⟩) hS (fun q _ h => hF q h) hF (fun r_1 u t H1 locs ht hvm hw hB hz1 hk1 hS => ?_)
  rw [hw]
  obtain ⟨hP, hD⟩ := pw_back hF ht hB
  clear hB hk1 hz1 hF
  generalize H1 = H at hP hS ⊢
  refine lv_aload_n hx hb dX2_fee_5 rfl (lv_at hl 0 rfl) ?_
  refine va_get (D := D) (ci := 2) (v := .int (σ 202 j)) (C := RX2) (T := TX2) (N := 8) hx hb hts hu2 hown hK hP (pcD ca h ad pa σ j) (wc_aD hj) rfl 2 (by decide) (hts (.fieldLink RX2 33 "GrazeBook$Drove" "beasts" "I") (List.mem_cons_of_mem _ mw_446)) (fun _ h9 => h9) rfl dX2_fee_6 ?_
  refine lv_imul hx hb dX2_fee_9 ?_
  subst hR
  rw [hQ]
  exact W.iret (v := ((s_X2_daysInPound σ j a1) * (σ 202 j))) hx hb hr (fun t ht hW => ⟨⟨((s_X2_daysInPound σ j a1) * (σ 202 j)), (), rfl, rfl, ⟨by rw [ht]; exact hP, va_K.moved hW.alike hK, by rw [← hAe]; exact hD⟩⟩, hS.F ht⟩) hS.2.2 dX2_fee_10

def s_X7_isWeather (a1 : Int32) (a2 : Int32) : Int32 := (if a1 < (0 : Int32) then (0 : Int32) else (if (10 : Int32) ≤ a1 then (0 : Int32) else (if a2 < (0 : Int32) then (0 : Int32) else (if (10 : Int32) ≤ a2 then (0 : Int32) else (1 : Int32)))))
set_option maxHeartbeats 1000000 in
set_option maxRecDepth 100000 in
theorem k_X7_isWeather (l : Launch) (D : va_G) (ca : Nat → ClassId) (a1 : Int32) (a2 : Int32) (sz : Nat)   (R : Int32) (hR : s_X7_isWeather a1 a2 = R) : Met l yX7_isWeather wsX7_isWeather ({ frames := 0, cells := 0, slots := 0, locals := 0 }) (va_Pc [.int a1, .int a2] (pw_pre D ca [] sz)) (va_Qi (fun (r : Int32) (_ : Unit) => r = R) (fun (_ : Unit) (t : State) => pw_post D ca [] sz [] t) (va_A ([]) sz)) 0 0 (va_A ([]) sz) := by
  refine Met.ofW (cc := cX7_isWeather) (maxL := 2) (ret := (some .boolean)) (by decide) rfl ?_
  intro p e s m args below meth c s₁ B hml hv
  obtain ⟨rfl, hsz, hP, hK, hD0⟩ := hv
  have hx := B.exec
  have hb := B.bytes
  have hr := B.returns
  have hts := atoms_spec (ws := wsX7_isWeather) B.pre
  have hown : s.vm.findClass RX7 = some m.cls := findClass_of_methodNamed B.named
  have hlocks := B.notSynchronized
  subst hsz
  have hD := hD0.self (sz := s.heap.size)
  obtain ⟨A, hAe⟩ : ∃ A, A = va_A ([]) s.heap.size := ⟨_, rfl⟩
  rw [← hAe] at hD ⊢
  have hA : ∀ q : Nat, s.heap.size ≤ q → A q := fun q h => by rw [hAe]; exact Or.inr h
  have hS : va_S A s.heap s.heap [] := va_S.rf
  have hl := lv_entry ([.int a1, .int a2]) (n := 2) (Nat.le_of_ble_eq_true rfl)
  rw [lg_entry_eq]
  generalize (lg_sl ([.int a1, .int a2]) ++ List.replicate (2 - (lg_sl ([.int a1, .int a2])).length) Slot.unset).toArray = ls at hl ⊢
  have hl : lv_has ls 2 [(0, .int a1), (1, .int a2)] := hl
  obtain ⟨H, hH⟩ : ∃ H, H = s.heap := ⟨_, rfl⟩
  have hP : va_P D vwCl ([]) H := by rw [hH]; exact hP
  have hS : va_S A s.heap H [] := by rw [hH]; exact hS
  obtain ⟨QQ, hQ⟩ : ∃ Q9, Q9 = MQ below (va_Qi (fun (r : Int32) (_ : Unit) => r = R) (fun (_ : Unit) (t : State) => pw_post D ca [] s.heap.size [] t) A) ([.int a1, .int a2] : List Value).toArray s 0 0 A := ⟨_, rfl⟩
  rw [← hQ]
  show W _ _ _ _ _ _ _ _ _ _ s.heap _ _ _ _ _
  rw [← hH]
  have hR : (if a1 < (0 : Int32) then (0 : Int32) else (if (10 : Int32) ≤ a1 then (0 : Int32) else (if a2 < (0 : Int32) then (0 : Int32) else (if (10 : Int32) ≤ a2 then (0 : Int32) else (1 : Int32))))) = R := hR
  refine lv_iload_n hx hb dX7_isWeather_0 rfl (lv_at hl 0 rfl) ?_
  refine lv_if_lt (tgt := 24) hx hb dX7_isWeather_1 (by decide) (fun c_1 => ?_) (fun c_1 => ?_)
  · have hR := (if_pos c_1).symm.trans hR
    refine lv_iconst (v := (0 : Int32)) hx hb dX7_isWeather_24 (by decide) ?_
    subst hR
    rw [hQ]
    exact W.zret (v := (0 : Int32)) hx hb hr rfl (fun t ht hW => ⟨⟨(0 : Int32), (), rfl, rfl, ⟨by rw [ht]; exact hP, va_K.moved hW.alike hK, by rw [← hAe]; exact hD⟩⟩, hS.F ht⟩) hS.2.2 dX7_isWeather_25
  · have hR := (if_neg c_1).symm.trans hR
    refine lv_iload_n hx hb dX7_isWeather_4 rfl (lv_at hl 0 rfl) ?_
    refine lv_bipush (v := (10 : Int32)) hx hb dX7_isWeather_5 (by decide) ?_
    refine lv_icmp_ge (tgt := 24) hx hb dX7_isWeather_7 (by decide) (fun c_2 => ?_) (fun c_2 => ?_)
    · have hR := (if_pos c_2).symm.trans hR
      refine lv_iconst (v := (0 : Int32)) hx hb dX7_isWeather_24 (by decide) ?_
      subst hR
      rw [hQ]
      exact W.zret (v := (0 : Int32)) hx hb hr rfl (fun t ht hW => ⟨⟨(0 : Int32), (), rfl, rfl, ⟨by rw [ht]; exact hP, va_K.moved hW.alike hK, by rw [← hAe]; exact hD⟩⟩, hS.F ht⟩) hS.2.2 dX7_isWeather_25
    · have hR := (if_neg c_2).symm.trans hR
      refine lv_iload_n hx hb dX7_isWeather_10 rfl (lv_at hl 1 rfl) ?_
      refine lv_if_lt (tgt := 24) hx hb dX7_isWeather_11 (by decide) (fun c_3 => ?_) (fun c_3 => ?_)
      · have hR := (if_pos c_3).symm.trans hR
        refine lv_iconst (v := (0 : Int32)) hx hb dX7_isWeather_24 (by decide) ?_
        subst hR
        rw [hQ]
        exact W.zret (v := (0 : Int32)) hx hb hr rfl (fun t ht hW => ⟨⟨(0 : Int32), (), rfl, rfl, ⟨by rw [ht]; exact hP, va_K.moved hW.alike hK, by rw [← hAe]; exact hD⟩⟩, hS.F ht⟩) hS.2.2 dX7_isWeather_25
      · have hR := (if_neg c_3).symm.trans hR
        refine lv_iload_n hx hb dX7_isWeather_14 rfl (lv_at hl 1 rfl) ?_
        refine lv_bipush (v := (10 : Int32)) hx hb dX7_isWeather_15 (by decide) ?_
        refine lv_icmp_ge (tgt := 24) hx hb dX7_isWeather_17 (by decide) (fun c_4 => ?_) (fun c_4 => ?_)
        · have hR := (if_pos c_4).symm.trans hR
          refine lv_iconst (v := (0 : Int32)) hx hb dX7_isWeather_24 (by decide) ?_
          subst hR
          rw [hQ]
          exact W.zret (v := (0 : Int32)) hx hb hr rfl (fun t ht hW => ⟨⟨(0 : Int32), (), rfl, rfl, ⟨by rw [ht]; exact hP, va_K.moved hW.alike hK, by rw [← hAe]; exact hD⟩⟩, hS.F ht⟩) hS.2.2 dX7_isWeather_25
        · have hR := (if_neg c_4).symm.trans hR
          refine lv_iconst (v := (1 : Int32)) hx hb dX7_isWeather_20 (by decide) ?_
          refine lv_goto (tgt := 25) hx hb dX7_isWeather_21 (by decide) ?_
          subst hR
          rw [hQ]
          exact W.zret (v := (1 : Int32)) hx hb hr rfl (fun t ht hW => ⟨⟨(1 : Int32), (), rfl, rfl, ⟨by rw [ht]; exact hP, va_K.moved hW.alike hK, by rw [← hAe]; exact hD⟩⟩, hS.F ht⟩) hS.2.2 dX7_isWeather_25

theorem isx_weather {x y : Int32} (h : ¬ s_X7_isWeather x y = 0) : vp_in (x * 10 + y) 100 := by
  unfold s_X7_isWeather at h
  have e0 : (0 : Int32).toInt = 0 := by decide
  have e10 : (10 : Int32).toInt = 10 := by decide
  (repeat' split at h) <;> first | exact absurd rfl h | skip
  rename_i h1 h2 h3 h4
  simp only [Int32.lt_iff_toInt_lt, Int32.le_iff_toInt_le, e0, e10] at h1 h2 h3 h4
  have q : (x * 10).toInt = x.toInt * 10 := by rw [mul_ti (by rw [e10]; omega) (by rw [e10]; omega), e10]
  rw [vp_in_iff, add_ti (by rw [q]; omega) (by rw [q]; omega), q]
  omega

def s_X7_changeRate (σ : St) (a1 : Int32) (a2 : Int32) (a3 : Int32) : Int32 × St := (if (s_X7_isWeather a1 a2) = (0 : Int32) then ((-9 : Int32), σ) else ((σ 700 (((a1 * (10 : Int32)) + a2).toNatClampNeg)), (put σ 700 (((a1 * (10 : Int32)) + a2).toNatClampNeg) a3)))
theorem fr_s_X7_changeRate (σ : St) (a1 : Int32) (a2 : Int32) (a3 : Int32) {f : Nat} (h700 : f ≠ 700) : (s_X7_changeRate σ a1 a2 a3 ).2 f = σ f := by
  unfold s_X7_changeRate
  all_goals ((try dsimp only) <;> ((repeat' split) <;> (try simp only [put_fr, ne_eq, not_false_eq_true, h700])))
set_option maxHeartbeats 1000000 in
set_option maxRecDepth 100000 in
theorem k_X7_changeRate (l : Launch) (D : va_G) (ca : Nat → ClassId) (h : Nat) (ad : Nat → Nat) (pa : Nat → Nat → Nat) (tb : Nat) (σ : St) (a1 : Int32) (a2 : Int32) (a3 : Int32) (sz : Nat) (hI : IX σ)  (R1 : Int32) (R2 : St) (hR : s_X7_changeRate σ a1 a2 a3 = (R1, R2)) : Met l yX7_changeRate wsX7_changeRate ({ frames := 1, cells := 0, slots := 0, locals := 21 }) (va_Pc [.ref (ad 806), .int a1, .int a2, .int a3] (cw_pre D ca (WC ca h ad pa σ) sz tb)) (va_Qi (fun (r : Int32) (_ : Unit) => r = R1) (fun (_ : Unit) (t : State) => pw_post D ca (WC ca h ad pa σ) sz (WC ca h ad pa R2) t ∧ IX R2) (va_A (WC ca h ad pa σ) sz)) 0 0 (va_A (WC ca h ad pa σ) sz) := by
  refine Met.ofW (cc := cX7_changeRate) (maxL := 5) (ret := (some .int)) (by decide) rfl ?_
  intro p e s m args below meth c s₁ B hml hv
  obtain ⟨rfl, ⟨hsz, hP, hK, hD0⟩, hZ⟩ := hv
  have hx := B.exec
  have hb := B.bytes
  have hr := B.returns
  have hts := atoms_spec (ws := wsX7_changeRate) B.pre
  have hown : s.vm.findClass RX7 = some m.cls := findClass_of_methodNamed B.named
  have hlocks := B.notSynchronized
  have hu7 : ∀ w ∈ u_ws RX7 TX7 2, w ∈ wsX7_changeRate := fun w h => List.mem_cons_of_mem _ (uw7 w h)
  subst hsz
  have hD := hD0.self (sz := s.heap.size)
  obtain ⟨A, hAe⟩ : ∃ A, A = va_A (WC ca h ad pa σ) s.heap.size := ⟨_, rfl⟩
  rw [← hAe] at hD hZ ⊢
  have hA : ∀ q : Nat, s.heap.size ≤ q → A q := fun q h => by rw [hAe]; exact Or.inr h
  have hS : va_S A s.heap s.heap [] := va_S.rf
  have hl := lv_entry ([.ref (ad 806), .int a1, .int a2, .int a3]) (n := 5) (Nat.le_of_ble_eq_true rfl)
  rw [lg_entry_eq]
  generalize (lg_sl ([.ref (ad 806), .int a1, .int a2, .int a3]) ++ List.replicate (5 - (lg_sl ([.ref (ad 806), .int a1, .int a2, .int a3])).length) Slot.unset).toArray = ls at hl ⊢
  have hl : lv_has ls 5 [(0, .ref (ad 806)), (1, .int a1), (2, .int a2), (3, .int a3)] := hl
  obtain ⟨H, hH⟩ : ∃ H, H = s.heap := ⟨_, rfl⟩
  have hP : va_P D vwCl (WC ca h ad pa σ) H := by rw [hH]; exact hP
  have hS : va_S A s.heap H [] := by rw [hH]; exact hS
  obtain ⟨QQ, hQ⟩ : ∃ Q9, Q9 = MQ below (va_Qi (fun (r : Int32) (_ : Unit) => r = R1) (fun (_ : Unit) (t : State) => pw_post D ca (WC ca h ad pa σ) s.heap.size (WC ca h ad pa R2) t ∧ IX R2) A) ([.ref (ad 806), .int a1, .int a2, .int a3] : List Value).toArray s 0 0 A := ⟨_, rfl⟩
  rw [← hQ]
  show W _ _ _ _ _ _ _ _ _ _ s.heap _ _ _ _ _
  rw [← hH]
  have hR : (if (s_X7_isWeather a1 a2) = (0 : Int32) then ((-9 : Int32), σ) else ((σ 700 (((a1 * (10 : Int32)) + a2).toNatClampNeg)), (put σ 700 (((a1 * (10 : Int32)) + a2).toNatClampNeg) a3))) = (R1, R2) := hR
  refine lv_iload_n hx hb dX7_changeRate_0 rfl (lv_at hl 1 rfl) ?_
  refine lv_iload_n hx hb dX7_changeRate_1 rfl (lv_at hl 2 rfl) ?_
  have hF := pw_free (pn_D (A := A)) hS hA
  refine va_calli (va_runS (As := [.int a1, .int a2]) (rest := []) ⟨hx, hb, hml, hown, hts⟩ (k_X7_isWeather l D ca a1 a2 H.size _ rfl) (va_cwS 2 hts gX7_changeRate_X7_isWeather rfl rfl rfl (by decide +kernel) ⟨Nat.le_of_ble_eq_true rfl, Nat.le_of_ble_eq_true rfl⟩) ⟨pw_blind, pw_give pn_P hK (pn_D (A := A))⟩ rfl rfl hl.1 rfl (lv_room (Nat.le_of_ble_eq_true rfl)) dX7_changeRate_2 ⟨Nat.le_of_ble_eq_true rfl, Nat.le_of_ble_eq_true rfl⟩) hS (fun q _ h => hF q h) hF (fun r_1 u t H1 locs ht hvm hw hB hz1 hk1 hS => ?_)
  subst hw
  have hP := pn_back hP hk1
  clear hB hk1 hz1 hF
  generalize H1 = H at hP hS ⊢
  refine lv_if_ne (tgt := 11) hx hb dX7_changeRate_5 (by decide) (fun c_2 => ?_) (fun c_2 => ?_)
  · have hR := (if_neg c_2).symm.trans hR
    refine lv_aload_n hx hb dX7_changeRate_11 rfl (lv_at hl 0 rfl) ?_
    refine va_get (D := D) (ci := 7) (v := .ref (ad 700)) (C := RX7) (T := TX7) (N := 2) hx hb hts hu7 hown hK hP 2 wc_2 rfl 0 (by decide) (hts (.fieldLink RX7 11 "GrazeBook$Year" "rates" "[I") (List.mem_cons_of_mem _ mw_106)) (fun _ h9 => h9) rfl dX7_changeRate_12 ?_
    refine lv_iload_n hx hb dX7_changeRate_15 rfl (lv_at hl 1 rfl) ?_
    refine lv_bipush (v := (10 : Int32)) hx hb dX7_changeRate_16 (by decide) ?_
    refine lv_imul hx hb dX7_changeRate_18 ?_
    refine lv_iload_n hx hb dX7_changeRate_19 rfl (lv_at hl 2 rfl) ?_
    refine lv_iadd hx hb dX7_changeRate_20 ?_
    refine va_iald_k (k := (((a1 * (10 : Int32)) + a2).toNatClampNeg)) (v := (σ 700 (((a1 * (10 : Int32)) + a2).toNatClampNeg))) hx hb hK hP 12 0 wc_12 rfl rfl rfl (isx_weather c_2) dX7_changeRate_21 ?_
    refine lv_istore (lv' := [(4, .int (σ 700 (((a1 * (10 : Int32)) + a2).toNatClampNeg))), (0, .ref (ad 806)), (1, .int a1), (2, .int a2), (3, .int a3)]) hx hb dX7_changeRate_22 hl (by decide) rfl (fun ls hl => ?_)
    refine lv_aload_n hx hb dX7_changeRate_24 rfl (lv_at hl 1 rfl) ?_
    refine va_get (D := D) (ci := 7) (v := .ref (ad 700)) (C := RX7) (T := TX7) (N := 2) hx hb hts hu7 hown hK hP 2 wc_2 rfl 0 (by decide) (hts (.fieldLink RX7 11 "GrazeBook$Year" "rates" "[I") (List.mem_cons_of_mem _ mw_106)) (fun _ h9 => h9) rfl dX7_changeRate_25 ?_
    refine lv_iload_n hx hb dX7_changeRate_28 rfl (lv_at hl 2 rfl) ?_
    refine lv_bipush (v := (10 : Int32)) hx hb dX7_changeRate_29 (by decide) ?_
    refine lv_imul hx hb dX7_changeRate_31 ?_
    refine lv_iload_n hx hb dX7_changeRate_32 rfl (lv_at hl 3 rfl) ?_
    refine lv_iadd hx hb dX7_changeRate_33 ?_
    refine lv_iload_n hx hb dX7_changeRate_34 rfl (lv_at hl 4 rfl) ?_
    refine va_iast_k (k := (((a1 * (10 : Int32)) + a2).toNatClampNeg)) hx hb hK hP hD hS 12 0 wc_12 rfl rfl (isx_weather c_2) dX7_changeRate_35 (fun H locs hP hD hS => ?_)
    rw [wc_s700] at hP hD
    refine lv_iload hx hb dX7_changeRate_36 (lv_at hl 0 rfl) ?_
    have hI9 : IX (put σ 700 (((a1 * (10 : Int32)) + a2).toNatClampNeg) a3) := hI
    obtain ⟨rfl, rfl⟩ := Prod.mk.inj (show ((σ 700 (((a1 * (10 : Int32)) + a2).toNatClampNeg)), (put σ 700 (((a1 * (10 : Int32)) + a2).toNatClampNeg) a3)) = (R1, R2) from hR)
    rw [hQ]
    exact W.iret (v := (σ 700 (((a1 * (10 : Int32)) + a2).toNatClampNeg))) hx hb hr (fun t ht hW => ⟨⟨(σ 700 (((a1 * (10 : Int32)) + a2).toNatClampNeg)), (), rfl, rfl, ⟨by rw [ht]; exact hP, va_K.moved hW.alike hK, by rw [← hAe]; exact hD⟩, hI9⟩, hS.F ht⟩) hS.2.2 dX7_changeRate_38
  · have hR := (if_pos c_2).symm.trans hR
    refine lv_bipush (v := (-9 : Int32)) hx hb dX7_changeRate_8 (by decide) ?_
    have hI9 : IX σ := hI
    obtain ⟨rfl, rfl⟩ := Prod.mk.inj (show ((-9 : Int32), σ) = (R1, R2) from hR)
    rw [hQ]
    exact W.iret (v := (-9 : Int32)) hx hb hr (fun t ht hW => ⟨⟨(-9 : Int32), (), rfl, rfl, ⟨by rw [ht]; exact hP, va_K.moved hW.alike hK, by rw [← hAe]; exact hD⟩, hI9⟩, hS.F ht⟩) hS.2.2 dX7_changeRate_10

def s_X7_changeWeather (σ : St) (a1 : Int32) (a2 : Int32) (a3 : Int32) : St := (if (s_X7_isWeather a2 a3) = (0 : Int32) then σ else (if a1 < (0 : Int32) then σ else (if (720 : Int32) < a1 then σ else (put σ 701 (a1.toNatClampNeg) ((a2 * (10 : Int32)) + a3)))))
theorem fr_s_X7_changeWeather (σ : St) (a1 : Int32) (a2 : Int32) (a3 : Int32) {f : Nat} (h701 : f ≠ 701) : (s_X7_changeWeather σ a1 a2 a3 ) f = σ f := by
  unfold s_X7_changeWeather
  all_goals ((try dsimp only) <;> ((repeat' split) <;> (try simp only [put_fr, ne_eq, not_false_eq_true, h701])))
set_option maxHeartbeats 1000000 in
set_option maxRecDepth 100000 in
theorem k_X7_changeWeather (l : Launch) (D : va_G) (ca : Nat → ClassId) (h : Nat) (ad : Nat → Nat) (pa : Nat → Nat → Nat) (tb : Nat) (σ : St) (a1 : Int32) (a2 : Int32) (a3 : Int32) (sz : Nat) (hI : IX σ)  (R : St) (hR : s_X7_changeWeather σ a1 a2 a3 = R) : Met l yX7_changeWeather wsX7_changeWeather ({ frames := 1, cells := 0, slots := 0, locals := 21 }) (va_Pc [.ref (ad 806), .int a1, .int a2, .int a3] (cw_pre D ca (WC ca h ad pa σ) sz tb)) (va_Qv (fun _ : Unit => True) (fun (_ : Unit) (t : State) => pw_post D ca (WC ca h ad pa σ) sz (WC ca h ad pa R) t ∧ IX R) (va_A (WC ca h ad pa σ) sz)) 0 0 (va_A (WC ca h ad pa σ) sz) := by
  refine Met.ofW (cc := cX7_changeWeather) (maxL := 4) (ret := none) (by decide) rfl ?_
  intro p e s m args below meth c s₁ B hml hv
  obtain ⟨rfl, ⟨hsz, hP, hK, hD0⟩, hZ⟩ := hv
  have hx := B.exec
  have hb := B.bytes
  have hr := B.returns
  have hts := atoms_spec (ws := wsX7_changeWeather) B.pre
  have hown : s.vm.findClass RX7 = some m.cls := findClass_of_methodNamed B.named
  have hlocks := B.notSynchronized
  have hu7 : ∀ w ∈ u_ws RX7 TX7 2, w ∈ wsX7_changeWeather := fun w h => List.mem_cons_of_mem _ (uw7 w h)
  subst hsz
  have hD := hD0.self (sz := s.heap.size)
  obtain ⟨A, hAe⟩ : ∃ A, A = va_A (WC ca h ad pa σ) s.heap.size := ⟨_, rfl⟩
  rw [← hAe] at hD hZ ⊢
  have hA : ∀ q : Nat, s.heap.size ≤ q → A q := fun q h => by rw [hAe]; exact Or.inr h
  have hS : va_S A s.heap s.heap [] := va_S.rf
  have hl := lv_entry ([.ref (ad 806), .int a1, .int a2, .int a3]) (n := 4) (Nat.le_of_ble_eq_true rfl)
  rw [lg_entry_eq]
  generalize (lg_sl ([.ref (ad 806), .int a1, .int a2, .int a3]) ++ List.replicate (4 - (lg_sl ([.ref (ad 806), .int a1, .int a2, .int a3])).length) Slot.unset).toArray = ls at hl ⊢
  have hl : lv_has ls 4 [(0, .ref (ad 806)), (1, .int a1), (2, .int a2), (3, .int a3)] := hl
  obtain ⟨H, hH⟩ : ∃ H, H = s.heap := ⟨_, rfl⟩
  have hP : va_P D vwCl (WC ca h ad pa σ) H := by rw [hH]; exact hP
  have hS : va_S A s.heap H [] := by rw [hH]; exact hS
  obtain ⟨QQ, hQ⟩ : ∃ Q9, Q9 = MQ below (va_Qv (fun _ : Unit => True) (fun (_ : Unit) (t : State) => pw_post D ca (WC ca h ad pa σ) s.heap.size (WC ca h ad pa R) t ∧ IX R) A) ([.ref (ad 806), .int a1, .int a2, .int a3] : List Value).toArray s 0 0 A := ⟨_, rfl⟩
  rw [← hQ]
  show W _ _ _ _ _ _ _ _ _ _ s.heap _ _ _ _ _
  rw [← hH]
  have hR : (if (s_X7_isWeather a2 a3) = (0 : Int32) then σ else (if a1 < (0 : Int32) then σ else (if (720 : Int32) < a1 then σ else (put σ 701 (a1.toNatClampNeg) ((a2 * (10 : Int32)) + a3))))) = R := hR
  refine lv_iload_n hx hb dX7_changeWeather_0 rfl (lv_at hl 2 rfl) ?_
  refine lv_iload_n hx hb dX7_changeWeather_1 rfl (lv_at hl 3 rfl) ?_
  have hF := pw_free (pn_D (A := A)) hS hA
  refine va_calli (va_runS (As := [.int a2, .int a3]) (rest := []) ⟨hx, hb, hml, hown, hts⟩ (k_X7_isWeather l D ca a2 a3 H.size _ rfl) (va_cwS 2 hts gX7_changeWeather_X7_isWeather rfl rfl rfl (by decide +kernel) ⟨Nat.le_of_ble_eq_true rfl, Nat.le_of_ble_eq_true rfl⟩) ⟨pw_blind, pw_give pn_P hK (pn_D (A := A))⟩ rfl rfl hl.1 rfl (lv_room (Nat.le_of_ble_eq_true rfl)) dX7_changeWeather_2 ⟨Nat.le_of_ble_eq_true rfl, Nat.le_of_ble_eq_true rfl⟩) hS (fun q _ h => hF q h) hF (fun r_1 u t H1 locs ht hvm hw hB hz1 hk1 hS => ?_)
  subst hw
  have hP := pn_back hP hk1
  clear hB hk1 hz1 hF
  generalize H1 = H at hP hS ⊢
  refine lv_if_eq (tgt := 31) hx hb dX7_changeWeather_5 (by decide) (fun c_2 => ?_) (fun c_2 => ?_)
  · have hR := (if_pos c_2).symm.trans hR
    have hI9 : IX σ := hI
    subst hR
    rw [hQ]
    exact W.vret hx hb hr (fun t ht hW => ⟨⟨(), rfl, trivial, ⟨by rw [ht]; exact hP, va_K.moved hW.alike hK, by rw [← hAe]; exact hD⟩, hI9⟩, hS.F ht⟩) hS.2.2 dX7_changeWeather_31
  · have hR := (if_neg c_2).symm.trans hR
    refine lv_iload_n hx hb dX7_changeWeather_8 rfl (lv_at hl 1 rfl) ?_
    refine lv_if_lt (tgt := 31) hx hb dX7_changeWeather_9 (by decide) (fun c_3 => ?_) (fun c_3 => ?_)
    · have hR := (if_pos c_3).symm.trans hR
      have hI9 : IX σ := hI
      subst hR
      rw [hQ]
      exact W.vret hx hb hr (fun t ht hW => ⟨⟨(), rfl, trivial, ⟨by rw [ht]; exact hP, va_K.moved hW.alike hK, by rw [← hAe]; exact hD⟩, hI9⟩, hS.F ht⟩) hS.2.2 dX7_changeWeather_31
    · have hR := (if_neg c_3).symm.trans hR
      refine lv_iload_n hx hb dX7_changeWeather_12 rfl (lv_at hl 1 rfl) ?_
      refine lv_sipush (v := (720 : Int32)) hx hb dX7_changeWeather_13 (by decide) ?_
      refine lv_icmp_gt (tgt := 31) hx hb dX7_changeWeather_16 (by decide) (fun c_4 => ?_) (fun c_4 => ?_)
      · have hR := (if_pos c_4).symm.trans hR
        have hI9 : IX σ := hI
        subst hR
        rw [hQ]
        exact W.vret hx hb hr (fun t ht hW => ⟨⟨(), rfl, trivial, ⟨by rw [ht]; exact hP, va_K.moved hW.alike hK, by rw [← hAe]; exact hD⟩, hI9⟩, hS.F ht⟩) hS.2.2 dX7_changeWeather_31
      · have hR := (if_neg c_4).symm.trans hR
        refine lv_aload_n hx hb dX7_changeWeather_19 rfl (lv_at hl 0 rfl) ?_
        refine va_get (D := D) (ci := 7) (v := .ref (ad 701)) (C := RX7) (T := TX7) (N := 2) hx hb hts hu7 hown hK hP 2 wc_2 rfl 1 (by decide) (hts (.fieldLink RX7 15 "GrazeBook$Year" "skies" "[I") (List.mem_cons_of_mem _ mw_107)) (fun _ h9 => h9) rfl dX7_changeWeather_20 ?_
        refine lv_iload_n hx hb dX7_changeWeather_23 rfl (lv_at hl 1 rfl) ?_
        refine lv_iload_n hx hb dX7_changeWeather_24 rfl (lv_at hl 2 rfl) ?_
        refine lv_bipush (v := (10 : Int32)) hx hb dX7_changeWeather_25 (by decide) ?_
        refine lv_imul hx hb dX7_changeWeather_27 ?_
        refine lv_iload_n hx hb dX7_changeWeather_28 rfl (lv_at hl 3 rfl) ?_
        refine lv_iadd hx hb dX7_changeWeather_29 ?_
        refine va_iast_k (k := (a1.toNatClampNeg)) hx hb hK hP hD hS 13 0 wc_13 rfl rfl (ix_day (not_lt0 c_3) (not_lt0 c_4) (by decide)) dX7_changeWeather_30 (fun H locs hP hD hS => ?_)
        rw [wc_s701] at hP hD
        have hI9 : IX (put σ 701 (a1.toNatClampNeg) ((a2 * (10 : Int32)) + a3)) := (ix_put701 (σ := σ) hI (vp_in_iff.mp (isx_weather c_2)))
        subst hR
        rw [hQ]
        exact W.vret hx hb hr (fun t ht hW => ⟨⟨(), rfl, trivial, ⟨by rw [ht]; exact hP, va_K.moved hW.alike hK, by rw [← hAe]; exact hD⟩, hI9⟩, hS.F ht⟩) hS.2.2 dX7_changeWeather_31

def s_X7_rainOn (σ : St) (a1 : Int32) : Int32 := (if a1 < (0 : Int32) then (0 : Int32) else (if (720 : Int32) < a1 then (0 : Int32) else ((σ 701 (a1.toNatClampNeg)) / (10 : Int32))))
set_option maxHeartbeats 1000000 in
set_option maxRecDepth 100000 in
theorem k_X7_rainOn (l : Launch) (D : va_G) (ca : Nat → ClassId) (h : Nat) (ad : Nat → Nat) (pa : Nat → Nat → Nat) (tb : Nat) (σ : St) (a1 : Int32) (sz : Nat) (hI : IX σ)  (R : Int32) (hR : s_X7_rainOn σ a1 = R) : Met l yX7_rainOn wsX7_rainOn ({ frames := 0, cells := 0, slots := 0, locals := 0 }) (va_Pc [.ref (ad 806), .int a1] (cw_pre D ca (WC ca h ad pa σ) sz tb)) (va_Qi (fun (r : Int32) (_ : Unit) => r = R) (fun (_ : Unit) (t : State) => pw_post D ca (WC ca h ad pa σ) sz (WC ca h ad pa σ) t) (va_A (WC ca h ad pa σ) sz)) 0 0 (va_A (WC ca h ad pa σ) sz) := by
  refine Met.ofW (cc := cX7_rainOn) (maxL := 2) (ret := (some .int)) (by decide) rfl ?_
  intro p e s m args below meth c s₁ B hml hv
  obtain ⟨rfl, ⟨hsz, hP, hK, hD0⟩, hZ⟩ := hv
  have hx := B.exec
  have hb := B.bytes
  have hr := B.returns
  have hts := atoms_spec (ws := wsX7_rainOn) B.pre
  have hown : s.vm.findClass RX7 = some m.cls := findClass_of_methodNamed B.named
  have hlocks := B.notSynchronized
  have hu7 : ∀ w ∈ u_ws RX7 TX7 2, w ∈ wsX7_rainOn := fun w h => List.mem_cons_of_mem _ (uw7 w h)
  subst hsz
  have hD := hD0.self (sz := s.heap.size)
  obtain ⟨A, hAe⟩ : ∃ A, A = va_A (WC ca h ad pa σ) s.heap.size := ⟨_, rfl⟩
  rw [← hAe] at hD hZ ⊢
  have hA : ∀ q : Nat, s.heap.size ≤ q → A q := fun q h => by rw [hAe]; exact Or.inr h
  have hS : va_S A s.heap s.heap [] := va_S.rf
  have hl := lv_entry ([.ref (ad 806), .int a1]) (n := 2) (Nat.le_of_ble_eq_true rfl)
  rw [lg_entry_eq]
  generalize (lg_sl ([.ref (ad 806), .int a1]) ++ List.replicate (2 - (lg_sl ([.ref (ad 806), .int a1])).length) Slot.unset).toArray = ls at hl ⊢
  have hl : lv_has ls 2 [(0, .ref (ad 806)), (1, .int a1)] := hl
  obtain ⟨H, hH⟩ : ∃ H, H = s.heap := ⟨_, rfl⟩
  have hP : va_P D vwCl (WC ca h ad pa σ) H := by rw [hH]; exact hP
  have hS : va_S A s.heap H [] := by rw [hH]; exact hS
  obtain ⟨QQ, hQ⟩ : ∃ Q9, Q9 = MQ below (va_Qi (fun (r : Int32) (_ : Unit) => r = R) (fun (_ : Unit) (t : State) => pw_post D ca (WC ca h ad pa σ) s.heap.size (WC ca h ad pa σ) t) A) ([.ref (ad 806), .int a1] : List Value).toArray s 0 0 A := ⟨_, rfl⟩
  rw [← hQ]
  show W _ _ _ _ _ _ _ _ _ _ s.heap _ _ _ _ _
  rw [← hH]
  have hR : (if a1 < (0 : Int32) then (0 : Int32) else (if (720 : Int32) < a1 then (0 : Int32) else ((σ 701 (a1.toNatClampNeg)) / (10 : Int32)))) = R := hR
  refine lv_iload_n hx hb dX7_rainOn_0 rfl (lv_at hl 1 rfl) ?_
  refine lv_if_lt (tgt := 23) hx hb dX7_rainOn_1 (by decide) (fun c_1 => ?_) (fun c_1 => ?_)
  · have hR := (if_pos c_1).symm.trans hR
    refine lv_iconst (v := (0 : Int32)) hx hb dX7_rainOn_23 (by decide) ?_
    subst hR
    rw [hQ]
    exact W.iret (v := (0 : Int32)) hx hb hr (fun t ht hW => ⟨⟨(0 : Int32), (), rfl, rfl, ⟨by rw [ht]; exact hP, va_K.moved hW.alike hK, by rw [← hAe]; exact hD⟩⟩, hS.F ht⟩) hS.2.2 dX7_rainOn_24
  · have hR := (if_neg c_1).symm.trans hR
    refine lv_iload_n hx hb dX7_rainOn_4 rfl (lv_at hl 1 rfl) ?_
    refine lv_sipush (v := (720 : Int32)) hx hb dX7_rainOn_5 (by decide) ?_
    refine lv_icmp_gt (tgt := 23) hx hb dX7_rainOn_8 (by decide) (fun c_2 => ?_) (fun c_2 => ?_)
    · have hR := (if_pos c_2).symm.trans hR
      refine lv_iconst (v := (0 : Int32)) hx hb dX7_rainOn_23 (by decide) ?_
      subst hR
      rw [hQ]
      exact W.iret (v := (0 : Int32)) hx hb hr (fun t ht hW => ⟨⟨(0 : Int32), (), rfl, rfl, ⟨by rw [ht]; exact hP, va_K.moved hW.alike hK, by rw [← hAe]; exact hD⟩⟩, hS.F ht⟩) hS.2.2 dX7_rainOn_24
    · have hR := (if_neg c_2).symm.trans hR
      refine lv_aload_n hx hb dX7_rainOn_11 rfl (lv_at hl 0 rfl) ?_
      refine va_get (D := D) (ci := 7) (v := .ref (ad 701)) (C := RX7) (T := TX7) (N := 2) hx hb hts hu7 hown hK hP 2 wc_2 rfl 1 (by decide) (hts (.fieldLink RX7 15 "GrazeBook$Year" "skies" "[I") (List.mem_cons_of_mem _ mw_107)) (fun _ h9 => h9) rfl dX7_rainOn_12 ?_
      refine lv_iload_n hx hb dX7_rainOn_15 rfl (lv_at hl 1 rfl) ?_
      refine va_iald_k (k := (a1.toNatClampNeg)) (v := (σ 701 (a1.toNatClampNeg))) hx hb hK hP 13 0 wc_13 rfl rfl rfl (ix_day (not_lt0 c_1) (not_lt0 c_2) (by decide)) dX7_rainOn_16 ?_
      refine lv_bipush (v := (10 : Int32)) hx hb dX7_rainOn_17 (by decide) ?_
      refine lv_idiv hx hb dX7_rainOn_19 (by decide) ?_
      refine lv_goto (tgt := 24) hx hb dX7_rainOn_20 (by decide) ?_
      subst hR
      rw [hQ]
      exact W.iret (v := ((σ 701 (a1.toNatClampNeg)) / (10 : Int32))) hx hb hr (fun t ht hW => ⟨⟨((σ 701 (a1.toNatClampNeg)) / (10 : Int32)), (), rfl, rfl, ⟨by rw [ht]; exact hP, va_K.moved hW.alike hK, by rw [← hAe]; exact hD⟩⟩, hS.F ht⟩) hS.2.2 dX7_rainOn_24

def s_X7_rateOn (σ : St) (a1 : Int32) : Int32 := (if a1 < (0 : Int32) then (0 : Int32) else (if (720 : Int32) < a1 then (0 : Int32) else (σ 700 ((σ 701 (a1.toNatClampNeg)).toNatClampNeg))))
set_option maxHeartbeats 1000000 in
set_option maxRecDepth 100000 in
theorem k_X7_rateOn (l : Launch) (D : va_G) (ca : Nat → ClassId) (h : Nat) (ad : Nat → Nat) (pa : Nat → Nat → Nat) (tb : Nat) (σ : St) (a1 : Int32) (sz : Nat) (hI : IX σ)  (R : Int32) (hR : s_X7_rateOn σ a1 = R) : Met l yX7_rateOn wsX7_rateOn ({ frames := 0, cells := 0, slots := 0, locals := 0 }) (va_Pc [.ref (ad 806), .int a1] (cw_pre D ca (WC ca h ad pa σ) sz tb)) (va_Qi (fun (r : Int32) (_ : Unit) => r = R) (fun (_ : Unit) (t : State) => pw_post D ca (WC ca h ad pa σ) sz (WC ca h ad pa σ) t) (va_A (WC ca h ad pa σ) sz)) 0 0 (va_A (WC ca h ad pa σ) sz) := by
  refine Met.ofW (cc := cX7_rateOn) (maxL := 2) (ret := (some .int)) (by decide) rfl ?_
  intro p e s m args below meth c s₁ B hml hv
  obtain ⟨rfl, ⟨hsz, hP, hK, hD0⟩, hZ⟩ := hv
  have hx := B.exec
  have hb := B.bytes
  have hr := B.returns
  have hts := atoms_spec (ws := wsX7_rateOn) B.pre
  have hown : s.vm.findClass RX7 = some m.cls := findClass_of_methodNamed B.named
  have hlocks := B.notSynchronized
  have hu7 : ∀ w ∈ u_ws RX7 TX7 2, w ∈ wsX7_rateOn := fun w h => List.mem_cons_of_mem _ (uw7 w h)
  subst hsz
  have hD := hD0.self (sz := s.heap.size)
  obtain ⟨A, hAe⟩ : ∃ A, A = va_A (WC ca h ad pa σ) s.heap.size := ⟨_, rfl⟩
  rw [← hAe] at hD hZ ⊢
  have hA : ∀ q : Nat, s.heap.size ≤ q → A q := fun q h => by rw [hAe]; exact Or.inr h
  have hS : va_S A s.heap s.heap [] := va_S.rf
  have hl := lv_entry ([.ref (ad 806), .int a1]) (n := 2) (Nat.le_of_ble_eq_true rfl)
  rw [lg_entry_eq]
  generalize (lg_sl ([.ref (ad 806), .int a1]) ++ List.replicate (2 - (lg_sl ([.ref (ad 806), .int a1])).length) Slot.unset).toArray = ls at hl ⊢
  have hl : lv_has ls 2 [(0, .ref (ad 806)), (1, .int a1)] := hl
  obtain ⟨H, hH⟩ : ∃ H, H = s.heap := ⟨_, rfl⟩
  have hP : va_P D vwCl (WC ca h ad pa σ) H := by rw [hH]; exact hP
  have hS : va_S A s.heap H [] := by rw [hH]; exact hS
  obtain ⟨QQ, hQ⟩ : ∃ Q9, Q9 = MQ below (va_Qi (fun (r : Int32) (_ : Unit) => r = R) (fun (_ : Unit) (t : State) => pw_post D ca (WC ca h ad pa σ) s.heap.size (WC ca h ad pa σ) t) A) ([.ref (ad 806), .int a1] : List Value).toArray s 0 0 A := ⟨_, rfl⟩
  rw [← hQ]
  show W _ _ _ _ _ _ _ _ _ _ s.heap _ _ _ _ _
  rw [← hH]
  have hR : (if a1 < (0 : Int32) then (0 : Int32) else (if (720 : Int32) < a1 then (0 : Int32) else (σ 700 ((σ 701 (a1.toNatClampNeg)).toNatClampNeg)))) = R := hR
  refine lv_iload_n hx hb dX7_rateOn_0 rfl (lv_at hl 1 rfl) ?_
  refine lv_if_lt (tgt := 25) hx hb dX7_rateOn_1 (by decide) (fun c_1 => ?_) (fun c_1 => ?_)
  · have hR := (if_pos c_1).symm.trans hR
    refine lv_iconst (v := (0 : Int32)) hx hb dX7_rateOn_25 (by decide) ?_
    subst hR
    rw [hQ]
    exact W.iret (v := (0 : Int32)) hx hb hr (fun t ht hW => ⟨⟨(0 : Int32), (), rfl, rfl, ⟨by rw [ht]; exact hP, va_K.moved hW.alike hK, by rw [← hAe]; exact hD⟩⟩, hS.F ht⟩) hS.2.2 dX7_rateOn_26
  · have hR := (if_neg c_1).symm.trans hR
    refine lv_iload_n hx hb dX7_rateOn_4 rfl (lv_at hl 1 rfl) ?_
    refine lv_sipush (v := (720 : Int32)) hx hb dX7_rateOn_5 (by decide) ?_
    refine lv_icmp_gt (tgt := 25) hx hb dX7_rateOn_8 (by decide) (fun c_2 => ?_) (fun c_2 => ?_)
    · have hR := (if_pos c_2).symm.trans hR
      refine lv_iconst (v := (0 : Int32)) hx hb dX7_rateOn_25 (by decide) ?_
      subst hR
      rw [hQ]
      exact W.iret (v := (0 : Int32)) hx hb hr (fun t ht hW => ⟨⟨(0 : Int32), (), rfl, rfl, ⟨by rw [ht]; exact hP, va_K.moved hW.alike hK, by rw [← hAe]; exact hD⟩⟩, hS.F ht⟩) hS.2.2 dX7_rateOn_26
    · have hR := (if_neg c_2).symm.trans hR
      refine lv_aload_n hx hb dX7_rateOn_11 rfl (lv_at hl 0 rfl) ?_
      refine va_get (D := D) (ci := 7) (v := .ref (ad 700)) (C := RX7) (T := TX7) (N := 2) hx hb hts hu7 hown hK hP 2 wc_2 rfl 0 (by decide) (hts (.fieldLink RX7 11 "GrazeBook$Year" "rates" "[I") (List.mem_cons_of_mem _ mw_106)) (fun _ h9 => h9) rfl dX7_rateOn_12 ?_
      refine lv_aload_n hx hb dX7_rateOn_15 rfl (lv_at hl 0 rfl) ?_
      refine va_get (D := D) (ci := 7) (v := .ref (ad 701)) (C := RX7) (T := TX7) (N := 2) hx hb hts hu7 hown hK hP 2 wc_2 rfl 1 (by decide) (hts (.fieldLink RX7 15 "GrazeBook$Year" "skies" "[I") (List.mem_cons_of_mem _ mw_107)) (fun _ h9 => h9) rfl dX7_rateOn_16 ?_
      refine lv_iload_n hx hb dX7_rateOn_19 rfl (lv_at hl 1 rfl) ?_
      refine va_iald_k (k := (a1.toNatClampNeg)) (v := (σ 701 (a1.toNatClampNeg))) hx hb hK hP 13 0 wc_13 rfl rfl rfl (ix_day (not_lt0 c_1) (not_lt0 c_2) (by decide)) dX7_rateOn_20 ?_
      refine va_iald_k (k := ((σ 701 (a1.toNatClampNeg)).toNatClampNeg)) (v := (σ 700 ((σ 701 (a1.toNatClampNeg)).toNatClampNeg))) hx hb hK hP 12 0 wc_12 rfl rfl rfl (vp_in_iff.mpr (ix_701 hI (a1.toNatClampNeg))) dX7_rateOn_21 ?_
      refine lv_goto (tgt := 26) hx hb dX7_rateOn_22 (by decide) ?_
      subst hR
      rw [hQ]
      exact W.iret (v := (σ 700 ((σ 701 (a1.toNatClampNeg)).toNatClampNeg))) hx hb hr (fun t ht hW => ⟨⟨(σ 700 ((σ 701 (a1.toNatClampNeg)).toNatClampNeg)), (), rfl, rfl, ⟨by rw [ht]; exact hP, va_K.moved hW.alike hK, by rw [← hAe]; exact hD⟩⟩, hS.F ht⟩) hS.2.2 dX7_rateOn_26

def s_X8_isPiece (σ : St) (a1 : Int32) : Int32 := (if a1 < (0 : Int32) then (0 : Int32) else (if (σ 811 0) ≤ a1 then (0 : Int32) else (1 : Int32)))
set_option maxHeartbeats 1000000 in
set_option maxRecDepth 100000 in
theorem k_X8_isPiece (l : Launch) (D : va_G) (ca : Nat → ClassId) (h : Nat) (ad : Nat → Nat) (pa : Nat → Nat → Nat) (tb : Nat) (σ : St) (a1 : Int32) (sz : Nat) (hI : IX σ)  (R : Int32) (hR : s_X8_isPiece σ a1 = R) : Met l yX8_isPiece wsX8_isPiece ({ frames := 0, cells := 0, slots := 0, locals := 0 }) (va_Pc [.ref h, .int a1] (cw_pre D ca (WC ca h ad pa σ) sz tb)) (va_Qi (fun (r : Int32) (_ : Unit) => r = R) (fun (_ : Unit) (t : State) => pw_post D ca (WC ca h ad pa σ) sz (WC ca h ad pa σ) t) (va_A (WC ca h ad pa σ) sz)) 0 0 (va_A (WC ca h ad pa σ) sz) := by
  refine Met.ofW (cc := cX8_isPiece) (maxL := 2) (ret := (some .boolean)) (by decide) rfl ?_
  intro p e s m args below meth c s₁ B hml hv
  obtain ⟨rfl, ⟨hsz, hP, hK, hD0⟩, hZ⟩ := hv
  have hx := B.exec
  have hb := B.bytes
  have hr := B.returns
  have hts := atoms_spec (ws := wsX8_isPiece) B.pre
  have hown : s.vm.findClass RX8 = some m.cls := findClass_of_methodNamed B.named
  have hlocks := B.notSynchronized
  have hu8 : ∀ w ∈ u_ws RX8 TX8 19, w ∈ wsX8_isPiece := fun w h => List.mem_cons_of_mem _ (uw8 w h)
  subst hsz
  have hD := hD0.self (sz := s.heap.size)
  obtain ⟨A, hAe⟩ : ∃ A, A = va_A (WC ca h ad pa σ) s.heap.size := ⟨_, rfl⟩
  rw [← hAe] at hD hZ ⊢
  have hA : ∀ q : Nat, s.heap.size ≤ q → A q := fun q h => by rw [hAe]; exact Or.inr h
  have hS : va_S A s.heap s.heap [] := va_S.rf
  have hl := lv_entry ([.ref h, .int a1]) (n := 2) (Nat.le_of_ble_eq_true rfl)
  rw [lg_entry_eq]
  generalize (lg_sl ([.ref h, .int a1]) ++ List.replicate (2 - (lg_sl ([.ref h, .int a1])).length) Slot.unset).toArray = ls at hl ⊢
  have hl : lv_has ls 2 [(0, .ref h), (1, .int a1)] := hl
  obtain ⟨H, hH⟩ : ∃ H, H = s.heap := ⟨_, rfl⟩
  have hP : va_P D vwCl (WC ca h ad pa σ) H := by rw [hH]; exact hP
  have hS : va_S A s.heap H [] := by rw [hH]; exact hS
  obtain ⟨QQ, hQ⟩ : ∃ Q9, Q9 = MQ below (va_Qi (fun (r : Int32) (_ : Unit) => r = R) (fun (_ : Unit) (t : State) => pw_post D ca (WC ca h ad pa σ) s.heap.size (WC ca h ad pa σ) t) A) ([.ref h, .int a1] : List Value).toArray s 0 0 A := ⟨_, rfl⟩
  rw [← hQ]
  show W _ _ _ _ _ _ _ _ _ _ s.heap _ _ _ _ _
  rw [← hH]
  have hR : (if a1 < (0 : Int32) then (0 : Int32) else (if (σ 811 0) ≤ a1 then (0 : Int32) else (1 : Int32))) = R := hR
  refine lv_iload_n hx hb dX8_isPiece_0 rfl (lv_at hl 1 rfl) ?_
  refine lv_if_lt (tgt := 16) hx hb dX8_isPiece_1 (by decide) (fun c_1 => ?_) (fun c_1 => ?_)
  · have hR := (if_pos c_1).symm.trans hR
    refine lv_iconst (v := (0 : Int32)) hx hb dX8_isPiece_16 (by decide) ?_
    subst hR
    rw [hQ]
    exact W.zret (v := (0 : Int32)) hx hb hr rfl (fun t ht hW => ⟨⟨(0 : Int32), (), rfl, rfl, ⟨by rw [ht]; exact hP, va_K.moved hW.alike hK, by rw [← hAe]; exact hD⟩⟩, hS.F ht⟩) hS.2.2 dX8_isPiece_17
  · have hR := (if_neg c_1).symm.trans hR
    refine lv_iload_n hx hb dX8_isPiece_4 rfl (lv_at hl 1 rfl) ?_
    refine lv_aload_n hx hb dX8_isPiece_5 rfl (lv_at hl 0 rfl) ?_
    refine va_get (D := D) (ci := 8) (v := .int (σ 811 0)) (C := RX8) (T := TX8) (N := 19) hx hb hts hu8 hown hK hP 0 wc_0 rfl 11 (by decide) (hts (.fieldLink RX8 75 "GrazeBook" "pieceCount" "I") (List.mem_cons_of_mem _ mw_221)) (fun _ h9 => h9) rfl dX8_isPiece_6 ?_
    refine lv_icmp_ge (tgt := 16) hx hb dX8_isPiece_9 (by decide) (fun c_2 => ?_) (fun c_2 => ?_)
    · have hR := (if_pos c_2).symm.trans hR
      refine lv_iconst (v := (0 : Int32)) hx hb dX8_isPiece_16 (by decide) ?_
      subst hR
      rw [hQ]
      exact W.zret (v := (0 : Int32)) hx hb hr rfl (fun t ht hW => ⟨⟨(0 : Int32), (), rfl, rfl, ⟨by rw [ht]; exact hP, va_K.moved hW.alike hK, by rw [← hAe]; exact hD⟩⟩, hS.F ht⟩) hS.2.2 dX8_isPiece_17
    · have hR := (if_neg c_2).symm.trans hR
      refine lv_iconst (v := (1 : Int32)) hx hb dX8_isPiece_12 (by decide) ?_
      refine lv_goto (tgt := 17) hx hb dX8_isPiece_13 (by decide) ?_
      subst hR
      rw [hQ]
      exact W.zret (v := (1 : Int32)) hx hb hr rfl (fun t ht hW => ⟨⟨(1 : Int32), (), rfl, rfl, ⟨by rw [ht]; exact hP, va_K.moved hW.alike hK, by rw [← hAe]; exact hD⟩⟩, hS.F ht⟩) hS.2.2 dX8_isPiece_17

theorem isb0_Piece {σ : St} {x : Int32} (h : ¬ s_X8_isPiece σ x = 0) : 0 ≤ x.toInt ∧ x.toInt < (σ 811 0).toInt := by
  unfold s_X8_isPiece at h
  have e0 : (0 : Int32).toInt = 0 := by decide
  (repeat' split at h) <;> first | exact absurd rfl h | skip
  rename_i h1 h2
  simp only [Int32.lt_iff_toInt_lt, Int32.le_iff_toInt_le, e0] at h1 h2
  omega
theorem isx_Piece {σ : St} {x : Int32} (h : ¬ s_X8_isPiece σ x = 0) (hI : IX σ) : vp_in x 6 := by
  have a := isb0_Piece h
  have b := ix_811 hI
  rw [vp_in_iff]
  omega
theorem isb_Piece {σ : St} {x : Int32} (h : ¬ s_X8_isPiece σ x = 0) : x.toNatClampNeg < (σ 811 0).toNatClampNeg := by
  have a := isb0_Piece h
  rw [tn_toInt, tn_toInt]
  omega

def s_X8_isOwner (σ : St) (a1 : Int32) : Int32 := (if a1 < (0 : Int32) then (0 : Int32) else (if (σ 812 0) ≤ a1 then (0 : Int32) else (1 : Int32)))
set_option maxHeartbeats 1000000 in
set_option maxRecDepth 100000 in
theorem k_X8_isOwner (l : Launch) (D : va_G) (ca : Nat → ClassId) (h : Nat) (ad : Nat → Nat) (pa : Nat → Nat → Nat) (tb : Nat) (σ : St) (a1 : Int32) (sz : Nat) (hI : IX σ)  (R : Int32) (hR : s_X8_isOwner σ a1 = R) : Met l yX8_isOwner wsX8_isOwner ({ frames := 0, cells := 0, slots := 0, locals := 0 }) (va_Pc [.ref h, .int a1] (cw_pre D ca (WC ca h ad pa σ) sz tb)) (va_Qi (fun (r : Int32) (_ : Unit) => r = R) (fun (_ : Unit) (t : State) => pw_post D ca (WC ca h ad pa σ) sz (WC ca h ad pa σ) t) (va_A (WC ca h ad pa σ) sz)) 0 0 (va_A (WC ca h ad pa σ) sz) := by
  refine Met.ofW (cc := cX8_isOwner) (maxL := 2) (ret := (some .boolean)) (by decide) rfl ?_
  intro p e s m args below meth c s₁ B hml hv
  obtain ⟨rfl, ⟨hsz, hP, hK, hD0⟩, hZ⟩ := hv
  have hx := B.exec
  have hb := B.bytes
  have hr := B.returns
  have hts := atoms_spec (ws := wsX8_isOwner) B.pre
  have hown : s.vm.findClass RX8 = some m.cls := findClass_of_methodNamed B.named
  have hlocks := B.notSynchronized
  have hu8 : ∀ w ∈ u_ws RX8 TX8 19, w ∈ wsX8_isOwner := fun w h => List.mem_cons_of_mem _ (uw8 w h)
  subst hsz
  have hD := hD0.self (sz := s.heap.size)
  obtain ⟨A, hAe⟩ : ∃ A, A = va_A (WC ca h ad pa σ) s.heap.size := ⟨_, rfl⟩
  rw [← hAe] at hD hZ ⊢
  have hA : ∀ q : Nat, s.heap.size ≤ q → A q := fun q h => by rw [hAe]; exact Or.inr h
  have hS : va_S A s.heap s.heap [] := va_S.rf
  have hl := lv_entry ([.ref h, .int a1]) (n := 2) (Nat.le_of_ble_eq_true rfl)
  rw [lg_entry_eq]
  generalize (lg_sl ([.ref h, .int a1]) ++ List.replicate (2 - (lg_sl ([.ref h, .int a1])).length) Slot.unset).toArray = ls at hl ⊢
  have hl : lv_has ls 2 [(0, .ref h), (1, .int a1)] := hl
  obtain ⟨H, hH⟩ : ∃ H, H = s.heap := ⟨_, rfl⟩
  have hP : va_P D vwCl (WC ca h ad pa σ) H := by rw [hH]; exact hP
  have hS : va_S A s.heap H [] := by rw [hH]; exact hS
  obtain ⟨QQ, hQ⟩ : ∃ Q9, Q9 = MQ below (va_Qi (fun (r : Int32) (_ : Unit) => r = R) (fun (_ : Unit) (t : State) => pw_post D ca (WC ca h ad pa σ) s.heap.size (WC ca h ad pa σ) t) A) ([.ref h, .int a1] : List Value).toArray s 0 0 A := ⟨_, rfl⟩
  rw [← hQ]
  show W _ _ _ _ _ _ _ _ _ _ s.heap _ _ _ _ _
  rw [← hH]
  have hR : (if a1 < (0 : Int32) then (0 : Int32) else (if (σ 812 0) ≤ a1 then (0 : Int32) else (1 : Int32))) = R := hR
  refine lv_iload_n hx hb dX8_isOwner_0 rfl (lv_at hl 1 rfl) ?_
  refine lv_if_lt (tgt := 16) hx hb dX8_isOwner_1 (by decide) (fun c_1 => ?_) (fun c_1 => ?_)
  · have hR := (if_pos c_1).symm.trans hR
    refine lv_iconst (v := (0 : Int32)) hx hb dX8_isOwner_16 (by decide) ?_
    subst hR
    rw [hQ]
    exact W.zret (v := (0 : Int32)) hx hb hr rfl (fun t ht hW => ⟨⟨(0 : Int32), (), rfl, rfl, ⟨by rw [ht]; exact hP, va_K.moved hW.alike hK, by rw [← hAe]; exact hD⟩⟩, hS.F ht⟩) hS.2.2 dX8_isOwner_17
  · have hR := (if_neg c_1).symm.trans hR
    refine lv_iload_n hx hb dX8_isOwner_4 rfl (lv_at hl 1 rfl) ?_
    refine lv_aload_n hx hb dX8_isOwner_5 rfl (lv_at hl 0 rfl) ?_
    refine va_get (D := D) (ci := 8) (v := .int (σ 812 0)) (C := RX8) (T := TX8) (N := 19) hx hb hts hu8 hown hK hP 0 wc_0 rfl 12 (by decide) (hts (.fieldLink RX8 79 "GrazeBook" "ownerCount" "I") (List.mem_cons_of_mem _ mw_222)) (fun _ h9 => h9) rfl dX8_isOwner_6 ?_
    refine lv_icmp_ge (tgt := 16) hx hb dX8_isOwner_9 (by decide) (fun c_2 => ?_) (fun c_2 => ?_)
    · have hR := (if_pos c_2).symm.trans hR
      refine lv_iconst (v := (0 : Int32)) hx hb dX8_isOwner_16 (by decide) ?_
      subst hR
      rw [hQ]
      exact W.zret (v := (0 : Int32)) hx hb hr rfl (fun t ht hW => ⟨⟨(0 : Int32), (), rfl, rfl, ⟨by rw [ht]; exact hP, va_K.moved hW.alike hK, by rw [← hAe]; exact hD⟩⟩, hS.F ht⟩) hS.2.2 dX8_isOwner_17
    · have hR := (if_neg c_2).symm.trans hR
      refine lv_iconst (v := (1 : Int32)) hx hb dX8_isOwner_12 (by decide) ?_
      refine lv_goto (tgt := 17) hx hb dX8_isOwner_13 (by decide) ?_
      subst hR
      rw [hQ]
      exact W.zret (v := (1 : Int32)) hx hb hr rfl (fun t ht hW => ⟨⟨(1 : Int32), (), rfl, rfl, ⟨by rw [ht]; exact hP, va_K.moved hW.alike hK, by rw [← hAe]; exact hD⟩⟩, hS.F ht⟩) hS.2.2 dX8_isOwner_17

theorem isb0_Owner {σ : St} {x : Int32} (h : ¬ s_X8_isOwner σ x = 0) : 0 ≤ x.toInt ∧ x.toInt < (σ 812 0).toInt := by
  unfold s_X8_isOwner at h
  have e0 : (0 : Int32).toInt = 0 := by decide
  (repeat' split at h) <;> first | exact absurd rfl h | skip
  rename_i h1 h2
  simp only [Int32.lt_iff_toInt_lt, Int32.le_iff_toInt_le, e0] at h1 h2
  omega
theorem isx_Owner {σ : St} {x : Int32} (h : ¬ s_X8_isOwner σ x = 0) (hI : IX σ) : vp_in x 10 := by
  have a := isb0_Owner h
  have b := ix_812 hI
  rw [vp_in_iff]
  omega
theorem isb_Owner {σ : St} {x : Int32} (h : ¬ s_X8_isOwner σ x = 0) : x.toNatClampNeg < (σ 812 0).toNatClampNeg := by
  have a := isb0_Owner h
  rw [tn_toInt, tn_toInt]
  omega

def s_X8_isHouse (σ : St) (a1 : Int32) : Int32 := (if a1 < (0 : Int32) then (0 : Int32) else (if (σ 813 0) ≤ a1 then (0 : Int32) else (1 : Int32)))
set_option maxHeartbeats 1000000 in
set_option maxRecDepth 100000 in
theorem k_X8_isHouse (l : Launch) (D : va_G) (ca : Nat → ClassId) (h : Nat) (ad : Nat → Nat) (pa : Nat → Nat → Nat) (tb : Nat) (σ : St) (a1 : Int32) (sz : Nat) (hI : IX σ)  (R : Int32) (hR : s_X8_isHouse σ a1 = R) : Met l yX8_isHouse wsX8_isHouse ({ frames := 0, cells := 0, slots := 0, locals := 0 }) (va_Pc [.ref h, .int a1] (cw_pre D ca (WC ca h ad pa σ) sz tb)) (va_Qi (fun (r : Int32) (_ : Unit) => r = R) (fun (_ : Unit) (t : State) => pw_post D ca (WC ca h ad pa σ) sz (WC ca h ad pa σ) t) (va_A (WC ca h ad pa σ) sz)) 0 0 (va_A (WC ca h ad pa σ) sz) := by
  refine Met.ofW (cc := cX8_isHouse) (maxL := 2) (ret := (some .boolean)) (by decide) rfl ?_
  intro p e s m args below meth c s₁ B hml hv
  obtain ⟨rfl, ⟨hsz, hP, hK, hD0⟩, hZ⟩ := hv
  have hx := B.exec
  have hb := B.bytes
  have hr := B.returns
  have hts := atoms_spec (ws := wsX8_isHouse) B.pre
  have hown : s.vm.findClass RX8 = some m.cls := findClass_of_methodNamed B.named
  have hlocks := B.notSynchronized
  have hu8 : ∀ w ∈ u_ws RX8 TX8 19, w ∈ wsX8_isHouse := fun w h => List.mem_cons_of_mem _ (uw8 w h)
  subst hsz
  have hD := hD0.self (sz := s.heap.size)
  obtain ⟨A, hAe⟩ : ∃ A, A = va_A (WC ca h ad pa σ) s.heap.size := ⟨_, rfl⟩
  rw [← hAe] at hD hZ ⊢
  have hA : ∀ q : Nat, s.heap.size ≤ q → A q := fun q h => by rw [hAe]; exact Or.inr h
  have hS : va_S A s.heap s.heap [] := va_S.rf
  have hl := lv_entry ([.ref h, .int a1]) (n := 2) (Nat.le_of_ble_eq_true rfl)
  rw [lg_entry_eq]
  generalize (lg_sl ([.ref h, .int a1]) ++ List.replicate (2 - (lg_sl ([.ref h, .int a1])).length) Slot.unset).toArray = ls at hl ⊢
  have hl : lv_has ls 2 [(0, .ref h), (1, .int a1)] := hl
  obtain ⟨H, hH⟩ : ∃ H, H = s.heap := ⟨_, rfl⟩
  have hP : va_P D vwCl (WC ca h ad pa σ) H := by rw [hH]; exact hP
  have hS : va_S A s.heap H [] := by rw [hH]; exact hS
  obtain ⟨QQ, hQ⟩ : ∃ Q9, Q9 = MQ below (va_Qi (fun (r : Int32) (_ : Unit) => r = R) (fun (_ : Unit) (t : State) => pw_post D ca (WC ca h ad pa σ) s.heap.size (WC ca h ad pa σ) t) A) ([.ref h, .int a1] : List Value).toArray s 0 0 A := ⟨_, rfl⟩
  rw [← hQ]
  show W _ _ _ _ _ _ _ _ _ _ s.heap _ _ _ _ _
  rw [← hH]
  have hR : (if a1 < (0 : Int32) then (0 : Int32) else (if (σ 813 0) ≤ a1 then (0 : Int32) else (1 : Int32))) = R := hR
  refine lv_iload_n hx hb dX8_isHouse_0 rfl (lv_at hl 1 rfl) ?_
  refine lv_if_lt (tgt := 16) hx hb dX8_isHouse_1 (by decide) (fun c_1 => ?_) (fun c_1 => ?_)
  · have hR := (if_pos c_1).symm.trans hR
    refine lv_iconst (v := (0 : Int32)) hx hb dX8_isHouse_16 (by decide) ?_
    subst hR
    rw [hQ]
    exact W.zret (v := (0 : Int32)) hx hb hr rfl (fun t ht hW => ⟨⟨(0 : Int32), (), rfl, rfl, ⟨by rw [ht]; exact hP, va_K.moved hW.alike hK, by rw [← hAe]; exact hD⟩⟩, hS.F ht⟩) hS.2.2 dX8_isHouse_17
  · have hR := (if_neg c_1).symm.trans hR
    refine lv_iload_n hx hb dX8_isHouse_4 rfl (lv_at hl 1 rfl) ?_
    refine lv_aload_n hx hb dX8_isHouse_5 rfl (lv_at hl 0 rfl) ?_
    refine va_get (D := D) (ci := 8) (v := .int (σ 813 0)) (C := RX8) (T := TX8) (N := 19) hx hb hts hu8 hown hK hP 0 wc_0 rfl 13 (by decide) (hts (.fieldLink RX8 82 "GrazeBook" "houseCount" "I") (List.mem_cons_of_mem _ mw_223)) (fun _ h9 => h9) rfl dX8_isHouse_6 ?_
    refine lv_icmp_ge (tgt := 16) hx hb dX8_isHouse_9 (by decide) (fun c_2 => ?_) (fun c_2 => ?_)
    · have hR := (if_pos c_2).symm.trans hR
      refine lv_iconst (v := (0 : Int32)) hx hb dX8_isHouse_16 (by decide) ?_
      subst hR
      rw [hQ]
      exact W.zret (v := (0 : Int32)) hx hb hr rfl (fun t ht hW => ⟨⟨(0 : Int32), (), rfl, rfl, ⟨by rw [ht]; exact hP, va_K.moved hW.alike hK, by rw [← hAe]; exact hD⟩⟩, hS.F ht⟩) hS.2.2 dX8_isHouse_17
    · have hR := (if_neg c_2).symm.trans hR
      refine lv_iconst (v := (1 : Int32)) hx hb dX8_isHouse_12 (by decide) ?_
      refine lv_goto (tgt := 17) hx hb dX8_isHouse_13 (by decide) ?_
      subst hR
      rw [hQ]
      exact W.zret (v := (1 : Int32)) hx hb hr rfl (fun t ht hW => ⟨⟨(1 : Int32), (), rfl, rfl, ⟨by rw [ht]; exact hP, va_K.moved hW.alike hK, by rw [← hAe]; exact hD⟩⟩, hS.F ht⟩) hS.2.2 dX8_isHouse_17

theorem isb0_House {σ : St} {x : Int32} (h : ¬ s_X8_isHouse σ x = 0) : 0 ≤ x.toInt ∧ x.toInt < (σ 813 0).toInt := by
  unfold s_X8_isHouse at h
  have e0 : (0 : Int32).toInt = 0 := by decide
  (repeat' split at h) <;> first | exact absurd rfl h | skip
  rename_i h1 h2
  simp only [Int32.lt_iff_toInt_lt, Int32.le_iff_toInt_le, e0] at h1 h2
  omega
theorem isx_House {σ : St} {x : Int32} (h : ¬ s_X8_isHouse σ x = 0) (hI : IX σ) : vp_in x 10 := by
  have a := isb0_House h
  have b := ix_813 hI
  rw [vp_in_iff]
  omega
theorem isb_House {σ : St} {x : Int32} (h : ¬ s_X8_isHouse σ x = 0) : x.toNatClampNeg < (σ 813 0).toNatClampNeg := by
  have a := isb0_House h
  rw [tn_toInt, tn_toInt]
  omega

def s_X8_isRight (σ : St) (a1 : Int32) : Int32 := (if a1 < (0 : Int32) then (0 : Int32) else (if (σ 814 0) ≤ a1 then (0 : Int32) else (1 : Int32)))
set_option maxHeartbeats 1000000 in
set_option maxRecDepth 100000 in
theorem k_X8_isRight (l : Launch) (D : va_G) (ca : Nat → ClassId) (h : Nat) (ad : Nat → Nat) (pa : Nat → Nat → Nat) (tb : Nat) (σ : St) (a1 : Int32) (sz : Nat) (hI : IX σ)  (R : Int32) (hR : s_X8_isRight σ a1 = R) : Met l yX8_isRight wsX8_isRight ({ frames := 0, cells := 0, slots := 0, locals := 0 }) (va_Pc [.ref h, .int a1] (cw_pre D ca (WC ca h ad pa σ) sz tb)) (va_Qi (fun (r : Int32) (_ : Unit) => r = R) (fun (_ : Unit) (t : State) => pw_post D ca (WC ca h ad pa σ) sz (WC ca h ad pa σ) t) (va_A (WC ca h ad pa σ) sz)) 0 0 (va_A (WC ca h ad pa σ) sz) := by
  refine Met.ofW (cc := cX8_isRight) (maxL := 2) (ret := (some .boolean)) (by decide) rfl ?_
  intro p e s m args below meth c s₁ B hml hv
  obtain ⟨rfl, ⟨hsz, hP, hK, hD0⟩, hZ⟩ := hv
  have hx := B.exec
  have hb := B.bytes
  have hr := B.returns
  have hts := atoms_spec (ws := wsX8_isRight) B.pre
  have hown : s.vm.findClass RX8 = some m.cls := findClass_of_methodNamed B.named
  have hlocks := B.notSynchronized
  have hu8 : ∀ w ∈ u_ws RX8 TX8 19, w ∈ wsX8_isRight := fun w h => List.mem_cons_of_mem _ (uw8 w h)
  subst hsz
  have hD := hD0.self (sz := s.heap.size)
  obtain ⟨A, hAe⟩ : ∃ A, A = va_A (WC ca h ad pa σ) s.heap.size := ⟨_, rfl⟩
  rw [← hAe] at hD hZ ⊢
  have hA : ∀ q : Nat, s.heap.size ≤ q → A q := fun q h => by rw [hAe]; exact Or.inr h
  have hS : va_S A s.heap s.heap [] := va_S.rf
  have hl := lv_entry ([.ref h, .int a1]) (n := 2) (Nat.le_of_ble_eq_true rfl)
  rw [lg_entry_eq]
  generalize (lg_sl ([.ref h, .int a1]) ++ List.replicate (2 - (lg_sl ([.ref h, .int a1])).length) Slot.unset).toArray = ls at hl ⊢
  have hl : lv_has ls 2 [(0, .ref h), (1, .int a1)] := hl
  obtain ⟨H, hH⟩ : ∃ H, H = s.heap := ⟨_, rfl⟩
  have hP : va_P D vwCl (WC ca h ad pa σ) H := by rw [hH]; exact hP
  have hS : va_S A s.heap H [] := by rw [hH]; exact hS
  obtain ⟨QQ, hQ⟩ : ∃ Q9, Q9 = MQ below (va_Qi (fun (r : Int32) (_ : Unit) => r = R) (fun (_ : Unit) (t : State) => pw_post D ca (WC ca h ad pa σ) s.heap.size (WC ca h ad pa σ) t) A) ([.ref h, .int a1] : List Value).toArray s 0 0 A := ⟨_, rfl⟩
  rw [← hQ]
  show W _ _ _ _ _ _ _ _ _ _ s.heap _ _ _ _ _
  rw [← hH]
  have hR : (if a1 < (0 : Int32) then (0 : Int32) else (if (σ 814 0) ≤ a1 then (0 : Int32) else (1 : Int32))) = R := hR
  refine lv_iload_n hx hb dX8_isRight_0 rfl (lv_at hl 1 rfl) ?_
  refine lv_if_lt (tgt := 16) hx hb dX8_isRight_1 (by decide) (fun c_1 => ?_) (fun c_1 => ?_)
  · have hR := (if_pos c_1).symm.trans hR
    refine lv_iconst (v := (0 : Int32)) hx hb dX8_isRight_16 (by decide) ?_
    subst hR
    rw [hQ]
    exact W.zret (v := (0 : Int32)) hx hb hr rfl (fun t ht hW => ⟨⟨(0 : Int32), (), rfl, rfl, ⟨by rw [ht]; exact hP, va_K.moved hW.alike hK, by rw [← hAe]; exact hD⟩⟩, hS.F ht⟩) hS.2.2 dX8_isRight_17
  · have hR := (if_neg c_1).symm.trans hR
    refine lv_iload_n hx hb dX8_isRight_4 rfl (lv_at hl 1 rfl) ?_
    refine lv_aload_n hx hb dX8_isRight_5 rfl (lv_at hl 0 rfl) ?_
    refine va_get (D := D) (ci := 8) (v := .int (σ 814 0)) (C := RX8) (T := TX8) (N := 19) hx hb hts hu8 hown hK hP 0 wc_0 rfl 14 (by decide) (hts (.fieldLink RX8 85 "GrazeBook" "rightCount" "I") (List.mem_cons_of_mem _ mw_224)) (fun _ h9 => h9) rfl dX8_isRight_6 ?_
    refine lv_icmp_ge (tgt := 16) hx hb dX8_isRight_9 (by decide) (fun c_2 => ?_) (fun c_2 => ?_)
    · have hR := (if_pos c_2).symm.trans hR
      refine lv_iconst (v := (0 : Int32)) hx hb dX8_isRight_16 (by decide) ?_
      subst hR
      rw [hQ]
      exact W.zret (v := (0 : Int32)) hx hb hr rfl (fun t ht hW => ⟨⟨(0 : Int32), (), rfl, rfl, ⟨by rw [ht]; exact hP, va_K.moved hW.alike hK, by rw [← hAe]; exact hD⟩⟩, hS.F ht⟩) hS.2.2 dX8_isRight_17
    · have hR := (if_neg c_2).symm.trans hR
      refine lv_iconst (v := (1 : Int32)) hx hb dX8_isRight_12 (by decide) ?_
      refine lv_goto (tgt := 17) hx hb dX8_isRight_13 (by decide) ?_
      subst hR
      rw [hQ]
      exact W.zret (v := (1 : Int32)) hx hb hr rfl (fun t ht hW => ⟨⟨(1 : Int32), (), rfl, rfl, ⟨by rw [ht]; exact hP, va_K.moved hW.alike hK, by rw [← hAe]; exact hD⟩⟩, hS.F ht⟩) hS.2.2 dX8_isRight_17

theorem isb0_Right {σ : St} {x : Int32} (h : ¬ s_X8_isRight σ x = 0) : 0 ≤ x.toInt ∧ x.toInt < (σ 814 0).toInt := by
  unfold s_X8_isRight at h
  have e0 : (0 : Int32).toInt = 0 := by decide
  (repeat' split at h) <;> first | exact absurd rfl h | skip
  rename_i h1 h2
  simp only [Int32.lt_iff_toInt_lt, Int32.le_iff_toInt_le, e0] at h1 h2
  omega
theorem isx_Right {σ : St} {x : Int32} (h : ¬ s_X8_isRight σ x = 0) (hI : IX σ) : vp_in x 60 := by
  have a := isb0_Right h
  have b := ix_814 hI
  rw [vp_in_iff]
  omega
theorem isb_Right {σ : St} {x : Int32} (h : ¬ s_X8_isRight σ x = 0) : x.toNatClampNeg < (σ 814 0).toNatClampNeg := by
  have a := isb0_Right h
  rw [tn_toInt, tn_toInt]
  omega

def s_X8_isHerd (σ : St) (a1 : Int32) : Int32 := (if a1 < (0 : Int32) then (0 : Int32) else (if (σ 815 0) ≤ a1 then (0 : Int32) else (1 : Int32)))
set_option maxHeartbeats 1000000 in
set_option maxRecDepth 100000 in
theorem k_X8_isHerd (l : Launch) (D : va_G) (ca : Nat → ClassId) (h : Nat) (ad : Nat → Nat) (pa : Nat → Nat → Nat) (tb : Nat) (σ : St) (a1 : Int32) (sz : Nat) (hI : IX σ)  (R : Int32) (hR : s_X8_isHerd σ a1 = R) : Met l yX8_isHerd wsX8_isHerd ({ frames := 0, cells := 0, slots := 0, locals := 0 }) (va_Pc [.ref h, .int a1] (cw_pre D ca (WC ca h ad pa σ) sz tb)) (va_Qi (fun (r : Int32) (_ : Unit) => r = R) (fun (_ : Unit) (t : State) => pw_post D ca (WC ca h ad pa σ) sz (WC ca h ad pa σ) t) (va_A (WC ca h ad pa σ) sz)) 0 0 (va_A (WC ca h ad pa σ) sz) := by
  refine Met.ofW (cc := cX8_isHerd) (maxL := 2) (ret := (some .boolean)) (by decide) rfl ?_
  intro p e s m args below meth c s₁ B hml hv
  obtain ⟨rfl, ⟨hsz, hP, hK, hD0⟩, hZ⟩ := hv
  have hx := B.exec
  have hb := B.bytes
  have hr := B.returns
  have hts := atoms_spec (ws := wsX8_isHerd) B.pre
  have hown : s.vm.findClass RX8 = some m.cls := findClass_of_methodNamed B.named
  have hlocks := B.notSynchronized
  have hu8 : ∀ w ∈ u_ws RX8 TX8 19, w ∈ wsX8_isHerd := fun w h => List.mem_cons_of_mem _ (uw8 w h)
  subst hsz
  have hD := hD0.self (sz := s.heap.size)
  obtain ⟨A, hAe⟩ : ∃ A, A = va_A (WC ca h ad pa σ) s.heap.size := ⟨_, rfl⟩
  rw [← hAe] at hD hZ ⊢
  have hA : ∀ q : Nat, s.heap.size ≤ q → A q := fun q h => by rw [hAe]; exact Or.inr h
  have hS : va_S A s.heap s.heap [] := va_S.rf
  have hl := lv_entry ([.ref h, .int a1]) (n := 2) (Nat.le_of_ble_eq_true rfl)
  rw [lg_entry_eq]
  generalize (lg_sl ([.ref h, .int a1]) ++ List.replicate (2 - (lg_sl ([.ref h, .int a1])).length) Slot.unset).toArray = ls at hl ⊢
  have hl : lv_has ls 2 [(0, .ref h), (1, .int a1)] := hl
  obtain ⟨H, hH⟩ : ∃ H, H = s.heap := ⟨_, rfl⟩
  have hP : va_P D vwCl (WC ca h ad pa σ) H := by rw [hH]; exact hP
  have hS : va_S A s.heap H [] := by rw [hH]; exact hS
  obtain ⟨QQ, hQ⟩ : ∃ Q9, Q9 = MQ below (va_Qi (fun (r : Int32) (_ : Unit) => r = R) (fun (_ : Unit) (t : State) => pw_post D ca (WC ca h ad pa σ) s.heap.size (WC ca h ad pa σ) t) A) ([.ref h, .int a1] : List Value).toArray s 0 0 A := ⟨_, rfl⟩
  rw [← hQ]
  show W _ _ _ _ _ _ _ _ _ _ s.heap _ _ _ _ _
  rw [← hH]
  have hR : (if a1 < (0 : Int32) then (0 : Int32) else (if (σ 815 0) ≤ a1 then (0 : Int32) else (1 : Int32))) = R := hR
  refine lv_iload_n hx hb dX8_isHerd_0 rfl (lv_at hl 1 rfl) ?_
  refine lv_if_lt (tgt := 16) hx hb dX8_isHerd_1 (by decide) (fun c_1 => ?_) (fun c_1 => ?_)
  · have hR := (if_pos c_1).symm.trans hR
    refine lv_iconst (v := (0 : Int32)) hx hb dX8_isHerd_16 (by decide) ?_
    subst hR
    rw [hQ]
    exact W.zret (v := (0 : Int32)) hx hb hr rfl (fun t ht hW => ⟨⟨(0 : Int32), (), rfl, rfl, ⟨by rw [ht]; exact hP, va_K.moved hW.alike hK, by rw [← hAe]; exact hD⟩⟩, hS.F ht⟩) hS.2.2 dX8_isHerd_17
  · have hR := (if_neg c_1).symm.trans hR
    refine lv_iload_n hx hb dX8_isHerd_4 rfl (lv_at hl 1 rfl) ?_
    refine lv_aload_n hx hb dX8_isHerd_5 rfl (lv_at hl 0 rfl) ?_
    refine va_get (D := D) (ci := 8) (v := .int (σ 815 0)) (C := RX8) (T := TX8) (N := 19) hx hb hts hu8 hown hK hP 0 wc_0 rfl 15 (by decide) (hts (.fieldLink RX8 88 "GrazeBook" "herdCount" "I") (List.mem_cons_of_mem _ mw_225)) (fun _ h9 => h9) rfl dX8_isHerd_6 ?_
    refine lv_icmp_ge (tgt := 16) hx hb dX8_isHerd_9 (by decide) (fun c_2 => ?_) (fun c_2 => ?_)
    · have hR := (if_pos c_2).symm.trans hR
      refine lv_iconst (v := (0 : Int32)) hx hb dX8_isHerd_16 (by decide) ?_
      subst hR
      rw [hQ]
      exact W.zret (v := (0 : Int32)) hx hb hr rfl (fun t ht hW => ⟨⟨(0 : Int32), (), rfl, rfl, ⟨by rw [ht]; exact hP, va_K.moved hW.alike hK, by rw [← hAe]; exact hD⟩⟩, hS.F ht⟩) hS.2.2 dX8_isHerd_17
    · have hR := (if_neg c_2).symm.trans hR
      refine lv_iconst (v := (1 : Int32)) hx hb dX8_isHerd_12 (by decide) ?_
      refine lv_goto (tgt := 17) hx hb dX8_isHerd_13 (by decide) ?_
      subst hR
      rw [hQ]
      exact W.zret (v := (1 : Int32)) hx hb hr rfl (fun t ht hW => ⟨⟨(1 : Int32), (), rfl, rfl, ⟨by rw [ht]; exact hP, va_K.moved hW.alike hK, by rw [← hAe]; exact hD⟩⟩, hS.F ht⟩) hS.2.2 dX8_isHerd_17

theorem isb0_Herd {σ : St} {x : Int32} (h : ¬ s_X8_isHerd σ x = 0) : 0 ≤ x.toInt ∧ x.toInt < (σ 815 0).toInt := by
  unfold s_X8_isHerd at h
  have e0 : (0 : Int32).toInt = 0 := by decide
  (repeat' split at h) <;> first | exact absurd rfl h | skip
  rename_i h1 h2
  simp only [Int32.lt_iff_toInt_lt, Int32.le_iff_toInt_le, e0] at h1 h2
  omega
theorem isx_Herd {σ : St} {x : Int32} (h : ¬ s_X8_isHerd σ x = 0) (hI : IX σ) : vp_in x 20 := by
  have a := isb0_Herd h
  have b := ix_815 hI
  rw [vp_in_iff]
  omega
theorem isb_Herd {σ : St} {x : Int32} (h : ¬ s_X8_isHerd σ x = 0) : x.toNatClampNeg < (σ 815 0).toNatClampNeg := by
  have a := isb0_Herd h
  rw [tn_toInt, tn_toInt]
  omega

def s_X8_refuse (σ : St) (a1 : Int32) : Int32 × St := (if (0 : Int32) ≤ a1 then (a1, σ) else (if a1 < (-6 : Int32) then (a1, σ) else (a1, (put σ 810 ((-a1).toNatClampNeg) ((σ 810 ((-a1).toNatClampNeg)) + (1 : Int32))))))
theorem fr_s_X8_refuse (σ : St) (a1 : Int32) {f : Nat} (h810 : f ≠ 810) : (s_X8_refuse σ a1 ).2 f = σ f := by
  unfold s_X8_refuse
  all_goals ((try dsimp only) <;> ((repeat' split) <;> (try simp only [put_fr, ne_eq, not_false_eq_true, h810])))
set_option maxHeartbeats 1000000 in
set_option maxRecDepth 100000 in
theorem k_X8_refuse (l : Launch) (D : va_G) (ca : Nat → ClassId) (h : Nat) (ad : Nat → Nat) (pa : Nat → Nat → Nat) (tb : Nat) (σ : St) (a1 : Int32) (sz : Nat) (hI : IX σ)  (R1 : Int32) (R2 : St) (hR : s_X8_refuse σ a1 = (R1, R2)) : Met l yX8_refuse wsX8_refuse ({ frames := 0, cells := 0, slots := 0, locals := 0 }) (va_Pc [.ref h, .int a1] (cw_pre D ca (WC ca h ad pa σ) sz tb)) (va_Qi (fun (r : Int32) (_ : Unit) => r = R1) (fun (_ : Unit) (t : State) => pw_post D ca (WC ca h ad pa σ) sz (WC ca h ad pa R2) t ∧ IX R2) (va_A (WC ca h ad pa σ) sz)) 0 0 (va_A (WC ca h ad pa σ) sz) := by
  refine Met.ofW (cc := cX8_refuse) (maxL := 2) (ret := (some .int)) (by decide) rfl ?_
  intro p e s m args below meth c s₁ B hml hv
  obtain ⟨rfl, ⟨hsz, hP, hK, hD0⟩, hZ⟩ := hv
  have hx := B.exec
  have hb := B.bytes
  have hr := B.returns
  have hts := atoms_spec (ws := wsX8_refuse) B.pre
  have hown : s.vm.findClass RX8 = some m.cls := findClass_of_methodNamed B.named
  have hlocks := B.notSynchronized
  have hu8 : ∀ w ∈ u_ws RX8 TX8 19, w ∈ wsX8_refuse := fun w h => List.mem_cons_of_mem _ (uw8 w h)
  subst hsz
  have hD := hD0.self (sz := s.heap.size)
  obtain ⟨A, hAe⟩ : ∃ A, A = va_A (WC ca h ad pa σ) s.heap.size := ⟨_, rfl⟩
  rw [← hAe] at hD hZ ⊢
  have hA : ∀ q : Nat, s.heap.size ≤ q → A q := fun q h => by rw [hAe]; exact Or.inr h
  have hS : va_S A s.heap s.heap [] := va_S.rf
  have hl := lv_entry ([.ref h, .int a1]) (n := 2) (Nat.le_of_ble_eq_true rfl)
  rw [lg_entry_eq]
  generalize (lg_sl ([.ref h, .int a1]) ++ List.replicate (2 - (lg_sl ([.ref h, .int a1])).length) Slot.unset).toArray = ls at hl ⊢
  have hl : lv_has ls 2 [(0, .ref h), (1, .int a1)] := hl
  obtain ⟨H, hH⟩ : ∃ H, H = s.heap := ⟨_, rfl⟩
  have hP : va_P D vwCl (WC ca h ad pa σ) H := by rw [hH]; exact hP
  have hS : va_S A s.heap H [] := by rw [hH]; exact hS
  obtain ⟨QQ, hQ⟩ : ∃ Q9, Q9 = MQ below (va_Qi (fun (r : Int32) (_ : Unit) => r = R1) (fun (_ : Unit) (t : State) => pw_post D ca (WC ca h ad pa σ) s.heap.size (WC ca h ad pa R2) t ∧ IX R2) A) ([.ref h, .int a1] : List Value).toArray s 0 0 A := ⟨_, rfl⟩
  rw [← hQ]
  show W _ _ _ _ _ _ _ _ _ _ s.heap _ _ _ _ _
  rw [← hH]
  have hR : (if (0 : Int32) ≤ a1 then (a1, σ) else (if a1 < (-6 : Int32) then (a1, σ) else (a1, (put σ 810 ((-a1).toNatClampNeg) ((σ 810 ((-a1).toNatClampNeg)) + (1 : Int32)))))) = (R1, R2) := hR
  refine lv_iload_n hx hb dX8_refuse_0 rfl (lv_at hl 1 rfl) ?_
  refine lv_if_ge (tgt := 21) hx hb dX8_refuse_1 (by decide) (fun c_1 => ?_) (fun c_1 => ?_)
  · have hR := (if_pos c_1).symm.trans hR
    refine lv_iload_n hx hb dX8_refuse_21 rfl (lv_at hl 1 rfl) ?_
    have hI9 : IX σ := hI
    obtain ⟨rfl, rfl⟩ := Prod.mk.inj (show (a1, σ) = (R1, R2) from hR)
    rw [hQ]
    exact W.iret (v := a1) hx hb hr (fun t ht hW => ⟨⟨a1, (), rfl, rfl, ⟨by rw [ht]; exact hP, va_K.moved hW.alike hK, by rw [← hAe]; exact hD⟩, hI9⟩, hS.F ht⟩) hS.2.2 dX8_refuse_22
  · have hR := (if_neg c_1).symm.trans hR
    refine lv_iload_n hx hb dX8_refuse_4 rfl (lv_at hl 1 rfl) ?_
    refine lv_bipush (v := (-6 : Int32)) hx hb dX8_refuse_5 (by decide) ?_
    refine lv_icmp_lt (tgt := 21) hx hb dX8_refuse_7 (by decide) (fun c_2 => ?_) (fun c_2 => ?_)
    · have hR := (if_pos c_2).symm.trans hR
      refine lv_iload_n hx hb dX8_refuse_21 rfl (lv_at hl 1 rfl) ?_
      have hI9 : IX σ := hI
      obtain ⟨rfl, rfl⟩ := Prod.mk.inj (show (a1, σ) = (R1, R2) from hR)
      rw [hQ]
      exact W.iret (v := a1) hx hb hr (fun t ht hW => ⟨⟨a1, (), rfl, rfl, ⟨by rw [ht]; exact hP, va_K.moved hW.alike hK, by rw [← hAe]; exact hD⟩, hI9⟩, hS.F ht⟩) hS.2.2 dX8_refuse_22
    · have hR := (if_neg c_2).symm.trans hR
      refine lv_aload_n hx hb dX8_refuse_10 rfl (lv_at hl 0 rfl) ?_
      refine va_get (D := D) (ci := 8) (v := .ref (ad 810)) (C := RX8) (T := TX8) (N := 19) hx hb hts hu8 hown hK hP 0 wc_0 rfl 10 (by decide) (hts (.fieldLink RX8 72 "GrazeBook" "refusals" "[I") (List.mem_cons_of_mem _ mw_220)) (fun _ h9 => h9) rfl dX8_refuse_11 ?_
      refine lv_iload_n hx hb dX8_refuse_14 rfl (lv_at hl 1 rfl) ?_
      refine lv_ineg hx hb dX8_refuse_15 ?_
      refine lv_dup2_11 hx hb dX8_refuse_16 rfl rfl ?_
      refine va_iald_k (k := ((-a1).toNatClampNeg)) (v := (σ 810 ((-a1).toNatClampNeg))) hx hb hK hP 11 0 wc_11 rfl rfl rfl (ix_neg (lt_of_not_le0 c_1) (not_lt0 c_2)) dX8_refuse_17 ?_
      refine lv_iconst (v := (1 : Int32)) hx hb dX8_refuse_18 (by decide) ?_
      refine lv_iadd hx hb dX8_refuse_19 ?_
      refine va_iast_k (k := ((-a1).toNatClampNeg)) hx hb hK hP hD hS 11 0 wc_11 rfl rfl (ix_neg (lt_of_not_le0 c_1) (not_lt0 c_2)) dX8_refuse_20 (fun H locs hP hD hS => ?_)
      rw [wc_s810] at hP hD
      refine lv_iload_n hx hb dX8_refuse_21 rfl (lv_at hl 1 rfl) ?_
      have hI9 : IX (put σ 810 ((-a1).toNatClampNeg) ((σ 810 ((-a1).toNatClampNeg)) + (1 : Int32))) := hI
      obtain ⟨rfl, rfl⟩ := Prod.mk.inj (show (a1, (put σ 810 ((-a1).toNatClampNeg) ((σ 810 ((-a1).toNatClampNeg)) + (1 : Int32)))) = (R1, R2) from hR)
      rw [hQ]
      exact W.iret (v := a1) hx hb hr (fun t ht hW => ⟨⟨a1, (), rfl, rfl, ⟨by rw [ht]; exact hP, va_K.moved hW.alike hK, by rw [← hAe]; exact hD⟩, hI9⟩, hS.F ht⟩) hS.2.2 dX8_refuse_22

def s_X8_holder (σ : St) (i : Nat) : Int32 := (if (σ 0 i) = (1 : Int32) then (if (s_X8_isHouse σ (σ 6 i)) = (0 : Int32) then (-9 : Int32) else (σ 803 ((σ 6 i).toNatClampNeg))) else (σ 6 i))
set_option maxHeartbeats 1000000 in
set_option maxRecDepth 100000 in
theorem k_X8_holder (l : Launch) (D : va_G) (ca : Nat → ClassId) (h : Nat) (ad : Nat → Nat) (pa : Nat → Nat → Nat) (tb : Nat) (σ : St) (i : Nat) (sz : Nat) (hI : IX σ) (hi : i < (σ 814 0).toNatClampNeg) (R : Int32) (hR : s_X8_holder σ i = R) : Met l yX8_holder wsX8_holder ({ frames := 1, cells := 0, slots := 0, locals := 21 }) (va_Pc [.ref h, .ref (pa 2 i)] (cw_pre D ca (WC ca h ad pa σ) sz tb)) (va_Qi (fun (r : Int32) (_ : Unit) => r = R) (fun (_ : Unit) (t : State) => pw_post D ca (WC ca h ad pa σ) sz (WC ca h ad pa σ) t) (va_A (WC ca h ad pa σ) sz)) 0 0 (va_A (WC ca h ad pa σ) sz) := by
  refine Met.ofW (cc := cX8_holder) (maxL := 2) (ret := (some .int)) (by decide) rfl ?_
  intro p e s m args below meth c s₁ B hml hv
  obtain ⟨rfl, ⟨hsz, hP, hK, hD0⟩, hZ⟩ := hv
  have hx := B.exec
  have hb := B.bytes
  have hr := B.returns
  have hts := atoms_spec (ws := wsX8_holder) B.pre
  have hown : s.vm.findClass RX8 = some m.cls := findClass_of_methodNamed B.named
  have hlocks := B.notSynchronized
  have hu0 : ∀ w ∈ u_ws RX0 TX0 9, w ∈ wsX8_holder := fun w h => List.mem_cons_of_mem _ (uw0 w h)
  have hu8 : ∀ w ∈ u_ws RX8 TX8 19, w ∈ wsX8_holder := fun w h => List.mem_cons_of_mem _ (uw8 w h)
  subst hsz
  have hD := hD0.self (sz := s.heap.size)
  obtain ⟨A, hAe⟩ : ∃ A, A = va_A (WC ca h ad pa σ) s.heap.size := ⟨_, rfl⟩
  rw [← hAe] at hD hZ ⊢
  have hA : ∀ q : Nat, s.heap.size ≤ q → A q := fun q h => by rw [hAe]; exact Or.inr h
  have hS : va_S A s.heap s.heap [] := va_S.rf
  have hl := lv_entry ([.ref h, .ref (pa 2 i)]) (n := 2) (Nat.le_of_ble_eq_true rfl)
  rw [lg_entry_eq]
  generalize (lg_sl ([.ref h, .ref (pa 2 i)]) ++ List.replicate (2 - (lg_sl ([.ref h, .ref (pa 2 i)])).length) Slot.unset).toArray = ls at hl ⊢
  have hl : lv_has ls 2 [(0, .ref h), (1, .ref (pa 2 i))] := hl
  obtain ⟨H, hH⟩ : ∃ H, H = s.heap := ⟨_, rfl⟩
  have hP : va_P D vwCl (WC ca h ad pa σ) H := by rw [hH]; exact hP
  have hS : va_S A s.heap H [] := by rw [hH]; exact hS
  obtain ⟨QQ, hQ⟩ : ∃ Q9, Q9 = MQ below (va_Qi (fun (r : Int32) (_ : Unit) => r = R) (fun (_ : Unit) (t : State) => pw_post D ca (WC ca h ad pa σ) s.heap.size (WC ca h ad pa σ) t) A) ([.ref h, .ref (pa 2 i)] : List Value).toArray s 0 0 A := ⟨_, rfl⟩
  rw [← hQ]
  show W _ _ _ _ _ _ _ _ _ _ s.heap _ _ _ _ _
  rw [← hH]
  have hR : (if (σ 0 i) = (1 : Int32) then (if (s_X8_isHouse σ (σ 6 i)) = (0 : Int32) then (-9 : Int32) else (σ 803 ((σ 6 i).toNatClampNeg))) else (σ 6 i)) = R := hR
  refine lv_aload_n hx hb dX8_holder_0 rfl (lv_at hl 1 rfl) ?_
  refine va_get (D := D) (ci := 0) (v := .int (σ 0 i)) (C := RX0) (T := TX0) (N := 9) hx hb hts hu0 hown hK hP (pcC ca h ad pa σ i) (wc_aC hi) rfl 0 (by decide) (hts (.fieldLink RX8 140 "GrazeBook$Claim" "kind" "I") (List.mem_cons_of_mem _ mw_359)) (fun _ h9 => h9) rfl dX8_holder_1 ?_
  refine lv_iconst (v := (1 : Int32)) hx hb dX8_holder_4 (by decide) ?_
  refine lv_icmp_eq (tgt := 13) hx hb dX8_holder_5 (by decide) (fun c_1 => ?_) (fun c_1 => ?_)
  · have hR := (if_pos c_1).symm.trans hR
    refine lv_aload_n hx hb dX8_holder_13 rfl (lv_at hl 0 rfl) ?_
    refine lv_aload_n hx hb dX8_holder_14 rfl (lv_at hl 1 rfl) ?_
    refine va_get (D := D) (ci := 0) (v := .int (σ 6 i)) (C := RX0) (T := TX0) (N := 9) hx hb hts hu0 hown hK hP (pcC ca h ad pa σ i) (wc_aC hi) rfl 6 (by decide) (hts (.fieldLink RX8 152 "GrazeBook$Claim" "who" "I") (List.mem_cons_of_mem _ mw_371)) (fun _ h9 => h9) rfl dX8_holder_15 ?_
    have hF := pw_free hD hS hA
    refine va_calli (va_runV (As := [.int (σ 6 i)]) (rest := []) ⟨hx, hb, hml, hown, hts⟩ (k_X8_isHouse l D ca h ad pa tb σ (σ 6 i) H.size hI _ rfl) (cwV 1 hts gX8_holder_X8_isHouse rfl rfl rfl (by decide +kernel) ⟨Nat.le_of_ble_eq_true rfl, Nat.le_of_ble_eq_true rfl⟩) ⟨cw_blind, va_recv hK hP (ci := 8) (q0 := 0) rfl wc_0, cw_give hP hK hD hZ hS hF⟩ rfl rfl hl.1 rfl (lv_room (Nat.le_of_ble_eq_true rfl)) dX8_holder_18 ⟨Nat.le_of_ble_eq_true rfl, Nat.le_of_ble_eq_true rfl⟩) hS (fun q _ h => hF q h) hF (fun r_2 u t H1 locs ht hvm hw hB hz1 hk1 hS => ?_)
    rw [hw]
    obtain ⟨hP, hD⟩ := pw_back hF ht hB
    clear hB hk1 hz1 hF
    generalize H1 = H at hP hS ⊢
    refine lv_if_eq (tgt := 36) hx hb dX8_holder_21 (by decide) (fun c_3 => ?_) (fun c_3 => ?_)
    · have hR := (if_pos c_3).symm.trans hR
      refine lv_bipush (v := (-9 : Int32)) hx hb dX8_holder_36 (by decide) ?_
      subst hR
      rw [hQ]
      exact W.iret (v := (-9 : Int32)) hx hb hr (fun t ht hW => ⟨⟨(-9 : Int32), (), rfl, rfl, ⟨by rw [ht]; exact hP, va_K.moved hW.alike hK, by rw [← hAe]; exact hD⟩⟩, hS.F ht⟩) hS.2.2 dX8_holder_38
    · have hR := (if_neg c_3).symm.trans hR
      refine lv_aload_n hx hb dX8_holder_24 rfl (lv_at hl 0 rfl) ?_
      refine va_get (D := D) (ci := 8) (v := .ref (ad 803)) (C := RX8) (T := TX8) (N := 19) hx hb hts hu8 hown hK hP 0 wc_0 rfl 3 (by decide) (hts (.fieldLink RX8 28 "GrazeBook" "houses" "[I") (List.mem_cons_of_mem _ mw_213)) (fun _ h9 => h9) rfl dX8_holder_25 ?_
      refine lv_aload_n hx hb dX8_holder_28 rfl (lv_at hl 1 rfl) ?_
      refine va_get (D := D) (ci := 0) (v := .int (σ 6 i)) (C := RX0) (T := TX0) (N := 9) hx hb hts hu0 hown hK hP (pcC ca h ad pa σ i) (wc_aC hi) rfl 6 (by decide) (hts (.fieldLink RX8 152 "GrazeBook$Claim" "who" "I") (List.mem_cons_of_mem _ mw_371)) (fun _ h9 => h9) rfl dX8_holder_29 ?_
      refine va_iald_k (k := ((σ 6 i).toNatClampNeg)) (v := (σ 803 ((σ 6 i).toNatClampNeg))) hx hb hK hP 10 0 wc_10 rfl rfl rfl (isx_House c_3 hI) dX8_holder_32 ?_
      refine lv_goto (tgt := 38) hx hb dX8_holder_33 (by decide) ?_
      subst hR
      rw [hQ]
      exact W.iret (v := (σ 803 ((σ 6 i).toNatClampNeg))) hx hb hr (fun t ht hW => ⟨⟨(σ 803 ((σ 6 i).toNatClampNeg)), (), rfl, rfl, ⟨by rw [ht]; exact hP, va_K.moved hW.alike hK, by rw [← hAe]; exact hD⟩⟩, hS.F ht⟩) hS.2.2 dX8_holder_38
  · have hR := (if_neg c_1).symm.trans hR
    refine lv_aload_n hx hb dX8_holder_8 rfl (lv_at hl 1 rfl) ?_
    refine va_get (D := D) (ci := 0) (v := .int (σ 6 i)) (C := RX0) (T := TX0) (N := 9) hx hb hts hu0 hown hK hP (pcC ca h ad pa σ i) (wc_aC hi) rfl 6 (by decide) (hts (.fieldLink RX8 152 "GrazeBook$Claim" "who" "I") (List.mem_cons_of_mem _ mw_371)) (fun _ h9 => h9) rfl dX8_holder_9 ?_
    subst hR
    rw [hQ]
    exact W.iret (v := (σ 6 i)) hx hb hr (fun t ht hW => ⟨⟨(σ 6 i), (), rfl, rfl, ⟨by rw [ht]; exact hP, va_K.moved hW.alike hK, by rw [← hAe]; exact hD⟩⟩, hS.F ht⟩) hS.2.2 dX8_holder_12

def s_X8_canPass (σ : St) (a1 : Int32) (a2 : Int32) : Int32 := (if (s_X8_isRight σ a1) = (0 : Int32) then (0 : Int32) else (if (s_X8_isOwner σ a2) = (0 : Int32) then (0 : Int32) else (if (s_X8_holder σ (a1.toNatClampNeg)) = a2 then (0 : Int32) else (1 : Int32))))
set_option maxHeartbeats 1000000 in
set_option maxRecDepth 100000 in
theorem k_X8_canPass (l : Launch) (D : va_G) (ca : Nat → ClassId) (h : Nat) (ad : Nat → Nat) (pa : Nat → Nat → Nat) (tb : Nat) (σ : St) (a1 : Int32) (a2 : Int32) (sz : Nat) (hI : IX σ)  (R : Int32) (hR : s_X8_canPass σ a1 a2 = R) : Met l yX8_canPass wsX8_canPass ({ frames := 2, cells := 0, slots := 0, locals := 42 }) (va_Pc [.ref h, .int a1, .int a2] (cw_pre D ca (WC ca h ad pa σ) sz tb)) (va_Qi (fun (r : Int32) (_ : Unit) => r = R) (fun (_ : Unit) (t : State) => pw_post D ca (WC ca h ad pa σ) sz (WC ca h ad pa σ) t) (va_A (WC ca h ad pa σ) sz)) 0 0 (va_A (WC ca h ad pa σ) sz) := by
  refine Met.ofW (cc := cX8_canPass) (maxL := 3) (ret := (some .boolean)) (by decide) rfl ?_
  intro p e s m args below meth c s₁ B hml hv
  obtain ⟨rfl, ⟨hsz, hP, hK, hD0⟩, hZ⟩ := hv
  have hx := B.exec
  have hb := B.bytes
  have hr := B.returns
  have hts := atoms_spec (ws := wsX8_canPass) B.pre
  have hown : s.vm.findClass RX8 = some m.cls := findClass_of_methodNamed B.named
  have hlocks := B.notSynchronized
  have hu8 : ∀ w ∈ u_ws RX8 TX8 19, w ∈ wsX8_canPass := fun w h => List.mem_cons_of_mem _ (uw8 w h)
  subst hsz
  have hD := hD0.self (sz := s.heap.size)
  obtain ⟨A, hAe⟩ : ∃ A, A = va_A (WC ca h ad pa σ) s.heap.size := ⟨_, rfl⟩
  rw [← hAe] at hD hZ ⊢
  have hA : ∀ q : Nat, s.heap.size ≤ q → A q := fun q h => by rw [hAe]; exact Or.inr h
  have hS : va_S A s.heap s.heap [] := va_S.rf
  have hl := lv_entry ([.ref h, .int a1, .int a2]) (n := 3) (Nat.le_of_ble_eq_true rfl)
  rw [lg_entry_eq]
  generalize (lg_sl ([.ref h, .int a1, .int a2]) ++ List.replicate (3 - (lg_sl ([.ref h, .int a1, .int a2])).length) Slot.unset).toArray = ls at hl ⊢
  have hl : lv_has ls 3 [(0, .ref h), (1, .int a1), (2, .int a2)] := hl
  obtain ⟨H, hH⟩ : ∃ H, H = s.heap := ⟨_, rfl⟩
  have hP : va_P D vwCl (WC ca h ad pa σ) H := by rw [hH]; exact hP
  have hS : va_S A s.heap H [] := by rw [hH]; exact hS
  obtain ⟨QQ, hQ⟩ : ∃ Q9, Q9 = MQ below (va_Qi (fun (r : Int32) (_ : Unit) => r = R) (fun (_ : Unit) (t : State) => pw_post D ca (WC ca h ad pa σ) s.heap.size (WC ca h ad pa σ) t) A) ([.ref h, .int a1, .int a2] : List Value).toArray s 0 0 A := ⟨_, rfl⟩
  rw [← hQ]
  show W _ _ _ _ _ _ _ _ _ _ s.heap _ _ _ _ _
  rw [← hH]
  have hR : (if (s_X8_isRight σ a1) = (0 : Int32) then (0 : Int32) else (if (s_X8_isOwner σ a2) = (0 : Int32) then (0 : Int32) else (if (s_X8_holder σ (a1.toNatClampNeg)) = a2 then (0 : Int32) else (1 : Int32)))) = R := hR
  refine lv_aload_n hx hb dX8_canPass_0 rfl (lv_at hl 0 rfl) ?_
  refine lv_iload_n hx hb dX8_canPass_1 rfl (lv_at hl 1 rfl) ?_
  have hF := pw_free hD hS hA
  refine va_calli (va_runV (As := [.int a1]) (rest := []) ⟨hx, hb, hml, hown, hts⟩ (k_X8_isRight l D ca h ad pa tb σ a1 H.size hI _ rfl) (cwV 1 hts gX8_canPass_X8_isRight rfl rfl rfl (by decide +kernel) ⟨Nat.le_of_ble_eq_true rfl, Nat.le_of_ble_eq_true rfl⟩) ⟨cw_blind, va_recv hK hP (ci := 8) (q0 := 0) rfl wc_0, cw_give hP hK hD hZ hS hF⟩ rfl rfl hl.1 rfl (lv_room (Nat.le_of_ble_eq_true rfl)) dX8_canPass_2 ⟨Nat.le_of_ble_eq_true rfl, Nat.le_of_ble_eq_true rfl⟩) hS (fun q _ h => hF q h) hF (fun r_1 u t H1 locs ht hvm hw hB hz1 hk1 hS => ?_)
  rw [hw]
  obtain ⟨hP, hD⟩ := pw_back hF ht hB
  clear hB hk1 hz1 hF
  generalize H1 = H at hP hS ⊢
  refine lv_if_eq (tgt := 34) hx hb dX8_canPass_5 (by decide) (fun c_2 => ?_) (fun c_2 => ?_)
  · have hR := (if_pos c_2).symm.trans hR
    refine lv_iconst (v := (0 : Int32)) hx hb dX8_canPass_34 (by decide) ?_
    subst hR
    rw [hQ]
    exact W.zret (v := (0 : Int32)) hx hb hr rfl (fun t ht hW => ⟨⟨(0 : Int32), (), rfl, rfl, ⟨by rw [ht]; exact hP, va_K.moved hW.alike hK, by rw [← hAe]; exact hD⟩⟩, hS.F ht⟩) hS.2.2 dX8_canPass_35
  · have hR := (if_neg c_2).symm.trans hR
    refine lv_aload_n hx hb dX8_canPass_8 rfl (lv_at hl 0 rfl) ?_
    refine lv_iload_n hx hb dX8_canPass_9 rfl (lv_at hl 2 rfl) ?_
    have hF := pw_free hD hS hA
    refine va_calli (va_runV (As := [.int a2]) (rest := []) ⟨hx, hb, hml, hown, hts⟩ (k_X8_isOwner l D ca h ad pa tb σ a2 H.size hI _ rfl) (cwV 1 hts gX8_canPass_X8_isOwner rfl rfl rfl (by decide +kernel) ⟨Nat.le_of_ble_eq_true rfl, Nat.le_of_ble_eq_true rfl⟩) ⟨cw_blind, va_recv hK hP (ci := 8) (q0 := 0) rfl wc_0, cw_give hP hK hD hZ hS hF⟩ rfl rfl hl.1 rfl (lv_room (Nat.le_of_ble_eq_true rfl)) dX8_canPass_10 ⟨Nat.le_of_ble_eq_true rfl, Nat.le_of_ble_eq_true rfl⟩) hS (fun q _ h => hF q h) hF (fun r_3 u t H1 locs ht hvm hw hB hz1 hk1 hS => ?_)
    rw [hw]
    obtain ⟨hP, hD⟩ := pw_back hF ht hB
    clear hB hk1 hz1 hF
    generalize H1 = H at hP hS ⊢
    refine lv_if_eq (tgt := 34) hx hb dX8_canPass_13 (by decide) (fun c_4 => ?_) (fun c_4 => ?_)
    · have hR := (if_pos c_4).symm.trans hR
      refine lv_iconst (v := (0 : Int32)) hx hb dX8_canPass_34 (by decide) ?_
      subst hR
      rw [hQ]
      exact W.zret (v := (0 : Int32)) hx hb hr rfl (fun t ht hW => ⟨⟨(0 : Int32), (), rfl, rfl, ⟨by rw [ht]; exact hP, va_K.moved hW.alike hK, by rw [← hAe]; exact hD⟩⟩, hS.F ht⟩) hS.2.2 dX8_canPass_35
    · have hR := (if_neg c_4).symm.trans hR
      refine lv_aload_n hx hb dX8_canPass_16 rfl (lv_at hl 0 rfl) ?_
      refine lv_aload_n hx hb dX8_canPass_17 rfl (lv_at hl 0 rfl) ?_
      refine va_get (D := D) (ci := 8) (v := .ref (ad 804)) (C := RX8) (T := TX8) (N := 19) hx hb hts hu8 hown hK hP 0 wc_0 rfl 4 (by decide) (hts (.fieldLink RX8 34 "GrazeBook" "rights" "[LGrazeBook$Claim;") (List.mem_cons_of_mem _ mw_214)) (fun _ h9 => h9) rfl dX8_canPass_18 ?_
      refine lv_iload_n hx hb dX8_canPass_21 rfl (lv_at hl 1 rfl) ?_
      refine va_aldq_k (k := (a1.toNatClampNeg)) (b := pa 2 (a1.toNatClampNeg)) hx hb hK hP 8 4 wc_8 rfl rfl (rf_at (isb_Right c_2)) (isx_Right c_2 hI) dX8_canPass_22 ?_
      have hF := pw_free hD hS hA
      refine va_calli (va_runV (As := [.ref (pa 2 (a1.toNatClampNeg))]) (rest := []) ⟨hx, hb, hml, hown, hts⟩ (k_X8_holder l D ca h ad pa tb σ (a1.toNatClampNeg) H.size hI (isb_Right c_2) _ rfl) (cwV 1 hts gX8_canPass_X8_holder rfl rfl rfl (by decide +kernel) ⟨Nat.le_of_ble_eq_true rfl, Nat.le_of_ble_eq_true rfl⟩) ⟨cw_blind, va_recv hK hP (ci := 8) (q0 := 0) rfl wc_0, cw_give hP hK hD hZ hS hF⟩ rfl rfl hl.1 rfl (lv_room (Nat.le_of_ble_eq_true rfl)) dX8_canPass_23 ⟨Nat.le_of_ble_eq_true rfl, Nat.le_of_ble_eq_true rfl⟩) hS (fun q _ h => hF q h) hF (fun r_5 u t H1 locs ht hvm hw hB hz1 hk1 hS => ?_)
      rw [hw]
      obtain ⟨hP, hD⟩ := pw_back hF ht hB
      clear hB hk1 hz1 hF
      generalize H1 = H at hP hS ⊢
      refine lv_iload_n hx hb dX8_canPass_26 rfl (lv_at hl 2 rfl) ?_
      refine lv_icmp_eq (tgt := 34) hx hb dX8_canPass_27 (by decide) (fun c_6 => ?_) (fun c_6 => ?_)
      · have hR := (if_pos c_6).symm.trans hR
        refine lv_iconst (v := (0 : Int32)) hx hb dX8_canPass_34 (by decide) ?_
        subst hR
        rw [hQ]
        exact W.zret (v := (0 : Int32)) hx hb hr rfl (fun t ht hW => ⟨⟨(0 : Int32), (), rfl, rfl, ⟨by rw [ht]; exact hP, va_K.moved hW.alike hK, by rw [← hAe]; exact hD⟩⟩, hS.F ht⟩) hS.2.2 dX8_canPass_35
      · have hR := (if_neg c_6).symm.trans hR
        refine lv_iconst (v := (1 : Int32)) hx hb dX8_canPass_30 (by decide) ?_
        refine lv_goto (tgt := 35) hx hb dX8_canPass_31 (by decide) ?_
        subst hR
        rw [hQ]
        exact W.zret (v := (1 : Int32)) hx hb hr rfl (fun t ht hW => ⟨⟨(1 : Int32), (), rfl, rfl, ⟨by rw [ht]; exact hP, va_K.moved hW.alike hK, by rw [← hAe]; exact hD⟩⟩, hS.F ht⟩) hS.2.2 dX8_canPass_35

theorem cp_r {σ : St} {x y : Int32} (h : ¬ s_X8_canPass σ x y = 0) : ¬ s_X8_isRight σ x = 0 := fun e => h (by unfold s_X8_canPass; rw [if_pos e])
theorem cp_o {σ : St} {x y : Int32} (h : ¬ s_X8_canPass σ x y = 0) : ¬ s_X8_isOwner σ y = 0 := fun e => h (by unfold s_X8_canPass; split <;> first | rfl | rw [if_pos e])

