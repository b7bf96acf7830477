def s_X3_clear (σ : St) : St := (put (put (put σ 304 0 (0 : Int32)) 305 0 (0 : Int32)) 306 0 (0 : Int32))
theorem fr_s_X3_clear (σ : St) {f : Nat} (h304 : f ≠ 304) (h305 : f ≠ 305) (h306 : f ≠ 306) : (s_X3_clear σ ) f = σ f := by
  unfold s_X3_clear
  all_goals ((try dsimp only) <;> ((repeat' split) <;> (try simp only [put_fr, ne_eq, not_false_eq_true, h304, h305, h306])))
set_option maxHeartbeats 1000000 in
set_option maxRecDepth 100000 in
theorem k_X3_clear (l : Launch) (D : va_G) (ca : Nat → ClassId) (h : Nat) (ad : Nat → Nat) (pa : Nat → Nat → Nat) (tb : Nat) (σ : St) (sz : Nat) (hI : IX σ)  (R : St) (hR : s_X3_clear σ = R) : Met l yX3_clear wsX3_clear ({ frames := 0, cells := 0, slots := 0, locals := 0 }) (va_Pc [.ref (ad 808)] (cw_pre D ca (WC ca h ad pa σ) sz tb)) (va_Qv (fun _ : Unit => True) (fun (_ : Unit) (t : State) => pw_post D ca (WC ca h ad pa σ) sz (WC ca h ad pa R) t ∧ IX R) (va_A (WC ca h ad pa σ) sz)) 0 0 (va_A (WC ca h ad pa σ) sz) := by
  refine Met.ofW (cc := cX3_clear) (maxL := 1) (ret := none) (by decide) rfl ?_
  intro p e s m args below meth c s₁ B hml hv
  obtain ⟨rfl, ⟨hsz, hP, hK, hD0⟩, hZ⟩ := hv
  have hx := B.exec
  have hb := B.bytes
  have hr := B.returns
  have hts := atoms_spec (ws := wsX3_clear) B.pre
  have hown : s.vm.findClass RX3 = some m.cls := findClass_of_methodNamed B.named
  have hlocks := B.notSynchronized
  have hu3 : ∀ w ∈ u_ws RX3 TX3 7, w ∈ wsX3_clear := fun w h => List.mem_cons_of_mem _ (uw3 w h)
  subst hsz
  have hD := hD0.self (sz := s.heap.size)
  obtain ⟨A, hAe⟩ : ∃ A, A = va_A (WC ca h ad pa σ) s.heap.size := ⟨_, rfl⟩
  rw [← hAe] at hD hZ ⊢
  have hA : ∀ q : Nat, s.heap.size ≤ q → A q := fun q h => by rw [hAe]; exact Or.inr h
  have hS : va_S A s.heap s.heap [] := va_S.rf
  have hl := lv_entry ([.ref (ad 808)]) (n := 1) (Nat.le_of_ble_eq_true rfl)
  rw [lg_entry_eq]
  generalize (lg_sl ([.ref (ad 808)]) ++ List.replicate (1 - (lg_sl ([.ref (ad 808)])).length) Slot.unset).toArray = ls at hl ⊢
  have hl : lv_has ls 1 [(0, .ref (ad 808))] := hl
  obtain ⟨H, hH⟩ : ∃ H, H = s.heap := ⟨_, rfl⟩
  have hP : va_P D vwCl (WC ca h ad pa σ) H := by rw [hH]; exact hP
  have hS : va_S A s.heap H [] := by rw [hH]; exact hS
  obtain ⟨QQ, hQ⟩ : ∃ Q9, Q9 = MQ below (va_Qv (fun _ : Unit => True) (fun (_ : Unit) (t : State) => pw_post D ca (WC ca h ad pa σ) s.heap.size (WC ca h ad pa R) t ∧ IX R) A) ([.ref (ad 808)] : List Value).toArray s 0 0 A := ⟨_, rfl⟩
  rw [← hQ]
  show W _ _ _ _ _ _ _ _ _ _ s.heap _ _ _ _ _
  rw [← hH]
  have hR : (put (put (put σ 304 0 (0 : Int32)) 305 0 (0 : Int32)) 306 0 (0 : Int32)) = R := hR
  refine lv_aload_n hx hb dX3_clear_0 rfl (lv_at hl 0 rfl) ?_
  refine lv_iconst (v := (0 : Int32)) hx hb dX3_clear_1 (by decide) ?_
  refine va_put (D := D) (ci := 3) (v := .int (0 : Int32)) (ty := .int) (C := RX3) (T := TX3) (N := 7) hx hb hts hu3 tyX3 tyX3_ok nmX3 hown hK hP hD hS 4 wc_4 rfl 4 (by decide) (hts (.fieldLink RX3 24 "GrazeBook$Grazing" "size" "I") (List.mem_cons_of_mem _ mw_146)) (fun _ h9 => h9) rfl (by decide +kernel) rfl rfl (Nat.le_of_ble_eq_true rfl) dX3_clear_2 (fun H locs hP hD hS => ?_)
  rw [wc_p304] at hP hD
  refine lv_aload_n hx hb dX3_clear_5 rfl (lv_at hl 0 rfl) ?_
  refine lv_iconst (v := (0 : Int32)) hx hb dX3_clear_6 (by decide) ?_
  refine va_put (D := D) (ci := 3) (v := .int (0 : Int32)) (ty := .int) (C := RX3) (T := TX3) (N := 7) hx hb hts hu3 tyX3 tyX3_ok nmX3 hown hK hP hD hS 4 wc_4 rfl 5 (by decide) (hts (.fieldLink RX3 28 "GrazeBook$Grazing" "all" "I") (List.mem_cons_of_mem _ mw_147)) (fun _ h9 => h9) rfl (by decide +kernel) rfl rfl (Nat.le_of_ble_eq_true rfl) dX3_clear_7 (fun H locs hP hD hS => ?_)
  rw [wc_p305] at hP hD
  refine lv_aload_n hx hb dX3_clear_10 rfl (lv_at hl 0 rfl) ?_
  refine lv_iconst (v := (0 : Int32)) hx hb dX3_clear_11 (by decide) ?_
  refine va_put (D := D) (ci := 3) (v := .int (0 : Int32)) (ty := .int) (C := RX3) (T := TX3) (N := 7) hx hb hts hu3 tyX3 tyX3_ok nmX3 hown hK hP hD hS 4 wc_4 rfl 6 (by decide) (hts (.fieldLink RX3 31 "GrazeBook$Grazing" "eaten" "I") (List.mem_cons_of_mem _ mw_148)) (fun _ h9 => h9) rfl (by decide +kernel) rfl rfl (Nat.le_of_ble_eq_true rfl) dX3_clear_12 (fun H locs hP hD hS => ?_)
  rw [wc_p306] at hP hD
  have hI9 : IX (put (put (put σ 304 0 (0 : Int32)) 305 0 (0 : Int32)) 306 0 (0 : Int32)) := (ix_put304 (σ := σ) hI (by decide))
  subst hR
  rw [hQ]
  exact W.vret hx hb hr (fun t ht hW => ⟨⟨(), rfl, trivial, ⟨by rw [ht]; exact hP, va_K.moved hW.alike hK, by rw [← hAe]; exact hD⟩, hI9⟩, hS.F ht⟩) hS.2.2 dX3_clear_15

def s_X3_add (σ : St) (a1 : Int32) (a2 : Int32) : St := (if (20 : Int32) ≤ (σ 304 0) then σ else (put (put (put (put (put σ 300 ((σ 304 0).toNatClampNeg) a1) 301 ((σ 304 0).toNatClampNeg) a2) 302 ((σ 304 0).toNatClampNeg) (0 : Int32)) 305 0 ((σ 305 0) + a2)) 304 0 ((σ 304 0) + (1 : Int32))))
theorem fr_s_X3_add (σ : St) (a1 : Int32) (a2 : Int32) {f : Nat} (h300 : f ≠ 300) (h301 : f ≠ 301) (h302 : f ≠ 302) (h304 : f ≠ 304) (h305 : f ≠ 305) : (s_X3_add σ a1 a2 ) f = σ f := by
  unfold s_X3_add
  all_goals ((try dsimp only) <;> ((repeat' split) <;> (try simp only [put_fr, ne_eq, not_false_eq_true, h300, h301, h302, h304, h305])))
set_option maxHeartbeats 1000000 in
set_option maxRecDepth 100000 in
theorem k_X3_add (l : Launch) (D : va_G) (ca : Nat → ClassId) (h : Nat) (ad : Nat → Nat) (pa : Nat → Nat → Nat) (tb : Nat) (σ : St) (a1 : Int32) (a2 : Int32) (sz : Nat) (hI : IX σ)  (R : St) (hR : s_X3_add σ a1 a2 = R) : Met l yX3_add wsX3_add ({ frames := 0, cells := 0, slots := 0, locals := 0 }) (va_Pc [.ref (ad 808), .int a1, .int a2] (cw_pre D ca (WC ca h ad pa σ) sz tb)) (va_Qv (fun _ : Unit => True) (fun (_ : Unit) (t : State) => pw_post D ca (WC ca h ad pa σ) sz (WC ca h ad pa R) t ∧ IX R) (va_A (WC ca h ad pa σ) sz)) 0 0 (va_A (WC ca h ad pa σ) sz) := by
  refine Met.ofW (cc := cX3_add) (maxL := 3) (ret := none) (by decide) rfl ?_
  intro p e s m args below meth c s₁ B hml hv
  obtain ⟨rfl, ⟨hsz, hP, hK, hD0⟩, hZ⟩ := hv
  have hx := B.exec
  have hb := B.bytes
  have hr := B.returns
  have hts := atoms_spec (ws := wsX3_add) B.pre
  have hown : s.vm.findClass RX3 = some m.cls := findClass_of_methodNamed B.named
  have hlocks := B.notSynchronized
  have hu3 : ∀ w ∈ u_ws RX3 TX3 7, w ∈ wsX3_add := fun w h => List.mem_cons_of_mem _ (uw3 w h)
  subst hsz
  have hD := hD0.self (sz := s.heap.size)
  obtain ⟨A, hAe⟩ : ∃ A, A = va_A (WC ca h ad pa σ) s.heap.size := ⟨_, rfl⟩
  rw [← hAe] at hD hZ ⊢
  have hA : ∀ q : Nat, s.heap.size ≤ q → A q := fun q h => by rw [hAe]; exact Or.inr h
  have hS : va_S A s.heap s.heap [] := va_S.rf
  have hl := lv_entry ([.ref (ad 808), .int a1, .int a2]) (n := 3) (Nat.le_of_ble_eq_true rfl)
  rw [lg_entry_eq]
  generalize (lg_sl ([.ref (ad 808), .int a1, .int a2]) ++ List.replicate (3 - (lg_sl ([.ref (ad 808), .int a1, .int a2])).length) Slot.unset).toArray = ls at hl ⊢
  have hl : lv_has ls 3 [(0, .ref (ad 808)), (1, .int a1), (2, .int a2)] := hl
  obtain ⟨H, hH⟩ : ∃ H, H = s.heap := ⟨_, rfl⟩
  have hP : va_P D vwCl (WC ca h ad pa σ) H := by rw [hH]; exact hP
  have hS : va_S A s.heap H [] := by rw [hH]; exact hS
  obtain ⟨QQ, hQ⟩ : ∃ Q9, Q9 = MQ below (va_Qv (fun _ : Unit => True) (fun (_ : Unit) (t : State) => pw_post D ca (WC ca h ad pa σ) s.heap.size (WC ca h ad pa R) t ∧ IX R) A) ([.ref (ad 808), .int a1, .int a2] : List Value).toArray s 0 0 A := ⟨_, rfl⟩
  rw [← hQ]
  show W _ _ _ _ _ _ _ _ _ _ s.heap _ _ _ _ _
  rw [← hH]
  have hR : (if (20 : Int32) ≤ (σ 304 0) then σ else (put (put (put (put (put σ 300 ((σ 304 0).toNatClampNeg) a1) 301 ((σ 304 0).toNatClampNeg) a2) 302 ((σ 304 0).toNatClampNeg) (0 : Int32)) 305 0 ((σ 305 0) + a2)) 304 0 ((σ 304 0) + (1 : Int32)))) = R := hR
  refine lv_aload_n hx hb dX3_add_0 rfl (lv_at hl 0 rfl) ?_
  refine va_get (D := D) (ci := 3) (v := .int (σ 304 0)) (C := RX3) (T := TX3) (N := 7) hx hb hts hu3 hown hK hP 4 wc_4 rfl 4 (by decide) (hts (.fieldLink RX3 24 "GrazeBook$Grazing" "size" "I") (List.mem_cons_of_mem _ mw_146)) (fun _ h9 => h9) rfl dX3_add_1 ?_
  refine lv_bipush (v := (20 : Int32)) hx hb dX3_add_4 (by decide) ?_
  refine lv_icmp_ge (tgt := 59) hx hb dX3_add_6 (by decide) (fun c_1 => ?_) (fun c_1 => ?_)
  · have hR := (if_pos c_1).symm.trans hR
    have hI9 : IX σ := hI
    subst hR
    rw [hQ]
    exact W.vret hx hb hr (fun t ht hW => ⟨⟨(), rfl, trivial, ⟨by rw [ht]; exact hP, va_K.moved hW.alike hK, by rw [← hAe]; exact hD⟩, hI9⟩, hS.F ht⟩) hS.2.2 dX3_add_59
  · have hR := (if_neg c_1).symm.trans hR
    refine lv_aload_n hx hb dX3_add_9 rfl (lv_at hl 0 rfl) ?_
    refine va_get (D := D) (ci := 3) (v := .ref (ad 300)) (C := RX3) (T := TX3) (N := 7) hx hb hts hu3 hown hK hP 4 wc_4 rfl 0 (by decide) (hts (.fieldLink RX3 9 "GrazeBook$Grazing" "numbers" "[I") (List.mem_cons_of_mem _ mw_142)) (fun _ h9 => h9) rfl dX3_add_10 ?_
    refine lv_aload_n hx hb dX3_add_13 rfl (lv_at hl 0 rfl) ?_
    refine va_get (D := D) (ci := 3) (v := .int (σ 304 0)) (C := RX3) (T := TX3) (N := 7) hx hb hts hu3 hown hK hP 4 wc_4 rfl 4 (by decide) (hts (.fieldLink RX3 24 "GrazeBook$Grazing" "size" "I") (List.mem_cons_of_mem _ mw_146)) (fun _ h9 => h9) rfl dX3_add_14 ?_
    refine lv_iload_n hx hb dX3_add_17 rfl (lv_at hl 1 rfl) ?_
    refine va_iast_k (k := ((σ 304 0).toNatClampNeg)) hx hb hK hP hD hS 17 0 wc_17 rfl rfl (ix_ltn (ix_304 hI) (lt_of_not_le0 c_1) (by decide)) dX3_add_18 (fun H locs hP hD hS => ?_)
    rw [wc_s300] at hP hD
    refine lv_aload_n hx hb dX3_add_19 rfl (lv_at hl 0 rfl) ?_
    refine va_get (D := D) (ci := 3) (v := .ref (ad 301)) (C := RX3) (T := TX3) (N := 7) hx hb hts hu3 hown hK hP 4 wc_4 rfl 1 (by decide) (hts (.fieldLink RX3 15 "GrazeBook$Grazing" "partsOf" "[I") (List.mem_cons_of_mem _ mw_143)) (fun _ h9 => h9) rfl dX3_add_20 ?_
    refine lv_aload_n hx hb dX3_add_23 rfl (lv_at hl 0 rfl) ?_
    refine va_get (D := D) (ci := 3) (v := .int (σ 304 0)) (C := RX3) (T := TX3) (N := 7) hx hb hts hu3 hown hK hP 4 wc_4 rfl 4 (by decide) (hts (.fieldLink RX3 24 "GrazeBook$Grazing" "size" "I") (List.mem_cons_of_mem _ mw_146)) (fun _ h9 => h9) rfl dX3_add_24 ?_
    refine lv_iload_n hx hb dX3_add_27 rfl (lv_at hl 2 rfl) ?_
    refine va_iast_k (k := ((σ 304 0).toNatClampNeg)) hx hb hK hP hD hS 18 0 wc_18 rfl rfl (ix_ltn (ix_304 hI) (lt_of_not_le0 c_1) (by decide)) dX3_add_28 (fun H locs hP hD hS => ?_)
    rw [wc_s301] at hP hD
    refine lv_aload_n hx hb dX3_add_29 rfl (lv_at hl 0 rfl) ?_
    refine va_get (D := D) (ci := 3) (v := .ref (ad 302)) (C := RX3) (T := TX3) (N := 7) hx hb hts hu3 hown hK hP 4 wc_4 rfl 2 (by decide) (hts (.fieldLink RX3 18 "GrazeBook$Grazing" "hungers" "[I") (List.mem_cons_of_mem _ mw_144)) (fun _ h9 => h9) rfl dX3_add_30 ?_
    refine lv_aload_n hx hb dX3_add_33 rfl (lv_at hl 0 rfl) ?_
    refine va_get (D := D) (ci := 3) (v := .int (σ 304 0)) (C := RX3) (T := TX3) (N := 7) hx hb hts hu3 hown hK hP 4 wc_4 rfl 4 (by decide) (hts (.fieldLink RX3 24 "GrazeBook$Grazing" "size" "I") (List.mem_cons_of_mem _ mw_146)) (fun _ h9 => h9) rfl dX3_add_34 ?_
    refine lv_iconst (v := (0 : Int32)) hx hb dX3_add_37 (by decide) ?_
    refine va_iast_k (k := ((σ 304 0).toNatClampNeg)) hx hb hK hP hD hS 19 0 wc_19 rfl rfl (ix_ltn (ix_304 hI) (lt_of_not_le0 c_1) (by decide)) dX3_add_38 (fun H locs hP hD hS => ?_)
    rw [wc_s302] at hP hD
    refine lv_aload_n hx hb dX3_add_39 rfl (lv_at hl 0 rfl) ?_
    refine lv_dup hx hb dX3_add_40 rfl ?_
    refine va_get (D := D) (ci := 3) (v := .int (σ 305 0)) (C := RX3) (T := TX3) (N := 7) hx hb hts hu3 hown hK hP 4 wc_4 rfl 5 (by decide) (hts (.fieldLink RX3 28 "GrazeBook$Grazing" "all" "I") (List.mem_cons_of_mem _ mw_147)) (fun _ h9 => h9) rfl dX3_add_41 ?_
    refine lv_iload_n hx hb dX3_add_44 rfl (lv_at hl 2 rfl) ?_
    refine lv_iadd hx hb dX3_add_45 ?_
    refine va_put (D := D) (ci := 3) (v := .int ((σ 305 0) + a2)) (ty := .int) (C := RX3) (T := TX3) (N := 7) hx hb hts hu3 tyX3 tyX3_ok nmX3 hown hK hP hD hS 4 wc_4 rfl 5 (by decide) (hts (.fieldLink RX3 28 "GrazeBook$Grazing" "all" "I") (List.mem_cons_of_mem _ mw_147)) (fun _ h9 => h9) rfl (by decide +kernel) rfl rfl (Nat.le_of_ble_eq_true rfl) dX3_add_46 (fun H locs hP hD hS => ?_)
    rw [wc_p305] at hP hD
    refine lv_aload_n hx hb dX3_add_49 rfl (lv_at hl 0 rfl) ?_
    refine lv_dup hx hb dX3_add_50 rfl ?_
    refine va_get (D := D) (ci := 3) (v := .int (σ 304 0)) (C := RX3) (T := TX3) (N := 7) hx hb hts hu3 hown hK hP 4 wc_4 rfl 4 (by decide) (hts (.fieldLink RX3 24 "GrazeBook$Grazing" "size" "I") (List.mem_cons_of_mem _ mw_146)) (fun _ h9 => h9) rfl dX3_add_51 ?_
    refine lv_iconst (v := (1 : Int32)) hx hb dX3_add_54 (by decide) ?_
    refine lv_iadd hx hb dX3_add_55 ?_
    refine va_put (D := D) (ci := 3) (v := .int ((σ 304 0) + (1 : Int32))) (ty := .int) (C := RX3) (T := TX3) (N := 7) hx hb hts hu3 tyX3 tyX3_ok nmX3 hown hK hP hD hS 4 wc_4 rfl 4 (by decide) (hts (.fieldLink RX3 24 "GrazeBook$Grazing" "size" "I") (List.mem_cons_of_mem _ mw_146)) (fun _ h9 => h9) rfl (by decide +kernel) rfl rfl (Nat.le_of_ble_eq_true rfl) dX3_add_56 (fun H locs hP hD hS => ?_)
    rw [wc_p304] at hP hD
    have hI9 : IX (put (put (put (put (put σ 300 ((σ 304 0).toNatClampNeg) a1) 301 ((σ 304 0).toNatClampNeg) a2) 302 ((σ 304 0).toNatClampNeg) (0 : Int32)) 305 0 ((σ 305 0) + a2)) 304 0 ((σ 304 0) + (1 : Int32))) := (ix_put304 (σ := (put (put (put (put σ 300 ((σ 304 0).toNatClampNeg) a1) 301 ((σ 304 0).toNatClampNeg) a2) 302 ((σ 304 0).toNatClampNeg) (0 : Int32)) 305 0 ((σ 305 0) + a2))) hI (ix_inc (ix_304 hI) (lt_of_not_le0 c_1) (by decide) (by decide)))
    subst hR
    rw [hQ]
    exact W.vret hx hb hr (fun t ht hW => ⟨⟨(), rfl, trivial, ⟨by rw [ht]; exact hP, va_K.moved hW.alike hK, by rw [← hAe]; exact hD⟩, hI9⟩, hS.F ht⟩) hS.2.2 dX3_add_59

def s_X3_hungerOf_c2  : Unit → Int32 := fun x9 => match x9 with
  | _ => (0 : Int32)
def s_X3_hungerOf_c2r  : Sum Int32 Unit → Int32 := fun x9 => match x9 with
  | .inl r => r
  | .inr s => s_X3_hungerOf_c2 s
def s_X3_hungerOf_l2 (σ : St) (a1 : Int32) (k_1 : Nat) : Unit → Sum Int32 Unit := fun x9 => match x9 with
  | _ => (if (σ 300 k_1) = a1 then (Sum.inl (σ 302 k_1)) else (Sum.inr ()))
def s_X3_hungerOf (σ : St) (a1 : Int32) : Int32 := (s_X3_hungerOf_c2r (iterR (s_X3_hungerOf_l2 σ a1) ((σ 304 0).toNatClampNeg - 0) 0 ()))
set_option maxHeartbeats 1000000 in
set_option maxRecDepth 100000 in
theorem k_X3_hungerOf (l : Launch) (D : va_G) (ca : Nat → ClassId) (h : Nat) (ad : Nat → Nat) (pa : Nat → Nat → Nat) (tb : Nat) (σ : St) (a1 : Int32) (sz : Nat) (hI : IX σ)  (R : Int32) (hR : s_X3_hungerOf σ a1 = R) : Met l yX3_hungerOf wsX3_hungerOf ({ frames := 0, cells := 0, slots := 0, locals := 0 }) (va_Pc [.ref (ad 808), .int a1] (cw_pre D ca (WC ca h ad pa σ) sz tb)) (va_Qi (fun (r : Int32) (_ : Unit) => r = R) (fun (_ : Unit) (t : State) => pw_post D ca (WC ca h ad pa σ) sz (WC ca h ad pa σ) t) (va_A (WC ca h ad pa σ) sz)) 0 0 (va_A (WC ca h ad pa σ) sz) := by
  refine Met.ofW (cc := cX3_hungerOf) (maxL := 3) (ret := (some .int)) (by decide) rfl ?_
  intro p e s m args below meth c s₁ B hml hv
  obtain ⟨rfl, ⟨hsz, hP, hK, hD0⟩, hZ⟩ := hv
  have hx := B.exec
  have hb := B.bytes
  have hr := B.returns
  have hts := atoms_spec (ws := wsX3_hungerOf) B.pre
  have hown : s.vm.findClass RX3 = some m.cls := findClass_of_methodNamed B.named
  have hlocks := B.notSynchronized
  have hu3 : ∀ w ∈ u_ws RX3 TX3 7, w ∈ wsX3_hungerOf := fun w h => List.mem_cons_of_mem _ (uw3 w h)
  subst hsz
  have hD := hD0.self (sz := s.heap.size)
  obtain ⟨A, hAe⟩ : ∃ A, A = va_A (WC ca h ad pa σ) s.heap.size := ⟨_, rfl⟩
  rw [← hAe] at hD hZ ⊢
  have hA : ∀ q : Nat, s.heap.size ≤ q → A q := fun q h => by rw [hAe]; exact Or.inr h
  have hS : va_S A s.heap s.heap [] := va_S.rf
  have hl := lv_entry ([.ref (ad 808), .int a1]) (n := 3) (Nat.le_of_ble_eq_true rfl)
  rw [lg_entry_eq]
  generalize (lg_sl ([.ref (ad 808), .int a1]) ++ List.replicate (3 - (lg_sl ([.ref (ad 808), .int a1])).length) Slot.unset).toArray = ls at hl ⊢
  have hl : lv_has ls 3 [(0, .ref (ad 808)), (1, .int a1)] := hl
  obtain ⟨H, hH⟩ : ∃ H, H = s.heap := ⟨_, rfl⟩
  have hP : va_P D vwCl (WC ca h ad pa σ) H := by rw [hH]; exact hP
  have hS : va_S A s.heap H [] := by rw [hH]; exact hS
  obtain ⟨QQ, hQ⟩ : ∃ Q9, Q9 = MQ below (va_Qi (fun (r : Int32) (_ : Unit) => r = R) (fun (_ : Unit) (t : State) => pw_post D ca (WC ca h ad pa σ) s.heap.size (WC ca h ad pa σ) t) A) ([.ref (ad 808), .int a1] : List Value).toArray s 0 0 A := ⟨_, rfl⟩
  rw [← hQ]
  show W _ _ _ _ _ _ _ _ _ _ s.heap _ _ _ _ _
  rw [← hH]
  have hR : (s_X3_hungerOf_c2r (iterR (s_X3_hungerOf_l2 σ a1) ((σ 304 0).toNatClampNeg - 0) 0 ())) = R := hR
  refine lv_iconst (v := (0 : Int32)) hx hb dX3_hungerOf_0 (by decide) ?_
  refine lv_istore_n (lv' := [(2, .int (0 : Int32)), (0, .ref (ad 808)), (1, .int a1)]) hx hb dX3_hungerOf_1 rfl hl (by decide) rfl (fun ls hl => ?_)
  have hE_1 : ∀ (H : Heap) (locs : List Loc) (ls : Array Slot), s_X3_hungerOf_c2 () = R → va_P D vwCl (WC ca h ad pa σ) H → va_D A (WC ca h ad pa σ) → va_S A s.heap H locs → lv_has ls 3 [] → W p l e ((headSpec wsX3_hungerOf ({ frames := 0, cells := 0, slots := 0, locals := 0 })).room) s m ([.ref (ad 808), .int a1] : List Value).toArray below meth c H locs 0 0 QQ (F0 m 33 ls []) := by
    intro  H locs ls hR hP hD hS hl
    have hR : (0 : Int32) = R := hR
    refine lv_iconst (v := (0 : Int32)) hx hb dX3_hungerOf_33 (by decide) ?_
    subst hR
    rw [hQ]
    exact W.iret (v := (0 : Int32)) hx hb hr (fun t ht hW => ⟨⟨(0 : Int32), (), rfl, rfl, ⟨by rw [ht]; exact hP, va_K.moved hW.alike hK, by rw [← hAe]; exact hD⟩⟩, hS.F ht⟩) hS.2.2 dX3_hungerOf_34
  have hL_1 : ∀ (n k_1 : Nat) (hk_1 : lpk (σ 304 0) k_1 n) (H : Heap) (locs : List Loc) (ls : Array Slot), s_X3_hungerOf_c2r (iterR (s_X3_hungerOf_l2 σ a1) n k_1 ()) = R → va_P D vwCl (WC ca h ad pa σ) H → va_D A (WC ca h ad pa σ) → va_S A s.heap H locs → lv_has ls 3 [(2, .int (nI k_1)), (0, .ref (ad 808)), (1, .int a1)] → W p l e ((headSpec wsX3_hungerOf ({ frames := 0, cells := 0, slots := 0, locals := 0 })).room) s m ([.ref (ad 808), .int a1] : List Value).toArray below meth c H locs 0 0 QQ (F0 m 2 ls []) := by
    intro n
    induction n with
    | zero =>
      intro k_1 hk_1 H locs ls hR hP hD hS hl
      refine lv_iload_n hx hb dX3_hungerOf_2 rfl (lv_at hl 0 rfl) ?_
      refine lv_aload_n hx hb dX3_hungerOf_3 rfl (lv_at hl 1 rfl) ?_
      refine va_get (D := D) (ci := 3) (v := .int (σ 304 0)) (C := RX3) (T := TX3) (N := 7) hx hb hts hu3 hown hK hP 4 wc_4 rfl 4 (by decide) (hts (.fieldLink RX3 24 "GrazeBook$Grazing" "size" "I") (List.mem_cons_of_mem _ mw_146)) (fun _ h9 => h9) rfl dX3_hungerOf_4 ?_
      refine lv_icmp_ge (tgt := 33) hx hb dX3_hungerOf_7 (by decide) (fun _ => ?_) (fun c_2 => absurd (ge_end hk_1) c_2)
      exact hE_1  _ _ _ hR hP hD hS (lv_sub hl [] rfl)
    | succ n ih =>
      intro k_1 hk_1 H locs ls hR hP hD hS hl
      obtain ⟨S_1, hB_1⟩ : ∃ s9, s_X3_hungerOf_l2 σ a1 k_1 () = s9 := ⟨_, rfl⟩
      have hR : s_X3_hungerOf_c2r (iterR1 (s_X3_hungerOf_l2 σ a1) n k_1 S_1) = R := by rw [← hB_1]; exact hR
      have hB_1 : (if (σ 300 k_1) = a1 then (Sum.inl (σ 302 k_1)) else (Sum.inr ())) = S_1 := hB_1
      refine lv_iload_n hx hb dX3_hungerOf_2 rfl (lv_at hl 0 rfl) ?_
      refine lv_aload_n hx hb dX3_hungerOf_3 rfl (lv_at hl 1 rfl) ?_
      refine va_get (D := D) (ci := 3) (v := .int (σ 304 0)) (C := RX3) (T := TX3) (N := 7) hx hb hts hu3 hown hK hP 4 wc_4 rfl 4 (by decide) (hts (.fieldLink RX3 24 "GrazeBook$Grazing" "size" "I") (List.mem_cons_of_mem _ mw_146)) (fun _ h9 => h9) rfl dX3_hungerOf_4 ?_
      refine lv_icmp_ge (tgt := 33) hx hb dX3_hungerOf_7 (by decide) (fun c_3 => absurd c_3 (ge_go hk_1)) (fun _ => ?_)
      refine lv_aload_n hx hb dX3_hungerOf_10 rfl (lv_at hl 1 rfl) ?_
      refine va_get (D := D) (ci := 3) (v := .ref (ad 300)) (C := RX3) (T := TX3) (N := 7) hx hb hts hu3 hown hK hP 4 wc_4 rfl 0 (by decide) (hts (.fieldLink RX3 9 "GrazeBook$Grazing" "numbers" "[I") (List.mem_cons_of_mem _ mw_142)) (fun _ h9 => h9) rfl dX3_hungerOf_11 ?_
      refine lv_iload_n hx hb dX3_hungerOf_14 rfl (lv_at hl 0 rfl) ?_
      refine va_iald_k (k := k_1) (v := (σ 300 k_1)) hx hb hK hP 17 0 wc_17 rfl (ix_cl hk_1) rfl (ix_loop (N := 20) hk_1 (ix_304 hI) (by decide) (by decide)) dX3_hungerOf_15 ?_
      refine lv_iload_n hx hb dX3_hungerOf_16 rfl (lv_at hl 2 rfl) ?_
      refine lv_icmp_ne (tgt := 27) hx hb dX3_hungerOf_17 (by decide) (fun c_4 => ?_) (fun c_4 => ?_)
      · have hB_1 := (if_neg c_4).symm.trans hB_1
        refine lv_iinc (v := (nI (k_1 + 1))) (lv' := [(2, .int (nI (k_1 + 1))), (0, .ref (ad 808)), (1, .int a1)]) hx hb dX3_hungerOf_27 hl (k := 0) rfl (by rw [show Int32.ofInt 1 = 1 from by decide]; exact nI_1 _) (by decide) rfl (fun ls hl => ?_)
        refine lv_goto (tgt := 2) hx hb dX3_hungerOf_30 (by decide) ?_
        subst hB_1
        exact ih (k_1 + 1)  (ge_next hk_1)  _ _ _ hR hP hD hS (lv_sub hl [0, 1, 2] rfl)
      · have hB_1 := (if_pos c_4).symm.trans hB_1
        refine lv_aload_n hx hb dX3_hungerOf_20 rfl (lv_at hl 1 rfl) ?_
        refine va_get (D := D) (ci := 3) (v := .ref (ad 302)) (C := RX3) (T := TX3) (N := 7) hx hb hts hu3 hown hK hP 4 wc_4 rfl 2 (by decide) (hts (.fieldLink RX3 18 "GrazeBook$Grazing" "hungers" "[I") (List.mem_cons_of_mem _ mw_144)) (fun _ h9 => h9) rfl dX3_hungerOf_21 ?_
        refine lv_iload_n hx hb dX3_hungerOf_24 rfl (lv_at hl 0 rfl) ?_
        refine va_iald_k (k := k_1) (v := (σ 302 k_1)) hx hb hK hP 19 0 wc_19 rfl (ix_cl hk_1) rfl (ix_loop (N := 20) hk_1 (ix_304 hI) (by decide) (by decide)) dX3_hungerOf_25 ?_
        subst hB_1
        subst hR
        rw [hQ]
        exact W.iret (v := (σ 302 k_1)) hx hb hr (fun t ht hW => ⟨⟨(σ 302 k_1), (), rfl, rfl, ⟨by rw [ht]; exact hP, va_K.moved hW.alike hK, by rw [← hAe]; exact hD⟩⟩, hS.F ht⟩) hS.2.2 dX3_hungerOf_26
  exact hL_1 _ 0  ⟨rfl, by decide⟩  _ _ _ hR hP hD hS (lv_sub hl [0, 1, 2] rfl)

def s_X3_tread (σ : St) (a1 : Int32) (a2 : Int32) : Int32 := (if a2 < (8 : Int32) then a1 else (if (0 : Int32) < (a1 - ((σ 305 0) / (100 : Int32))) then (a1 - ((σ 305 0) / (100 : Int32))) else (0 : Int32)))
set_option maxHeartbeats 1000000 in
set_option maxRecDepth 100000 in
theorem k_X3_tread (l : Launch) (D : va_G) (ca : Nat → ClassId) (h : Nat) (ad : Nat → Nat) (pa : Nat → Nat → Nat) (tb : Nat) (σ : St) (a1 : Int32) (a2 : Int32) (sz : Nat) (hI : IX σ)  (R : Int32) (hR : s_X3_tread σ a1 a2 = R) : Met l yX3_tread wsX3_tread ({ frames := 1, cells := 0, slots := 0, locals := 13 }) (va_Pc [.ref (ad 808), .int a1, .int a2] (cw_pre D ca (WC ca h ad pa σ) sz tb)) (va_Qi (fun (r : Int32) (_ : Unit) => r = R) (fun (_ : Unit) (t : State) => pw_post D ca (WC ca h ad pa σ) sz (WC ca h ad pa σ) t) (va_A (WC ca h ad pa σ) sz)) 0 0 (va_A (WC ca h ad pa σ) sz) := by
  refine Met.ofW (cc := cX3_tread) (maxL := 3) (ret := (some .int)) (by decide) rfl ?_
  intro p e s m args below meth c s₁ B hml hv
  obtain ⟨rfl, ⟨hsz, hP, hK, hD0⟩, hZ⟩ := hv
  have hx := B.exec
  have hb := B.bytes
  have hr := B.returns
  have hts := atoms_spec (ws := wsX3_tread) B.pre
  have hown : s.vm.findClass RX3 = some m.cls := findClass_of_methodNamed B.named
  have hlocks := B.notSynchronized
  have hu3 : ∀ w ∈ u_ws RX3 TX3 7, w ∈ wsX3_tread := fun w h => List.mem_cons_of_mem _ (uw3 w h)
  subst hsz
  have hD := hD0.self (sz := s.heap.size)
  obtain ⟨A, hAe⟩ : ∃ A, A = va_A (WC ca h ad pa σ) s.heap.size := ⟨_, rfl⟩
  rw [← hAe] at hD hZ ⊢
  have hA : ∀ q : Nat, s.heap.size ≤ q → A q := fun q h => by rw [hAe]; exact Or.inr h
  have hS : va_S A s.heap s.heap [] := va_S.rf
  have hl := lv_entry ([.ref (ad 808), .int a1, .int a2]) (n := 3) (Nat.le_of_ble_eq_true rfl)
  rw [lg_entry_eq]
  generalize (lg_sl ([.ref (ad 808), .int a1, .int a2]) ++ List.replicate (3 - (lg_sl ([.ref (ad 808), .int a1, .int a2])).length) Slot.unset).toArray = ls at hl ⊢
  have hl : lv_has ls 3 [(0, .ref (ad 808)), (1, .int a1), (2, .int a2)] := hl
  obtain ⟨H, hH⟩ : ∃ H, H = s.heap := ⟨_, rfl⟩
  have hP : va_P D vwCl (WC ca h ad pa σ) H := by rw [hH]; exact hP
  have hS : va_S A s.heap H [] := by rw [hH]; exact hS
  obtain ⟨QQ, hQ⟩ : ∃ Q9, Q9 = MQ below (va_Qi (fun (r : Int32) (_ : Unit) => r = R) (fun (_ : Unit) (t : State) => pw_post D ca (WC ca h ad pa σ) s.heap.size (WC ca h ad pa σ) t) A) ([.ref (ad 808), .int a1, .int a2] : List Value).toArray s 0 0 A := ⟨_, rfl⟩
  rw [← hQ]
  show W _ _ _ _ _ _ _ _ _ _ s.heap _ _ _ _ _
  rw [← hH]
  have hR : (if a2 < (8 : Int32) then a1 else (if (0 : Int32) < (a1 - ((σ 305 0) / (100 : Int32))) then (a1 - ((σ 305 0) / (100 : Int32))) else (0 : Int32))) = R := hR
  refine lv_iload_n hx hb dX3_tread_0 rfl (lv_at hl 2 rfl) ?_
  refine lv_bipush (v := (8 : Int32)) hx hb dX3_tread_1 (by decide) ?_
  refine lv_icmp_lt (tgt := 22) hx hb dX3_tread_3 (by decide) (fun c_1 => ?_) (fun c_1 => ?_)
  · have hR := (if_pos c_1).symm.trans hR
    refine lv_iload_n hx hb dX3_tread_22 rfl (lv_at hl 1 rfl) ?_
    subst hR
    rw [hQ]
    exact W.iret (v := a1) hx hb hr (fun t ht hW => ⟨⟨a1, (), rfl, rfl, ⟨by rw [ht]; exact hP, va_K.moved hW.alike hK, by rw [← hAe]; exact hD⟩⟩, hS.F ht⟩) hS.2.2 dX3_tread_23
  · have hR := (if_neg c_1).symm.trans hR
    refine lv_iconst (v := (0 : Int32)) hx hb dX3_tread_6 (by decide) ?_
    refine lv_iload_n hx hb dX3_tread_7 rfl (lv_at hl 1 rfl) ?_
    refine lv_aload_n hx hb dX3_tread_8 rfl (lv_at hl 0 rfl) ?_
    refine va_get (D := D) (ci := 3) (v := .int (σ 305 0)) (C := RX3) (T := TX3) (N := 7) hx hb hts hu3 hown hK hP 4 wc_4 rfl 5 (by decide) (hts (.fieldLink RX3 28 "GrazeBook$Grazing" "all" "I") (List.mem_cons_of_mem _ mw_147)) (fun _ h9 => h9) rfl dX3_tread_9 ?_
    refine lv_bipush (v := (100 : Int32)) hx hb dX3_tread_12 (by decide) ?_
    refine lv_idiv hx hb dX3_tread_14 (by decide) ?_
    refine lv_isub hx hb dX3_tread_15 ?_
    refine va_mmax hx hb (hml.trans hl.1.symm) hown (hts (.methodLink RX3 60 Lib.Math.max.name) (List.mem_cons_of_mem _ mw_583)) (hts (.static Lib.Math.max.name) (List.mem_cons_of_mem _ mw_520)) (hts (.initialized "java/lang/Math") (List.mem_cons_of_mem _ mw_68)) (hts (.code Lib.Math.max.name Lib.Math.max.code 2 (some .int)) (List.mem_cons_of_mem _ mw_521)) (Nat.le_of_ble_eq_true rfl) (Nat.le_of_ble_eq_true rfl) (Nat.le_of_ble_eq_true rfl) (Nat.le_of_ble_eq_true rfl) dX3_tread_16 ?_
    refine lv_goto (tgt := 23) hx hb dX3_tread_19 (by decide) ?_
    subst hR
    rw [hQ]
    exact W.iret (v := (if (0 : Int32) < (a1 - ((σ 305 0) / (100 : Int32))) then (a1 - ((σ 305 0) / (100 : Int32))) else (0 : Int32))) hx hb hr (fun t ht hW => ⟨⟨(if (0 : Int32) < (a1 - ((σ 305 0) / (100 : Int32))) then (a1 - ((σ 305 0) / (100 : Int32))) else (0 : Int32)), (), rfl, rfl, ⟨by rw [ht]; exact hP, va_K.moved hW.alike hK, by rw [← hAe]; exact hD⟩⟩, hS.F ht⟩) hS.2.2 dX3_tread_23

def s_X3_grow (a1 : Int32) (a2 : Int32) (a3 : Int32) : Int32 := (if (a1 + (if (1 : Int32) < ((a3 * a2) / (1000 : Int32)) then ((a3 * a2) / (1000 : Int32)) else (1 : Int32))) < a2 then (a1 + (if (1 : Int32) < ((a3 * a2) / (1000 : Int32)) then ((a3 * a2) / (1000 : Int32)) else (1 : Int32))) else a2)
set_option maxHeartbeats 1000000 in
set_option maxRecDepth 100000 in
theorem k_X3_grow (l : Launch) (D : va_G) (ca : Nat → ClassId) (a1 : Int32) (a2 : Int32) (a3 : Int32) (sz : Nat)   (R : Int32) (hR : s_X3_grow a1 a2 a3 = R) : Met l yX3_grow wsX3_grow ({ frames := 1, cells := 0, slots := 0, locals := 15 }) (va_Pc [.int a1, .int a2, .int a3] (pw_pre D ca [] sz)) (va_Qi (fun (r : Int32) (_ : Unit) => r = R) (fun (_ : Unit) (t : State) => pw_post D ca [] sz [] t) (va_A ([]) sz)) 0 0 (va_A ([]) sz) := by
  refine Met.ofW (cc := cX3_grow) (maxL := 3) (ret := (some .int)) (by decide) rfl ?_
  intro p e s m args below meth c s₁ B hml hv
  obtain ⟨rfl, hsz, hP, hK, hD0⟩ := hv
  have hx := B.exec
  have hb := B.bytes
  have hr := B.returns
  have hts := atoms_spec (ws := wsX3_grow) B.pre
  have hown : s.vm.findClass RX3 = some m.cls := findClass_of_methodNamed B.named
  have hlocks := B.notSynchronized
  subst hsz
  have hD := hD0.self (sz := s.heap.size)
  obtain ⟨A, hAe⟩ : ∃ A, A = va_A ([]) s.heap.size := ⟨_, rfl⟩
  rw [← hAe] at hD ⊢
  have hA : ∀ q : Nat, s.heap.size ≤ q → A q := fun q h => by rw [hAe]; exact Or.inr h
  have hS : va_S A s.heap s.heap [] := va_S.rf
  have hl := lv_entry ([.int a1, .int a2, .int a3]) (n := 3) (Nat.le_of_ble_eq_true rfl)
  rw [lg_entry_eq]
  generalize (lg_sl ([.int a1, .int a2, .int a3]) ++ List.replicate (3 - (lg_sl ([.int a1, .int a2, .int a3])).length) Slot.unset).toArray = ls at hl ⊢
  have hl : lv_has ls 3 [(0, .int a1), (1, .int a2), (2, .int a3)] := hl
  obtain ⟨H, hH⟩ : ∃ H, H = s.heap := ⟨_, rfl⟩
  have hP : va_P D vwCl ([]) H := by rw [hH]; exact hP
  have hS : va_S A s.heap H [] := by rw [hH]; exact hS
  obtain ⟨QQ, hQ⟩ : ∃ Q9, Q9 = MQ below (va_Qi (fun (r : Int32) (_ : Unit) => r = R) (fun (_ : Unit) (t : State) => pw_post D ca [] s.heap.size [] t) A) ([.int a1, .int a2, .int a3] : List Value).toArray s 0 0 A := ⟨_, rfl⟩
  rw [← hQ]
  show W _ _ _ _ _ _ _ _ _ _ s.heap _ _ _ _ _
  rw [← hH]
  have hR : (if (a1 + (if (1 : Int32) < ((a3 * a2) / (1000 : Int32)) then ((a3 * a2) / (1000 : Int32)) else (1 : Int32))) < a2 then (a1 + (if (1 : Int32) < ((a3 * a2) / (1000 : Int32)) then ((a3 * a2) / (1000 : Int32)) else (1 : Int32))) else a2) = R := hR
  refine lv_iload_n hx hb dX3_grow_0 rfl (lv_at hl 1 rfl) ?_
  refine lv_iload_n hx hb dX3_grow_1 rfl (lv_at hl 0 rfl) ?_
  refine lv_iconst (v := (1 : Int32)) hx hb dX3_grow_2 (by decide) ?_
  refine lv_iload_n hx hb dX3_grow_3 rfl (lv_at hl 2 rfl) ?_
  refine lv_iload_n hx hb dX3_grow_4 rfl (lv_at hl 1 rfl) ?_
  refine lv_imul hx hb dX3_grow_5 ?_
  refine lv_sipush (v := (1000 : Int32)) hx hb dX3_grow_6 (by decide) ?_
  refine lv_idiv hx hb dX3_grow_9 (by decide) ?_
  refine va_mmax hx hb (hml.trans hl.1.symm) hown (hts (.methodLink RX3 60 Lib.Math.max.name) (List.mem_cons_of_mem _ mw_583)) (hts (.static Lib.Math.max.name) (List.mem_cons_of_mem _ mw_520)) (hts (.initialized "java/lang/Math") (List.mem_cons_of_mem _ mw_68)) (hts (.code Lib.Math.max.name Lib.Math.max.code 2 (some .int)) (List.mem_cons_of_mem _ mw_521)) (Nat.le_of_ble_eq_true rfl) (Nat.le_of_ble_eq_true rfl) (Nat.le_of_ble_eq_true rfl) (Nat.le_of_ble_eq_true rfl) dX3_grow_10 ?_
  refine lv_iadd hx hb dX3_grow_13 ?_
  refine va_mmin hx hb (hml.trans hl.1.symm) hown (hts (.methodLink RX3 47 Lib.Math.min.name) (List.mem_cons_of_mem _ mw_587)) (hts (.static Lib.Math.min.name) (List.mem_cons_of_mem _ mw_588)) (hts (.initialized "java/lang/Math") (List.mem_cons_of_mem _ mw_68)) (hts (.code Lib.Math.min.name Lib.Math.min.code 2 (some .int)) (List.mem_cons_of_mem _ mw_589)) (Nat.le_of_ble_eq_true rfl) (Nat.le_of_ble_eq_true rfl) (Nat.le_of_ble_eq_true rfl) (Nat.le_of_ble_eq_true rfl) dX3_grow_14 ?_
  subst hR
  rw [hQ]
  exact W.iret (v := (if (a1 + (if (1 : Int32) < ((a3 * a2) / (1000 : Int32)) then ((a3 * a2) / (1000 : Int32)) else (1 : Int32))) < a2 then (a1 + (if (1 : Int32) < ((a3 * a2) / (1000 : Int32)) then ((a3 * a2) / (1000 : Int32)) else (1 : Int32))) else a2)) hx hb hr (fun t ht hW => ⟨⟨(if (a1 + (if (1 : Int32) < ((a3 * a2) / (1000 : Int32)) then ((a3 * a2) / (1000 : Int32)) else (1 : Int32))) < a2 then (a1 + (if (1 : Int32) < ((a3 * a2) / (1000 : Int32)) then ((a3 * a2) / (1000 : Int32)) else (1 : Int32))) else a2), (), rfl, rfl, ⟨by rw [ht]; exact hP, va_K.moved hW.alike hK, by rw [← hAe]; exact hD⟩⟩, hS.F ht⟩) hS.2.2 dX3_grow_17

def s_X3_greatestRemainder_c4  : Int32 → Int32 := fun x9 => match x9 with
  | v1_1 => v1_1
def s_X3_greatestRemainder_l4 (σ : St) (k_1 : Nat) : Int32 → Int32 := fun x9 => match x9 with
  | v1_1 => (if (σ 303 k_1) ≤ (σ 303 (v1_1.toNatClampNeg)) then v1_1 else (nI k_1))
def s_X3_greatestRemainder (σ : St) : Int32 := (s_X3_greatestRemainder_c4 (iter (s_X3_greatestRemainder_l4 σ) ((σ 304 0).toNatClampNeg - 1) 1 (0 : Int32)))
set_option maxHeartbeats 1000000 in
set_option maxRecDepth 100000 in
theorem k_X3_greatestRemainder (l : Launch) (D : va_G) (ca : Nat → ClassId) (h : Nat) (ad : Nat → Nat) (pa : Nat → Nat → Nat) (tb : Nat) (σ : St) (sz : Nat) (hI : IX σ)  (R : Int32) (hR : s_X3_greatestRemainder σ = R) : Met l yX3_greatestRemainder wsX3_greatestRemainder ({ frames := 0, cells := 0, slots := 0, locals := 0 }) (va_Pc [.ref (ad 808)] (cw_pre D ca (WC ca h ad pa σ) sz tb)) (va_Qi (fun (r : Int32) (_ : Unit) => r = R) (fun (_ : Unit) (t : State) => pw_post D ca (WC ca h ad pa σ) sz (WC ca h ad pa σ) t) (va_A (WC ca h ad pa σ) sz)) 0 0 (va_A (WC ca h ad pa σ) sz) := by
  refine Met.ofW (cc := cX3_greatestRemainder) (maxL := 3) (ret := (some .int)) (by decide) rfl ?_
  intro p e s m args below meth c s₁ B hml hv
  obtain ⟨rfl, ⟨hsz, hP, hK, hD0⟩, hZ⟩ := hv
  have hx := B.exec
  have hb := B.bytes
  have hr := B.returns
  have hts := atoms_spec (ws := wsX3_greatestRemainder) B.pre
  have hown : s.vm.findClass RX3 = some m.cls := findClass_of_methodNamed B.named
  have hlocks := B.notSynchronized
  have hu3 : ∀ w ∈ u_ws RX3 TX3 7, w ∈ wsX3_greatestRemainder := fun w h => List.mem_cons_of_mem _ (uw3 w h)
  subst hsz
  have hD := hD0.self (sz := s.heap.size)
  obtain ⟨A, hAe⟩ : ∃ A, A = va_A (WC ca h ad pa σ) s.heap.size := ⟨_, rfl⟩
  rw [← hAe] at hD hZ ⊢
  have hA : ∀ q : Nat, s.heap.size ≤ q → A q := fun q h => by rw [hAe]; exact Or.inr h
  have hS : va_S A s.heap s.heap [] := va_S.rf
  have hl := lv_entry ([.ref (ad 808)]) (n := 3) (Nat.le_of_ble_eq_true rfl)
  rw [lg_entry_eq]
  generalize (lg_sl ([.ref (ad 808)]) ++ List.replicate (3 - (lg_sl ([.ref (ad 808)])).length) Slot.unset).toArray = ls at hl ⊢
  have hl : lv_has ls 3 [(0, .ref (ad 808))] := hl
  obtain ⟨H, hH⟩ : ∃ H, H = s.heap := ⟨_, rfl⟩
  have hP : va_P D vwCl (WC ca h ad pa σ) H := by rw [hH]; exact hP
  have hS : va_S A s.heap H [] := by rw [hH]; exact hS
  obtain ⟨QQ, hQ⟩ : ∃ Q9, Q9 = MQ below (va_Qi (fun (r : Int32) (_ : Unit) => r = R) (fun (_ : Unit) (t : State) => pw_post D ca (WC ca h ad pa σ) s.heap.size (WC ca h ad pa σ) t) A) ([.ref (ad 808)] : List Value).toArray s 0 0 A := ⟨_, rfl⟩
  rw [← hQ]
  show W _ _ _ _ _ _ _ _ _ _ s.heap _ _ _ _ _
  rw [← hH]
  have hR : (s_X3_greatestRemainder_c4 (iter (s_X3_greatestRemainder_l4 σ) ((σ 304 0).toNatClampNeg - 1) 1 (0 : Int32))) = R := hR
  refine lv_iconst (v := (0 : Int32)) hx hb dX3_greatestRemainder_0 (by decide) ?_
  refine lv_istore_n (lv' := [(1, .int (0 : Int32)), (0, .ref (ad 808))]) hx hb dX3_greatestRemainder_1 rfl hl (by decide) rfl (fun ls hl => ?_)
  refine lv_iconst (v := (1 : Int32)) hx hb dX3_greatestRemainder_2 (by decide) ?_
  refine lv_istore_n (lv' := [(2, .int (1 : Int32)), (1, .int (0 : Int32)), (0, .ref (ad 808))]) hx hb dX3_greatestRemainder_3 rfl hl (by decide) rfl (fun ls hl => ?_)
  have hE_1 : ∀ (v1_1 : Int32) (hp_1 : vp_in v1_1 20) (H : Heap) (locs : List Loc) (ls : Array Slot), s_X3_greatestRemainder_c4 v1_1 = R → va_P D vwCl (WC ca h ad pa σ) H → va_D A (WC ca h ad pa σ) → va_S A s.heap H locs → lv_has ls 3 [(1, .int v1_1)] → W p l e ((headSpec wsX3_greatestRemainder ({ frames := 0, cells := 0, slots := 0, locals := 0 })).room) s m ([.ref (ad 808)] : List Value).toArray below meth c H locs 0 0 QQ (F0 m 35 ls []) := by
    intro v1_1 hp_1 H locs ls hR hP hD hS hl
    have hR : v1_1 = R := hR
    refine lv_iload_n hx hb dX3_greatestRemainder_35 rfl (lv_at hl 0 rfl) ?_
    subst hR
    rw [hQ]
    exact W.iret (v := v1_1) hx hb hr (fun t ht hW => ⟨⟨v1_1, (), rfl, rfl, ⟨by rw [ht]; exact hP, va_K.moved hW.alike hK, by rw [← hAe]; exact hD⟩⟩, hS.F ht⟩) hS.2.2 dX3_greatestRemainder_36
  have hL_1 : ∀ (n k_1 : Nat) (v1_1 : Int32) (hk_1 : lpk (σ 304 0) k_1 n) (hp_1 : vp_in v1_1 20) (H : Heap) (locs : List Loc) (ls : Array Slot), s_X3_greatestRemainder_c4 (iter (s_X3_greatestRemainder_l4 σ) n k_1 v1_1) = R → va_P D vwCl (WC ca h ad pa σ) H → va_D A (WC ca h ad pa σ) → va_S A s.heap H locs → lv_has ls 3 [(2, .int (nI k_1)), (1, .int v1_1), (0, .ref (ad 808))] → W p l e ((headSpec wsX3_greatestRemainder ({ frames := 0, cells := 0, slots := 0, locals := 0 })).room) s m ([.ref (ad 808)] : List Value).toArray below meth c H locs 0 0 QQ (F0 m 4 ls []) := by
    intro n
    induction n with
    | zero =>
      intro k_1 v1_1 hk_1 hp_1 H locs ls hR hP hD hS hl
      refine lv_iload_n hx hb dX3_greatestRemainder_4 rfl (lv_at hl 0 rfl) ?_
      refine lv_aload_n hx hb dX3_greatestRemainder_5 rfl (lv_at hl 2 rfl) ?_
      refine va_get (D := D) (ci := 3) (v := .int (σ 304 0)) (C := RX3) (T := TX3) (N := 7) hx hb hts hu3 hown hK hP 4 wc_4 rfl 4 (by decide) (hts (.fieldLink RX3 24 "GrazeBook$Grazing" "size" "I") (List.mem_cons_of_mem _ mw_146)) (fun _ h9 => h9) rfl dX3_greatestRemainder_6 ?_
      refine lv_icmp_ge (tgt := 35) hx hb dX3_greatestRemainder_9 (by decide) (fun _ => ?_) (fun c_2 => absurd (ge_end hk_1) c_2)
      exact hE_1 v1_1 hp_1 _ _ _ hR hP hD hS (lv_sub hl [1] rfl)
    | succ n ih =>
      intro k_1 v1_1 hk_1 hp_1 H locs ls hR hP hD hS hl
      obtain ⟨S_1, hB_1⟩ : ∃ s9, s_X3_greatestRemainder_l4 σ k_1 v1_1 = s9 := ⟨_, rfl⟩
      have hR : s_X3_greatestRemainder_c4 (iter (s_X3_greatestRemainder_l4 σ) n (k_1 + 1) S_1) = R := by rw [← hB_1]; exact hR
      have hB_1 : (if (σ 303 k_1) ≤ (σ 303 (v1_1.toNatClampNeg)) then v1_1 else (nI k_1)) = S_1 := hB_1
      refine lv_iload_n hx hb dX3_greatestRemainder_4 rfl (lv_at hl 0 rfl) ?_
      refine lv_aload_n hx hb dX3_greatestRemainder_5 rfl (lv_at hl 2 rfl) ?_
      refine va_get (D := D) (ci := 3) (v := .int (σ 304 0)) (C := RX3) (T := TX3) (N := 7) hx hb hts hu3 hown hK hP 4 wc_4 rfl 4 (by decide) (hts (.fieldLink RX3 24 "GrazeBook$Grazing" "size" "I") (List.mem_cons_of_mem _ mw_146)) (fun _ h9 => h9) rfl dX3_greatestRemainder_6 ?_
      refine lv_icmp_ge (tgt := 35) hx hb dX3_greatestRemainder_9 (by decide) (fun c_3 => absurd c_3 (ge_go hk_1)) (fun _ => ?_)
      refine lv_aload_n hx hb dX3_greatestRemainder_12 rfl (lv_at hl 2 rfl) ?_
      refine va_get (D := D) (ci := 3) (v := .ref (ad 303)) (C := RX3) (T := TX3) (N := 7) hx hb hts hu3 hown hK hP 4 wc_4 rfl 3 (by decide) (hts (.fieldLink RX3 21 "GrazeBook$Grazing" "remainders" "[I") (List.mem_cons_of_mem _ mw_145)) (fun _ h9 => h9) rfl dX3_greatestRemainder_13 ?_
      refine lv_iload_n hx hb dX3_greatestRemainder_16 rfl (lv_at hl 0 rfl) ?_
      refine va_iald_k (k := k_1) (v := (σ 303 k_1)) hx hb hK hP 20 0 wc_20 rfl (ix_cl hk_1) rfl (ix_loop (N := 20) hk_1 (ix_304 hI) (by decide) (by decide)) dX3_greatestRemainder_17 ?_
      refine lv_aload_n hx hb dX3_greatestRemainder_18 rfl (lv_at hl 2 rfl) ?_
      refine va_get (D := D) (ci := 3) (v := .ref (ad 303)) (C := RX3) (T := TX3) (N := 7) hx hb hts hu3 hown hK hP 4 wc_4 rfl 3 (by decide) (hts (.fieldLink RX3 21 "GrazeBook$Grazing" "remainders" "[I") (List.mem_cons_of_mem _ mw_145)) (fun _ h9 => h9) rfl dX3_greatestRemainder_19 ?_
      refine lv_iload_n hx hb dX3_greatestRemainder_22 rfl (lv_at hl 1 rfl) ?_
      refine va_iald_k (k := (v1_1.toNatClampNeg)) (v := (σ 303 (v1_1.toNatClampNeg))) hx hb hK hP 20 0 wc_20 rfl rfl rfl hp_1 dX3_greatestRemainder_23 ?_
      refine lv_icmp_le (tgt := 29) hx hb dX3_greatestRemainder_24 (by decide) (fun c_4 => ?_) (fun c_4 => ?_)
      · have hB_1 := (if_pos c_4).symm.trans hB_1
        refine lv_iinc (v := (nI (k_1 + 1))) (lv' := [(2, .int (nI (k_1 + 1))), (1, .int v1_1), (0, .ref (ad 808))]) hx hb dX3_greatestRemainder_29 hl (k := 0) rfl (by rw [show Int32.ofInt 1 = 1 from by decide]; exact nI_1 _) (by decide) rfl (fun ls hl => ?_)
        refine lv_goto (tgt := 4) hx hb dX3_greatestRemainder_32 (by decide) ?_
        subst hB_1
        exact ih (k_1 + 1) v1_1 (ge_next hk_1) hp_1 _ _ _ hR hP hD hS (lv_sub hl [0, 1, 2] rfl)
      · have hB_1 := (if_neg c_4).symm.trans hB_1
        refine lv_iload_n hx hb dX3_greatestRemainder_27 rfl (lv_at hl 0 rfl) ?_
        refine lv_istore_n (lv' := [(1, .int (nI k_1)), (2, .int (nI k_1)), (0, .ref (ad 808))]) hx hb dX3_greatestRemainder_28 rfl hl (by decide) rfl (fun ls hl => ?_)
        refine lv_iinc (v := (nI (k_1 + 1))) (lv' := [(2, .int (nI (k_1 + 1))), (1, .int (nI k_1)), (0, .ref (ad 808))]) hx hb dX3_greatestRemainder_29 hl (k := 1) rfl (by rw [show Int32.ofInt 1 = 1 from by decide]; exact nI_1 _) (by decide) rfl (fun ls hl => ?_)
        refine lv_goto (tgt := 4) hx hb dX3_greatestRemainder_32 (by decide) ?_
        subst hB_1
        exact ih (k_1 + 1) (nI k_1) (ge_next hk_1) (ix_loop (N := 20) hk_1 (ix_304 hI) (by decide) (by decide)) _ _ _ hR hP hD hS (lv_sub hl [0, 1, 2] rfl)
  exact hL_1 _ 1 (0 : Int32) ⟨rfl, by decide⟩ (by unfold vp_in; decide) _ _ _ hR hP hD hS (lv_sub hl [0, 1, 2] rfl)

theorem grm_ok {σ : St} (h : IX σ) : vp_in (s_X3_greatestRemainder σ) 20 := by
  unfold s_X3_greatestRemainder s_X3_greatestRemainder_c4
  dsimp only
  have h1 := ix_304 h
  by_cases h0 : (σ 304 0).toNatClampNeg = 0
  · rw [h0]
    show vp_in 0 20
    unfold vp_in
    decide
  · refine iter_inv (fun v => vp_in v 20) (N := 20) (fun k s hk hs => ?_) _ _ _ (by rw [tn_toInt] at h0 ⊢; omega) (by unfold vp_in; decide)
    unfold s_X3_greatestRemainder_l4
    dsimp only
    split
    · exact hs
    · exact vp_in_nI hk (by decide)

def s_X3_shareHunger_c72  : (Int32 × St) → St := fun x9 => match x9 with
  | (v2_2, τ_2) => τ_2
def s_X3_shareHunger_l72  (k_2 : Nat) : (Int32 × St) → Option (Int32 × St) := fun x9 => match x9 with
  | (v2_2, τ_2) => (if v2_2 ≤ (0 : Int32) then none else (some ((v2_2 + (-1 : Int32)), (put (put τ_2 302 ((s_X3_greatestRemainder τ_2).toNatClampNeg) ((τ_2 302 ((s_X3_greatestRemainder τ_2).toNatClampNeg)) + (1 : Int32))) 303 ((s_X3_greatestRemainder τ_2).toNatClampNeg) (0 : Int32)))))
def s_X3_shareHunger_c4  : (Int32 × St) → St := fun x9 => match x9 with
  | (v2_1, τ_1) => (s_X3_shareHunger_c72 (iterC s_X3_shareHunger_l72 ((τ_1 304 0).toNatClampNeg - 0) 0 (v2_1, τ_1)))
def s_X3_shareHunger_l4 (a1 : Int32) (k_1 : Nat) : (Int32 × St) → Option (Int32 × St) := fun x9 => match x9 with
  | (v2_1, τ_1) => (if (τ_1 305 0) ≤ (0 : Int32) then none else (some ((v2_1 - ((put τ_1 302 k_1 ((a1 * (τ_1 301 k_1)) / (τ_1 305 0))) 302 k_1)), (put (put τ_1 302 k_1 ((a1 * (τ_1 301 k_1)) / (τ_1 305 0))) 303 k_1 ((a1 * (τ_1 301 k_1)) - (a1 * (τ_1 301 k_1)) / (τ_1 305 0) * (τ_1 305 0))))))
def s_X3_shareHunger (σ : St) (a1 : Int32) : St := (s_X3_shareHunger_c4 (iterC (s_X3_shareHunger_l4 a1) ((σ 304 0).toNatClampNeg - 0) 0 (a1, σ)))
theorem fr_s_X3_shareHunger_c72  (s : (Int32 × St)) {f : Nat} (h302 : f ≠ 302) (h303 : f ≠ 303) : (s_X3_shareHunger_c72 s) f = s.2 f := by
  obtain ⟨v2_2, τ_2⟩ := s
  unfold s_X3_shareHunger_c72
  all_goals ((try dsimp only) <;> ((repeat' split) <;> (try simp only [put_fr, ne_eq, not_false_eq_true, h302, h303])))
theorem fr_s_X3_shareHunger_l72  (k_2 : Nat) (s : (Int32 × St)) {f : Nat} (h302 : f ≠ 302) (h303 : f ≠ 303) : ∀ t, s_X3_shareHunger_l72 k_2 s = some t → t.2 f = s.2 f := by
  obtain ⟨v2_2, τ_2⟩ := s
  intro t h
  unfold s_X3_shareHunger_l72 at h
  (try dsimp only at h)
  (repeat' split at h) <;> first | exact absurd h.symm (Option.some_ne_none _) | (obtain rfl := Option.some.inj h; simp only [put_fr, ne_eq, not_false_eq_true, h302, h303, fr_s_X3_shareHunger_c72])
theorem fri_s_X3_shareHunger_l72  (n k : Nat) (s : (Int32 × St)) {f : Nat} (h302 : f ≠ 302) (h303 : f ≠ 303) : (iterC s_X3_shareHunger_l72 n k s).2 f = s.2 f := iterC_fr (P := (fun s => s.2 f)) (fun k s t h => fr_s_X3_shareHunger_l72  k s h302 h303 t h) n k s
theorem fr_s_X3_shareHunger_c4  (s : (Int32 × St)) {f : Nat} (h302 : f ≠ 302) (h303 : f ≠ 303) : (s_X3_shareHunger_c4 s) f = s.2 f := by
  obtain ⟨v2_1, τ_1⟩ := s
  unfold s_X3_shareHunger_c4
  all_goals ((try dsimp only) <;> ((repeat' split) <;> (try simp only [put_fr, ne_eq, not_false_eq_true, h302, h303, fr_s_X3_shareHunger_c72, fri_s_X3_shareHunger_l72])))
theorem fr_s_X3_shareHunger_l4 (a1 : Int32) (k_1 : Nat) (s : (Int32 × St)) {f : Nat} (h302 : f ≠ 302) (h303 : f ≠ 303) : ∀ t, s_X3_shareHunger_l4 a1 k_1 s = some t → t.2 f = s.2 f := by
  obtain ⟨v2_1, τ_1⟩ := s
  intro t h
  unfold s_X3_shareHunger_l4 at h
  (try dsimp only at h)
  (repeat' split at h) <;> first | exact absurd h.symm (Option.some_ne_none _) | exact fr_s_X3_shareHunger_l72 _ _ h302 h303 t h | (obtain rfl := Option.some.inj h; simp only [put_fr, ne_eq, not_false_eq_true, h302, h303, fr_s_X3_shareHunger_c72, fri_s_X3_shareHunger_l72, fr_s_X3_shareHunger_c4])
theorem fri_s_X3_shareHunger_l4 (a1 : Int32) (n k : Nat) (s : (Int32 × St)) {f : Nat} (h302 : f ≠ 302) (h303 : f ≠ 303) : (iterC (s_X3_shareHunger_l4 a1) n k s).2 f = s.2 f := iterC_fr (P := (fun s => s.2 f)) (fun k s t h => fr_s_X3_shareHunger_l4 a1 k s h302 h303 t h) n k s
theorem fr_s_X3_shareHunger (σ : St) (a1 : Int32) {f : Nat} (h302 : f ≠ 302) (h303 : f ≠ 303) : (s_X3_shareHunger σ a1 ) f = σ f := by
  unfold s_X3_shareHunger
  all_goals ((try dsimp only) <;> ((repeat' split) <;> (try simp only [put_fr, ne_eq, not_false_eq_true, h302, h303, fr_s_X3_shareHunger_c72, fri_s_X3_shareHunger_l72, fr_s_X3_shareHunger_c4, fri_s_X3_shareHunger_l4])))
set_option maxHeartbeats 1000000 in
set_option maxRecDepth 100000 in
theorem k_X3_shareHunger (l : Launch) (D : va_G) (ca : Nat → ClassId) (h : Nat) (ad : Nat → Nat) (pa : Nat → Nat → Nat) (tb : Nat) (σ : St) (a1 : Int32) (sz : Nat) (hI : IX σ)  (R : St) (hR : s_X3_shareHunger σ a1 = R) : Met l yX3_shareHunger wsX3_shareHunger ({ frames := 1, cells := 0, slots := 0, locals := 22 }) (va_Pc [.ref (ad 808), .int a1] (cw_pre D ca (WC ca h ad pa σ) sz tb)) (va_Qv (fun _ : Unit => True) (fun (_ : Unit) (t : State) => pw_post D ca (WC ca h ad pa σ) sz (WC ca h ad pa R) t ∧ IX R) (va_A (WC ca h ad pa σ) sz)) 0 0 (va_A (WC ca h ad pa σ) sz) := by
  refine Met.ofW (cc := cX3_shareHunger) (maxL := 5) (ret := none) (by decide) rfl ?_
  intro p e s m args below meth c s₁ B hml hv
  obtain ⟨rfl, ⟨hsz, hP, hK, hD0⟩, hZ⟩ := hv
  have hx := B.exec
  have hb := B.bytes
  have hr := B.returns
  have hts := atoms_spec (ws := wsX3_shareHunger) B.pre
  have hown : s.vm.findClass RX3 = some m.cls := findClass_of_methodNamed B.named
  have hlocks := B.notSynchronized
  have hu3 : ∀ w ∈ u_ws RX3 TX3 7, w ∈ wsX3_shareHunger := fun w h => List.mem_cons_of_mem _ (uw3 w h)
  subst hsz
  have hD := hD0.self (sz := s.heap.size)
  obtain ⟨A, hAe⟩ : ∃ A, A = va_A (WC ca h ad pa σ) s.heap.size := ⟨_, rfl⟩
  rw [← hAe] at hD hZ ⊢
  have hA : ∀ q : Nat, s.heap.size ≤ q → A q := fun q h => by rw [hAe]; exact Or.inr h
  have hS : va_S A s.heap s.heap [] := va_S.rf
  have hl := lv_entry ([.ref (ad 808), .int a1]) (n := 5) (Nat.le_of_ble_eq_true rfl)
  rw [lg_entry_eq]
  generalize (lg_sl ([.ref (ad 808), .int a1]) ++ List.replicate (5 - (lg_sl ([.ref (ad 808), .int a1])).length) Slot.unset).toArray = ls at hl ⊢
  have hl : lv_has ls 5 [(0, .ref (ad 808)), (1, .int a1)] := hl
  obtain ⟨H, hH⟩ : ∃ H, H = s.heap := ⟨_, rfl⟩
  have hP : va_P D vwCl (WC ca h ad pa σ) H := by rw [hH]; exact hP
  have hS : va_S A s.heap H [] := by rw [hH]; exact hS
  obtain ⟨QQ, hQ⟩ : ∃ Q9, Q9 = MQ below (va_Qv (fun _ : Unit => True) (fun (_ : Unit) (t : State) => pw_post D ca (WC ca h ad pa σ) s.heap.size (WC ca h ad pa R) t ∧ IX R) A) ([.ref (ad 808), .int a1] : List Value).toArray s 0 0 A := ⟨_, rfl⟩
  rw [← hQ]
  show W _ _ _ _ _ _ _ _ _ _ s.heap _ _ _ _ _
  rw [← hH]
  have hR : (s_X3_shareHunger_c4 (iterC (s_X3_shareHunger_l4 a1) ((σ 304 0).toNatClampNeg - 0) 0 (a1, σ))) = R := hR
  refine lv_iload_n hx hb dX3_shareHunger_0 rfl (lv_at hl 1 rfl) ?_
  refine lv_istore_n (lv' := [(2, .int a1), (0, .ref (ad 808)), (1, .int a1)]) hx hb dX3_shareHunger_1 rfl hl (by decide) rfl (fun ls hl => ?_)
  refine lv_iconst (v := (0 : Int32)) hx hb dX3_shareHunger_2 (by decide) ?_
  refine lv_istore_n (lv' := [(3, .int (0 : Int32)), (2, .int a1), (0, .ref (ad 808)), (1, .int a1)]) hx hb dX3_shareHunger_3 rfl hl (by decide) rfl (fun ls hl => ?_)
  have hE_1 : ∀ (v2_1 : Int32) (τ_1 : St) (hI_1 : IX τ_1) (hf_1 : τ_1 811 = σ 811 ∧ τ_1 812 = σ 812 ∧ τ_1 814 = σ 814 ∧ τ_1 815 = σ 815) (H : Heap) (locs : List Loc) (ls : Array Slot), s_X3_shareHunger_c4 (v2_1, τ_1) = R → va_P D vwCl (WC ca h ad pa τ_1) H → va_D A (WC ca h ad pa τ_1) → va_S A s.heap H locs → lv_has ls 5 [(2, .int v2_1), (0, .ref (ad 808))] → W p l e ((headSpec wsX3_shareHunger ({ frames := 1, cells := 0, slots := 0, locals := 22 })).room) s m ([.ref (ad 808), .int a1] : List Value).toArray below meth c H locs 0 0 QQ (F0 m 70 ls []) := by
    intro v2_1 τ_1 hI_1 hf_1 H locs ls hR hP hD hS hl
    have hR : (s_X3_shareHunger_c72 (iterC s_X3_shareHunger_l72 ((τ_1 304 0).toNatClampNeg - 0) 0 (v2_1, τ_1))) = R := hR
    refine lv_iconst (v := (0 : Int32)) hx hb dX3_shareHunger_70 (by decide) ?_
    refine lv_istore_n (lv' := [(3, .int (0 : Int32)), (2, .int v2_1), (0, .ref (ad 808))]) hx hb dX3_shareHunger_71 rfl hl (by decide) rfl (fun ls hl => ?_)
    have hE_2 : ∀ (v2_2 : Int32) (τ_2 : St) (hI_2 : IX τ_2) (hf_2 : τ_2 811 = σ 811 ∧ τ_2 812 = σ 812 ∧ τ_2 814 = σ 814 ∧ τ_2 815 = σ 815) (H : Heap) (locs : List Loc) (ls : Array Slot), s_X3_shareHunger_c72 (v2_2, τ_2) = R → va_P D vwCl (WC ca h ad pa τ_2) H → va_D A (WC ca h ad pa τ_2) → va_S A s.heap H locs → lv_has ls 5 [] → W p l e ((headSpec wsX3_shareHunger ({ frames := 1, cells := 0, slots := 0, locals := 22 })).room) s m ([.ref (ad 808), .int a1] : List Value).toArray below meth c H locs 0 0 QQ (F0 m 118 ls []) := by
      intro v2_2 τ_2 hI_2 hf_2 H locs ls hR hP hD hS hl
      have hR : τ_2 = R := hR
      have hI9 : IX τ_2 := hI_2
      subst hR
      rw [hQ]
      exact W.vret hx hb hr (fun t ht hW => ⟨⟨(), rfl, trivial, ⟨by rw [ht]; exact hP, va_K.moved hW.alike hK, by rw [← hAe]; exact hD⟩, hI9⟩, hS.F ht⟩) hS.2.2 dX3_shareHunger_118
    have hL_2 : ∀ (n k_2 : Nat) (v2_2 : Int32) (τ_2 : St) (hk_2 : lpk (τ_2 304 0) k_2 n) (hI_2 : IX τ_2) (hf_2 : τ_2 811 = σ 811 ∧ τ_2 812 = σ 812 ∧ τ_2 814 = σ 814 ∧ τ_2 815 = σ 815) (H : Heap) (locs : List Loc) (ls : Array Slot), s_X3_shareHunger_c72 (iterC s_X3_shareHunger_l72 n k_2 (v2_2, τ_2)) = R → va_P D vwCl (WC ca h ad pa τ_2) H → va_D A (WC ca h ad pa τ_2) → va_S A s.heap H locs → lv_has ls 5 [(3, .int (nI k_2)), (2, .int v2_2), (0, .ref (ad 808))] → W p l e ((headSpec wsX3_shareHunger ({ frames := 1, cells := 0, slots := 0, locals := 22 })).room) s m ([.ref (ad 808), .int a1] : List Value).toArray below meth c H locs 0 0 QQ (F0 m 72 ls []) := by
      intro n
      induction n with
      | zero =>
        intro k_2 v2_2 τ_2 hk_2 hI_2 hf_2 H locs ls hR hP hD hS hl
        refine lv_iload_n hx hb dX3_shareHunger_72 rfl (lv_at hl 0 rfl) ?_
        refine lv_aload_n hx hb dX3_shareHunger_73 rfl (lv_at hl 2 rfl) ?_
        refine va_get (D := D) (ci := 3) (v := .int (τ_2 304 0)) (C := RX3) (T := TX3) (N := 7) hx hb hts hu3 hown hK hP 4 wc_4 rfl 4 (by decide) (hts (.fieldLink RX3 24 "GrazeBook$Grazing" "size" "I") (List.mem_cons_of_mem _ mw_146)) (fun _ h9 => h9) rfl dX3_shareHunger_74 ?_
        refine lv_icmp_ge (tgt := 118) hx hb dX3_shareHunger_77 (by decide) (fun _ => ?_) (fun c_3 => absurd (ge_end hk_2) c_3)
        exact hE_2 v2_2 τ_2 hI_2 hf_2 _ _ _ hR hP hD hS (lv_sub hl [] rfl)
      | succ n ih =>
        intro k_2 v2_2 τ_2 hk_2 hI_2 hf_2 H locs ls hR hP hD hS hl
        obtain ⟨S_2, hB_2⟩ : ∃ s9, s_X3_shareHunger_l72 k_2 (v2_2, τ_2) = s9 := ⟨_, rfl⟩
        have hR : s_X3_shareHunger_c72 (iterC1 s_X3_shareHunger_l72 n k_2 (v2_2, τ_2) S_2) = R := by rw [← hB_2]; exact hR
        have hB_2 : (if v2_2 ≤ (0 : Int32) then none else (some ((v2_2 + (-1 : Int32)), (put (put τ_2 302 ((s_X3_greatestRemainder τ_2).toNatClampNeg) ((τ_2 302 ((s_X3_greatestRemainder τ_2).toNatClampNeg)) + (1 : Int32))) 303 ((s_X3_greatestRemainder τ_2).toNatClampNeg) (0 : Int32))))) = S_2 := hB_2
        refine lv_iload_n hx hb dX3_shareHunger_72 rfl (lv_at hl 0 rfl) ?_
        refine lv_aload_n hx hb dX3_shareHunger_73 rfl (lv_at hl 2 rfl) ?_
        refine va_get (D := D) (ci := 3) (v := .int (τ_2 304 0)) (C := RX3) (T := TX3) (N := 7) hx hb hts hu3 hown hK hP 4 wc_4 rfl 4 (by decide) (hts (.fieldLink RX3 24 "GrazeBook$Grazing" "size" "I") (List.mem_cons_of_mem _ mw_146)) (fun _ h9 => h9) rfl dX3_shareHunger_74 ?_
        refine lv_icmp_ge (tgt := 118) hx hb dX3_shareHunger_77 (by decide) (fun c_4 => absurd c_4 (ge_go hk_2)) (fun _ => ?_)
        refine lv_iload_n hx hb dX3_shareHunger_80 rfl (lv_at hl 1 rfl) ?_
        refine lv_if_le (tgt := 118) hx hb dX3_shareHunger_81 (by decide) (fun c_5 => ?_) (fun c_5 => ?_)
        · have hB_2 := (if_pos c_5).symm.trans hB_2
          subst hB_2
          exact hE_2 v2_2 τ_2 hI_2 hf_2 _ _ _ hR hP hD hS (lv_sub hl [] rfl)
        · have hB_2 := (if_neg c_5).symm.trans hB_2
          refine lv_aload_n hx hb dX3_shareHunger_84 rfl (lv_at hl 2 rfl) ?_
          have hF := pw_free hD hS hA
          refine va_calli (va_runV (As := []) (rest := []) ⟨hx, hb, hml, hown, hts⟩ (k_X3_greatestRemainder l D ca h ad pa tb τ_2 H.size hI_2 _ rfl) (cwV 0 hts gX3_shareHunger_X3_greatestRemainder rfl rfl rfl (by decide +kernel) ⟨Nat.le_of_ble_eq_true rfl, Nat.le_of_ble_eq_true rfl⟩) ⟨cw_blind, va_recv hK hP (ci := 3) (q0 := 4) rfl wc_4, cw_give hP hK hD hZ hS hF⟩ rfl rfl hl.1 rfl (lv_room (Nat.le_of_ble_eq_true rfl)) dX3_shareHunger_85 ⟨Nat.le_of_ble_eq_true rfl, Nat.le_of_ble_eq_true rfl⟩) hS (fun q _ h => hF q h) hF (fun r_6 u t H1 locs ht hvm hw hB hz1 hk1 hS => ?_)
          rw [hw]
          obtain ⟨hP, hD⟩ := pw_back hF ht hB
          clear hB hk1 hz1 hF
          generalize H1 = H at hP hS ⊢
          refine lv_istore (lv' := [(4, .int (s_X3_greatestRemainder τ_2)), (3, .int (nI k_2)), (2, .int v2_2), (0, .ref (ad 808))]) hx hb dX3_shareHunger_88 hl (by decide) rfl (fun ls hl => ?_)
          refine lv_aload_n hx hb dX3_shareHunger_90 rfl (lv_at hl 3 rfl) ?_
          refine va_get (D := D) (ci := 3) (v := .ref (ad 302)) (C := RX3) (T := TX3) (N := 7) hx hb hts hu3 hown hK hP 4 wc_4 rfl 2 (by decide) (hts (.fieldLink RX3 18 "GrazeBook$Grazing" "hungers" "[I") (List.mem_cons_of_mem _ mw_144)) (fun _ h9 => h9) rfl dX3_shareHunger_91 ?_
          refine lv_iload hx hb dX3_shareHunger_94 (lv_at hl 0 rfl) ?_
          refine lv_dup2_11 hx hb dX3_shareHunger_96 rfl rfl ?_
          refine va_iald_k (k := ((s_X3_greatestRemainder τ_2).toNatClampNeg)) (v := (τ_2 302 ((s_X3_greatestRemainder τ_2).toNatClampNeg))) hx hb hK hP 19 0 wc_19 rfl rfl rfl (grm_ok hI_2) dX3_shareHunger_97 ?_
          refine lv_iconst (v := (1 : Int32)) hx hb dX3_shareHunger_98 (by decide) ?_
          refine lv_iadd hx hb dX3_shareHunger_99 ?_
          refine va_iast_k (k := ((s_X3_greatestRemainder τ_2).toNatClampNeg)) hx hb hK hP hD hS 19 0 wc_19 rfl rfl (grm_ok hI_2) dX3_shareHunger_100 (fun H locs hP hD hS => ?_)
          rw [wc_s302] at hP hD
          refine lv_aload_n hx hb dX3_shareHunger_101 rfl (lv_at hl 3 rfl) ?_
          refine va_get (D := D) (ci := 3) (v := .ref (ad 303)) (C := RX3) (T := TX3) (N := 7) hx hb hts hu3 hown hK hP 4 wc_4 rfl 3 (by decide) (hts (.fieldLink RX3 21 "GrazeBook$Grazing" "remainders" "[I") (List.mem_cons_of_mem _ mw_145)) (fun _ h9 => h9) rfl dX3_shareHunger_102 ?_
          refine lv_iload hx hb dX3_shareHunger_105 (lv_at hl 0 rfl) ?_
          refine lv_iconst (v := (0 : Int32)) hx hb dX3_shareHunger_107 (by decide) ?_
          refine va_iast_k (k := ((s_X3_greatestRemainder τ_2).toNatClampNeg)) hx hb hK hP hD hS 20 0 wc_20 rfl rfl (grm_ok hI_2) dX3_shareHunger_108 (fun H locs hP hD hS => ?_)
          rw [wc_s303] at hP hD
          refine lv_iinc (v := (v2_2 + (-1 : Int32))) (lv' := [(2, .int (v2_2 + (-1 : Int32))), (4, .int (s_X3_greatestRemainder τ_2)), (3, .int (nI k_2)), (0, .ref (ad 808))]) hx hb dX3_shareHunger_109 hl (k := 2) rfl (by rw [show Int32.ofInt (-1) = (-1 : Int32) from by decide]) (by decide) rfl (fun ls hl => ?_)
          refine lv_iinc (v := (nI (k_2 + 1))) (lv' := [(3, .int (nI (k_2 + 1))), (2, .int (v2_2 + (-1 : Int32))), (4, .int (s_X3_greatestRemainder τ_2)), (0, .ref (ad 808))]) hx hb dX3_shareHunger_112 hl (k := 2) rfl (by rw [show Int32.ofInt 1 = 1 from by decide]; exact nI_1 _) (by decide) rfl (fun ls hl => ?_)
          refine lv_goto (tgt := 72) hx hb dX3_shareHunger_115 (by decide) ?_
          subst hB_2
          exact ih (k_2 + 1) (v2_2 + (-1 : Int32)) (put (put τ_2 302 ((s_X3_greatestRemainder τ_2).toNatClampNeg) ((τ_2 302 ((s_X3_greatestRemainder τ_2).toNatClampNeg)) + (1 : Int32))) 303 ((s_X3_greatestRemainder τ_2).toNatClampNeg) (0 : Int32)) (ge_next hk_2) hI_2 (⟨hf_2.1, hf_2.2.1, hf_2.2.2.1, hf_2.2.2.2⟩) _ _ _ hR hP hD hS (lv_sub hl [0, 1, 3] rfl)
    exact hL_2 _ 0 v2_1 τ_1 ⟨rfl, by decide⟩ hI_1 (⟨hf_1.1, hf_1.2.1, hf_1.2.2.1, hf_1.2.2.2⟩) _ _ _ hR hP hD hS (lv_sub hl [0, 1, 2] rfl)
  have hL_1 : ∀ (n k_1 : Nat) (v2_1 : Int32) (τ_1 : St) (hk_1 : lpk (τ_1 304 0) k_1 n) (hI_1 : IX τ_1) (hf_1 : τ_1 811 = σ 811 ∧ τ_1 812 = σ 812 ∧ τ_1 814 = σ 814 ∧ τ_1 815 = σ 815) (H : Heap) (locs : List Loc) (ls : Array Slot), s_X3_shareHunger_c4 (iterC (s_X3_shareHunger_l4 a1) n k_1 (v2_1, τ_1)) = R → va_P D vwCl (WC ca h ad pa τ_1) H → va_D A (WC ca h ad pa τ_1) → va_S A s.heap H locs → lv_has ls 5 [(3, .int (nI k_1)), (2, .int v2_1), (0, .ref (ad 808)), (1, .int a1)] → W p l e ((headSpec wsX3_shareHunger ({ frames := 1, cells := 0, slots := 0, locals := 22 })).room) s m ([.ref (ad 808), .int a1] : List Value).toArray below meth c H locs 0 0 QQ (F0 m 4 ls []) := by
    intro n
    induction n with
    | zero =>
      intro k_1 v2_1 τ_1 hk_1 hI_1 hf_1 H locs ls hR hP hD hS hl
      refine lv_iload_n hx hb dX3_shareHunger_4 rfl (lv_at hl 0 rfl) ?_
      refine lv_aload_n hx hb dX3_shareHunger_5 rfl (lv_at hl 2 rfl) ?_
      refine va_get (D := D) (ci := 3) (v := .int (τ_1 304 0)) (C := RX3) (T := TX3) (N := 7) hx hb hts hu3 hown hK hP 4 wc_4 rfl 4 (by decide) (hts (.fieldLink RX3 24 "GrazeBook$Grazing" "size" "I") (List.mem_cons_of_mem _ mw_146)) (fun _ h9 => h9) rfl dX3_shareHunger_6 ?_
      refine lv_icmp_ge (tgt := 70) hx hb dX3_shareHunger_9 (by decide) (fun _ => ?_) (fun c_7 => absurd (ge_end hk_1) c_7)
      exact hE_1 v2_1 τ_1 hI_1 hf_1 _ _ _ hR hP hD hS (lv_sub hl [1, 2] rfl)
    | succ n ih =>
      intro k_1 v2_1 τ_1 hk_1 hI_1 hf_1 H locs ls hR hP hD hS hl
      obtain ⟨S_1, hB_1⟩ : ∃ s9, s_X3_shareHunger_l4 a1 k_1 (v2_1, τ_1) = s9 := ⟨_, rfl⟩
      have hR : s_X3_shareHunger_c4 (iterC1 (s_X3_shareHunger_l4 a1) n k_1 (v2_1, τ_1) S_1) = R := by rw [← hB_1]; exact hR
      have hB_1 : (if (τ_1 305 0) ≤ (0 : Int32) then none else (some ((v2_1 - ((put τ_1 302 k_1 ((a1 * (τ_1 301 k_1)) / (τ_1 305 0))) 302 k_1)), (put (put τ_1 302 k_1 ((a1 * (τ_1 301 k_1)) / (τ_1 305 0))) 303 k_1 ((a1 * (τ_1 301 k_1)) - (a1 * (τ_1 301 k_1)) / (τ_1 305 0) * (τ_1 305 0)))))) = S_1 := hB_1
      refine lv_iload_n hx hb dX3_shareHunger_4 rfl (lv_at hl 0 rfl) ?_
      refine lv_aload_n hx hb dX3_shareHunger_5 rfl (lv_at hl 2 rfl) ?_
      refine va_get (D := D) (ci := 3) (v := .int (τ_1 304 0)) (C := RX3) (T := TX3) (N := 7) hx hb hts hu3 hown hK hP 4 wc_4 rfl 4 (by decide) (hts (.fieldLink RX3 24 "GrazeBook$Grazing" "size" "I") (List.mem_cons_of_mem _ mw_146)) (fun _ h9 => h9) rfl dX3_shareHunger_6 ?_
      refine lv_icmp_ge (tgt := 70) hx hb dX3_shareHunger_9 (by decide) (fun c_8 => absurd c_8 (ge_go hk_1)) (fun _ => ?_)
      refine lv_aload_n hx hb dX3_shareHunger_12 rfl (lv_at hl 2 rfl) ?_
      refine va_get (D := D) (ci := 3) (v := .int (τ_1 305 0)) (C := RX3) (T := TX3) (N := 7) hx hb hts hu3 hown hK hP 4 wc_4 rfl 5 (by decide) (hts (.fieldLink RX3 28 "GrazeBook$Grazing" "all" "I") (List.mem_cons_of_mem _ mw_147)) (fun _ h9 => h9) rfl dX3_shareHunger_13 ?_
      refine lv_if_le (tgt := 70) hx hb dX3_shareHunger_16 (by decide) (fun c_9 => ?_) (fun c_9 => ?_)
      · have hB_1 := (if_pos c_9).symm.trans hB_1
        subst hB_1
        exact hE_1 v2_1 τ_1 hI_1 hf_1 _ _ _ hR hP hD hS (lv_sub hl [1, 2] rfl)
      · have hB_1 := (if_neg c_9).symm.trans hB_1
        refine lv_iload_n hx hb dX3_shareHunger_19 rfl (lv_at hl 3 rfl) ?_
        refine lv_aload_n hx hb dX3_shareHunger_20 rfl (lv_at hl 2 rfl) ?_
        refine va_get (D := D) (ci := 3) (v := .ref (ad 301)) (C := RX3) (T := TX3) (N := 7) hx hb hts hu3 hown hK hP 4 wc_4 rfl 1 (by decide) (hts (.fieldLink RX3 15 "GrazeBook$Grazing" "partsOf" "[I") (List.mem_cons_of_mem _ mw_143)) (fun _ h9 => h9) rfl dX3_shareHunger_21 ?_
        refine lv_iload_n hx hb dX3_shareHunger_24 rfl (lv_at hl 0 rfl) ?_
        refine va_iald_k (k := k_1) (v := (τ_1 301 k_1)) hx hb hK hP 18 0 wc_18 rfl (ix_cl hk_1) rfl (ix_loop (N := 20) hk_1 (ix_304 hI_1) (by decide) (by decide)) dX3_shareHunger_25 ?_
        refine lv_imul hx hb dX3_shareHunger_26 ?_
        refine lv_istore (lv' := [(4, .int (a1 * (τ_1 301 k_1))), (3, .int (nI k_1)), (2, .int v2_1), (0, .ref (ad 808)), (1, .int a1)]) hx hb dX3_shareHunger_27 hl (by decide) rfl (fun ls hl => ?_)
        refine lv_aload_n hx hb dX3_shareHunger_29 rfl (lv_at hl 3 rfl) ?_
        refine va_get (D := D) (ci := 3) (v := .ref (ad 302)) (C := RX3) (T := TX3) (N := 7) hx hb hts hu3 hown hK hP 4 wc_4 rfl 2 (by decide) (hts (.fieldLink RX3 18 "GrazeBook$Grazing" "hungers" "[I") (List.mem_cons_of_mem _ mw_144)) (fun _ h9 => h9) rfl dX3_shareHunger_30 ?_
        refine lv_iload_n hx hb dX3_shareHunger_33 rfl (lv_at hl 1 rfl) ?_
        refine lv_iload hx hb dX3_shareHunger_34 (lv_at hl 0 rfl) ?_
        refine lv_aload_n hx hb dX3_shareHunger_36 rfl (lv_at hl 3 rfl) ?_
        refine va_get (D := D) (ci := 3) (v := .int (τ_1 305 0)) (C := RX3) (T := TX3) (N := 7) hx hb hts hu3 hown hK hP 4 wc_4 rfl 5 (by decide) (hts (.fieldLink RX3 28 "GrazeBook$Grazing" "all" "I") (List.mem_cons_of_mem _ mw_147)) (fun _ h9 => h9) rfl dX3_shareHunger_37 ?_
        refine lv_idiv hx hb dX3_shareHunger_40 (nz_le c_9) ?_
        refine va_iast_k (k := k_1) hx hb hK hP hD hS 19 0 wc_19 rfl (ix_cl hk_1) (ix_loop (N := 20) hk_1 (ix_304 hI_1) (by decide) (by decide)) dX3_shareHunger_41 (fun H locs hP hD hS => ?_)
        rw [wc_s302] at hP hD
        refine lv_aload_n hx hb dX3_shareHunger_42 rfl (lv_at hl 3 rfl) ?_
        refine va_get (D := D) (ci := 3) (v := .ref (ad 303)) (C := RX3) (T := TX3) (N := 7) hx hb hts hu3 hown hK hP 4 wc_4 rfl 3 (by decide) (hts (.fieldLink RX3 21 "GrazeBook$Grazing" "remainders" "[I") (List.mem_cons_of_mem _ mw_145)) (fun _ h9 => h9) rfl dX3_shareHunger_43 ?_
        refine lv_iload_n hx hb dX3_shareHunger_46 rfl (lv_at hl 1 rfl) ?_
        refine lv_iload hx hb dX3_shareHunger_47 (lv_at hl 0 rfl) ?_
        refine lv_aload_n hx hb dX3_shareHunger_49 rfl (lv_at hl 3 rfl) ?_
        refine va_get (D := D) (ci := 3) (v := .int (τ_1 305 0)) (C := RX3) (T := TX3) (N := 7) hx hb hts hu3 hown hK hP 4 wc_4 rfl 5 (by decide) (hts (.fieldLink RX3 28 "GrazeBook$Grazing" "all" "I") (List.mem_cons_of_mem _ mw_147)) (fun _ h9 => h9) rfl dX3_shareHunger_50 ?_
        refine lv_irem hx hb dX3_shareHunger_53 (nz_le c_9) ?_
        refine va_iast_k (k := k_1) hx hb hK hP hD hS 20 0 wc_20 rfl (ix_cl hk_1) (ix_loop (N := 20) hk_1 (ix_304 hI_1) (by decide) (by decide)) dX3_shareHunger_54 (fun H locs hP hD hS => ?_)
        rw [wc_s303] at hP hD
        refine lv_iload_n hx hb dX3_shareHunger_55 rfl (lv_at hl 2 rfl) ?_
        refine lv_aload_n hx hb dX3_shareHunger_56 rfl (lv_at hl 3 rfl) ?_
        refine va_get (D := D) (ci := 3) (v := .ref (ad 302)) (C := RX3) (T := TX3) (N := 7) hx hb hts hu3 hown hK hP 4 wc_4 rfl 2 (by decide) (hts (.fieldLink RX3 18 "GrazeBook$Grazing" "hungers" "[I") (List.mem_cons_of_mem _ mw_144)) (fun _ h9 => h9) rfl dX3_shareHunger_57 ?_
        refine lv_iload_n hx hb dX3_shareHunger_60 rfl (lv_at hl 1 rfl) ?_
        refine va_iald_k (k := k_1) (v := ((put τ_1 302 k_1 ((a1 * (τ_1 301 k_1)) / (τ_1 305 0))) 302 k_1)) hx hb hK hP 19 0 wc_19 rfl (ix_cl hk_1) rfl (ix_loop (N := 20) hk_1 (ix_304 hI_1) (by decide) (by decide)) dX3_shareHunger_61 ?_
        refine lv_isub hx hb dX3_shareHunger_62 ?_
        refine lv_istore_n (lv' := [(2, .int (v2_1 - ((put τ_1 302 k_1 ((a1 * (τ_1 301 k_1)) / (τ_1 305 0))) 302 k_1))), (4, .int (a1 * (τ_1 301 k_1))), (3, .int (nI k_1)), (0, .ref (ad 808)), (1, .int a1)]) hx hb dX3_shareHunger_63 rfl hl (by decide) rfl (fun ls hl => ?_)
        refine lv_iinc (v := (nI (k_1 + 1))) (lv' := [(3, .int (nI (k_1 + 1))), (2, .int (v2_1 - ((put τ_1 302 k_1 ((a1 * (τ_1 301 k_1)) / (τ_1 305 0))) 302 k_1))), (4, .int (a1 * (τ_1 301 k_1))), (0, .ref (ad 808)), (1, .int a1)]) hx hb dX3_shareHunger_64 hl (k := 2) rfl (by rw [show Int32.ofInt 1 = 1 from by decide]; exact nI_1 _) (by decide) rfl (fun ls hl => ?_)
        refine lv_goto (tgt := 4) hx hb dX3_shareHunger_67 (by decide) ?_
        subst hB_1
        exact ih (k_1 + 1) (v2_1 - ((put τ_1 302 k_1 ((a1 * (τ_1 301 k_1)) / (τ_1 305 0))) 302 k_1)) (put (put τ_1 302 k_1 ((a1 * (τ_1 301 k_1)) / (τ_1 305 0))) 303 k_1 ((a1 * (τ_1 301 k_1)) - (a1 * (τ_1 301 k_1)) / (τ_1 305 0) * (τ_1 305 0))) (ge_next hk_1) hI_1 (⟨hf_1.1, hf_1.2.1, hf_1.2.2.1, hf_1.2.2.2⟩) _ _ _ hR hP hD hS (lv_sub hl [0, 1, 3, 4] rfl)
  exact hL_1 _ 0 a1 σ ⟨rfl, by decide⟩ hI (⟨rfl, rfl, rfl, rfl⟩) _ _ _ hR hP hD hS (lv_sub hl [0, 1, 2, 3] rfl)

def s_X3_passDay_c53 (σ : St) (g : Nat) (a1 : Int32) (a2 : Int32) (a3 : Int32) : St → Int32 × St := fun x9 => match x9 with
  | τ_7 => (((s_X3_grow (s_X3_tread σ a1 a2) (σ 400 g) a3) - (τ_7 306 0)), τ_7)
def s_X3_passDay_l53  (k_7 : Nat) : St → St := fun x9 => match x9 with
  | τ_7 => (put τ_7 302 k_7 ((τ_7 302 k_7) + (τ_7 301 k_7)))
def s_X3_passDay (σ : St) (g : Nat) (a1 : Int32) (a2 : Int32) (a3 : Int32) : Int32 × St := (if ((s_X3_shareHunger (put σ 306 0 (if (σ 305 0) < (s_X3_grow (s_X3_tread σ a1 a2) (σ 400 g) a3) then (σ 305 0) else (s_X3_grow (s_X3_tread σ a1 a2) (σ 400 g) a3))) ((σ 305 0) - (if (σ 305 0) < (s_X3_grow (s_X3_tread σ a1 a2) (σ 400 g) a3) then (σ 305 0) else (s_X3_grow (s_X3_tread σ a1 a2) (σ 400 g) a3)))) 402 g) = (0 : Int32) then (s_X3_passDay_c53 σ g a1 a2 a3 (iter s_X3_passDay_l53 (((s_X3_shareHunger (put σ 306 0 (if (σ 305 0) < (s_X3_grow (s_X3_tread σ a1 a2) (σ 400 g) a3) then (σ 305 0) else (s_X3_grow (s_X3_tread σ a1 a2) (σ 400 g) a3))) ((σ 305 0) - (if (σ 305 0) < (s_X3_grow (s_X3_tread σ a1 a2) (σ 400 g) a3) then (σ 305 0) else (s_X3_grow (s_X3_tread σ a1 a2) (σ 400 g) a3)))) 304 0).toNatClampNeg - 0) 0 (s_X3_shareHunger (put σ 306 0 (if (σ 305 0) < (s_X3_grow (s_X3_tread σ a1 a2) (σ 400 g) a3) then (σ 305 0) else (s_X3_grow (s_X3_tread σ a1 a2) (σ 400 g) a3))) ((σ 305 0) - (if (σ 305 0) < (s_X3_grow (s_X3_tread σ a1 a2) (σ 400 g) a3) then (σ 305 0) else (s_X3_grow (s_X3_tread σ a1 a2) (σ 400 g) a3)))))) else (((s_X3_grow (s_X3_tread σ a1 a2) (σ 400 g) a3) - ((s_X3_shareHunger (put σ 306 0 (if (σ 305 0) < (s_X3_grow (s_X3_tread σ a1 a2) (σ 400 g) a3) then (σ 305 0) else (s_X3_grow (s_X3_tread σ a1 a2) (σ 400 g) a3))) ((σ 305 0) - (if (σ 305 0) < (s_X3_grow (s_X3_tread σ a1 a2) (σ 400 g) a3) then (σ 305 0) else (s_X3_grow (s_X3_tread σ a1 a2) (σ 400 g) a3)))) 306 0)), (s_X3_shareHunger (put σ 306 0 (if (σ 305 0) < (s_X3_grow (s_X3_tread σ a1 a2) (σ 400 g) a3) then (σ 305 0) else (s_X3_grow (s_X3_tread σ a1 a2) (σ 400 g) a3))) ((σ 305 0) - (if (σ 305 0) < (s_X3_grow (s_X3_tread σ a1 a2) (σ 400 g) a3) then (σ 305 0) else (s_X3_grow (s_X3_tread σ a1 a2) (σ 400 g) a3))))))
theorem fr_s_X3_passDay_c53 (σ : St) (g : Nat) (a1 : Int32) (a2 : Int32) (a3 : Int32) (s : St) {f : Nat} (h302 : f ≠ 302) (h303 : f ≠ 303) (h306 : f ≠ 306) : (s_X3_passDay_c53 σ g a1 a2 a3 s).2 f = s f := by
  unfold s_X3_passDay_c53
  all_goals ((try dsimp only) <;> ((repeat' split) <;> (try simp only [put_fr, ne_eq, not_false_eq_true, h302, h303, h306, fr_s_X3_shareHunger])))
theorem fr_s_X3_passDay_l53  (k_7 : Nat) (s : St) {f : Nat} (h302 : f ≠ 302) (h303 : f ≠ 303) (h306 : f ≠ 306) : (s_X3_passDay_l53 k_7 s) f = s f := by
  unfold s_X3_passDay_l53
  all_goals ((try dsimp only) <;> ((repeat' split) <;> (try simp only [put_fr, ne_eq, not_false_eq_true, h302, h303, h306, fr_s_X3_shareHunger, fr_s_X3_passDay_c53])))
theorem fri_s_X3_passDay_l53  (n k : Nat) (s : St) {f : Nat} (h302 : f ≠ 302) (h303 : f ≠ 303) (h306 : f ≠ 306) : (iter s_X3_passDay_l53 n k s) f = s f := iter_fr (P := (fun s => s f)) (fun k s => fr_s_X3_passDay_l53  k s h302 h303 h306) n k s
theorem fr_s_X3_passDay (σ : St) (g : Nat) (a1 : Int32) (a2 : Int32) (a3 : Int32) {f : Nat} (h302 : f ≠ 302) (h303 : f ≠ 303) (h306 : f ≠ 306) : (s_X3_passDay σ g a1 a2 a3 ).2 f = σ f := by
  unfold s_X3_passDay
  all_goals ((try dsimp only) <;> ((repeat' split) <;> (try simp only [put_fr, ne_eq, not_false_eq_true, h302, h303, h306, fr_s_X3_shareHunger, fr_s_X3_passDay_c53, fri_s_X3_passDay_l53])))
set_option maxHeartbeats 1000000 in
set_option maxRecDepth 100000 in
theorem k_X3_passDay (l : Launch) (D : va_G) (ca : Nat → ClassId) (h : Nat) (ad : Nat → Nat) (pa : Nat → Nat → Nat) (tb : Nat) (σ : St) (g : Nat) (a1 : Int32) (a2 : Int32) (a3 : Int32) (sz : Nat) (hI : IX σ) (hg : g < (σ 811 0).toNatClampNeg) (R1 : Int32) (R2 : St) (hR : s_X3_passDay σ g a1 a2 a3 = (R1, R2)) : Met l yX3_passDay wsX3_passDay ({ frames := 2, cells := 0, slots := 0, locals := 46 }) (va_Pc [.ref (ad 808), .ref (pa 0 g), .int a1, .int a2, .int a3] (cw_pre D ca (WC ca h ad pa σ) sz tb)) (va_Qi (fun (r : Int32) (_ : Unit) => r = R1) (fun (_ : Unit) (t : State) => pw_post D ca (WC ca h ad pa σ) sz (WC ca h ad pa R2) t ∧ IX R2) (va_A (WC ca h ad pa σ) sz)) 0 0 (va_A (WC ca h ad pa σ) sz) := by
  refine Met.ofW (cc := cX3_passDay) (maxL := 7) (ret := (some .int)) (by decide) rfl ?_
  intro p e s m args below meth c s₁ B hml hv
  obtain ⟨rfl, ⟨hsz, hP, hK, hD0⟩, hZ⟩ := hv
  have hx := B.exec
  have hb := B.bytes
  have hr := B.returns
  have hts := atoms_spec (ws := wsX3_passDay) B.pre
  have hown : s.vm.findClass RX3 = some m.cls := findClass_of_methodNamed B.named
  have hlocks := B.notSynchronized
  have hu3 : ∀ w ∈ u_ws RX3 TX3 7, w ∈ wsX3_passDay := fun w h => List.mem_cons_of_mem _ (uw3 w h)
  have hu4 : ∀ w ∈ u_ws RX4 TX4 6, w ∈ wsX3_passDay := fun w h => List.mem_cons_of_mem _ (uw4 w h)
  subst hsz
  have hD := hD0.self (sz := s.heap.size)
  obtain ⟨A, hAe⟩ : ∃ A, A = va_A (WC ca h ad pa σ) s.heap.size := ⟨_, rfl⟩
  rw [← hAe] at hD hZ ⊢
  have hA : ∀ q : Nat, s.heap.size ≤ q → A q := fun q h => by rw [hAe]; exact Or.inr h
  have hS : va_S A s.heap s.heap [] := va_S.rf
  have hl := lv_entry ([.ref (ad 808), .ref (pa 0 g), .int a1, .int a2, .int a3]) (n := 7) (Nat.le_of_ble_eq_true rfl)
  rw [lg_entry_eq]
  generalize (lg_sl ([.ref (ad 808), .ref (pa 0 g), .int a1, .int a2, .int a3]) ++ List.replicate (7 - (lg_sl ([.ref (ad 808), .ref (pa 0 g), .int a1, .int a2, .int a3])).length) Slot.unset).toArray = ls at hl ⊢
  have hl : lv_has ls 7 [(0, .ref (ad 808)), (1, .ref (pa 0 g)), (2, .int a1), (3, .int a2), (4, .int a3)] := hl
  obtain ⟨H, hH⟩ : ∃ H, H = s.heap := ⟨_, rfl⟩
  have hP : va_P D vwCl (WC ca h ad pa σ) H := by rw [hH]; exact hP
  have hS : va_S A s.heap H [] := by rw [hH]; exact hS
  obtain ⟨QQ, hQ⟩ : ∃ Q9, Q9 = MQ below (va_Qi (fun (r : Int32) (_ : Unit) => r = R1) (fun (_ : Unit) (t : State) => pw_post D ca (WC ca h ad pa σ) s.heap.size (WC ca h ad pa R2) t ∧ IX R2) A) ([.ref (ad 808), .ref (pa 0 g), .int a1, .int a2, .int a3] : List Value).toArray s 0 0 A := ⟨_, rfl⟩
  rw [← hQ]
  show W _ _ _ _ _ _ _ _ _ _ s.heap _ _ _ _ _
  rw [← hH]
  have hR : (if ((s_X3_shareHunger (put σ 306 0 (if (σ 305 0) < (s_X3_grow (s_X3_tread σ a1 a2) (σ 400 g) a3) then (σ 305 0) else (s_X3_grow (s_X3_tread σ a1 a2) (σ 400 g) a3))) ((σ 305 0) - (if (σ 305 0) < (s_X3_grow (s_X3_tread σ a1 a2) (σ 400 g) a3) then (σ 305 0) else (s_X3_grow (s_X3_tread σ a1 a2) (σ 400 g) a3)))) 402 g) = (0 : Int32) then (s_X3_passDay_c53 σ g a1 a2 a3 (iter s_X3_passDay_l53 (((s_X3_shareHunger (put σ 306 0 (if (σ 305 0) < (s_X3_grow (s_X3_tread σ a1 a2) (σ 400 g) a3) then (σ 305 0) else (s_X3_grow (s_X3_tread σ a1 a2) (σ 400 g) a3))) ((σ 305 0) - (if (σ 305 0) < (s_X3_grow (s_X3_tread σ a1 a2) (σ 400 g) a3) then (σ 305 0) else (s_X3_grow (s_X3_tread σ a1 a2) (σ 400 g) a3)))) 304 0).toNatClampNeg - 0) 0 (s_X3_shareHunger (put σ 306 0 (if (σ 305 0) < (s_X3_grow (s_X3_tread σ a1 a2) (σ 400 g) a3) then (σ 305 0) else (s_X3_grow (s_X3_tread σ a1 a2) (σ 400 g) a3))) ((σ 305 0) - (if (σ 305 0) < (s_X3_grow (s_X3_tread σ a1 a2) (σ 400 g) a3) then (σ 305 0) else (s_X3_grow (s_X3_tread σ a1 a2) (σ 400 g) a3)))))) else (((s_X3_grow (s_X3_tread σ a1 a2) (σ 400 g) a3) - ((s_X3_shareHunger (put σ 306 0 (if (σ 305 0) < (s_X3_grow (s_X3_tread σ a1 a2) (σ 400 g) a3) then (σ 305 0) else (s_X3_grow (s_X3_tread σ a1 a2) (σ 400 g) a3))) ((σ 305 0) - (if (σ 305 0) < (s_X3_grow (s_X3_tread σ a1 a2) (σ 400 g) a3) then (σ 305 0) else (s_X3_grow (s_X3_tread σ a1 a2) (σ 400 g) a3)))) 306 0)), (s_X3_shareHunger (put σ 306 0 (if (σ 305 0) < (s_X3_grow (s_X3_tread σ a1 a2) (σ 400 g) a3) then (σ 305 0) else (s_X3_grow (s_X3_tread σ a1 a2) (σ 400 g) a3))) ((σ 305 0) - (if (σ 305 0) < (s_X3_grow (s_X3_tread σ a1 a2) (σ 400 g) a3) then (σ 305 0) else (s_X3_grow (s_X3_tread σ a1 a2) (σ 400 g) a3)))))) = (R1, R2) := hR
  refine lv_aload_n hx hb dX3_passDay_0 rfl (lv_at hl 0 rfl) ?_
  refine lv_iload_n hx hb dX3_passDay_1 rfl (lv_at hl 2 rfl) ?_
  refine lv_iload_n hx hb dX3_passDay_2 rfl (lv_at hl 3 rfl) ?_
  have hF := pw_free hD hS hA
  refine va_calli (va_runV (As := [.int a1, .int a2]) (rest := []) ⟨hx, hb, hml, hown, hts⟩ (k_X3_tread l D ca h ad pa tb σ a1 a2 H.size hI _ rfl) (cwV 2 hts gX3_passDay_X3_tread rfl rfl rfl (by decide +kernel) ⟨Nat.le_of_ble_eq_true rfl, Nat.le_of_ble_eq_true rfl⟩) ⟨cw_blind, va_recv hK hP (ci := 3) (q0 := 4) rfl wc_4, cw_give hP hK hD hZ hS hF⟩ rfl rfl hl.1 rfl (lv_room (Nat.le_of_ble_eq_true rfl)) dX3_passDay_3 ⟨Nat.le_of_ble_eq_true rfl, Nat.le_of_ble_eq_true rfl⟩) hS (fun q _ h => hF q h) hF (fun r_1 u t H1 locs ht hvm hw hB hz1 hk1 hS => ?_)
  rw [hw]
  obtain ⟨hP, hD⟩ := pw_back hF ht hB
  clear hB hk1 hz1 hF
  generalize H1 = H at hP hS ⊢
  refine lv_aload_n hx hb dX3_passDay_6 rfl (lv_at hl 1 rfl) ?_
  refine va_get (D := D) (ci := 4) (v := .int (σ 400 g)) (C := RX4) (T := TX4) (N := 6) hx hb hts hu4 hown hK hP (pcG ca h ad pa σ g) (wc_aG hg) rfl 0 (by decide) (hts (.fieldLink RX3 38 "GrazeBook$Ground" "full" "I") (List.mem_cons_of_mem _ mw_283)) (fun _ h9 => h9) rfl dX3_passDay_7 ?_
  refine lv_iload hx hb dX3_passDay_10 (lv_at hl 4 rfl) ?_
  have hF := pw_free (pn_D (A := A)) hS hA
  refine va_calli (va_runS (As := [.int (s_X3_tread σ a1 a2), .int (σ 400 g), .int a3]) (rest := []) ⟨hx, hb, hml, hown, hts⟩ (k_X3_grow l D ca (s_X3_tread σ a1 a2) (σ 400 g) a3 H.size _ rfl) (va_cwS 3 hts gX3_passDay_X3_grow rfl rfl rfl (by decide +kernel) ⟨Nat.le_of_ble_eq_true rfl, Nat.le_of_ble_eq_true rfl⟩) ⟨pw_blind, pw_give pn_P hK (pn_D (A := A))⟩ rfl rfl hl.1 rfl (lv_room (Nat.le_of_ble_eq_true rfl)) dX3_passDay_12 ⟨Nat.le_of_ble_eq_true rfl, Nat.le_of_ble_eq_true rfl⟩) hS (fun q _ h => hF q h) hF (fun r_2 u t H1 locs ht hvm hw hB hz1 hk1 hS => ?_)
  subst hw
  have hP := pn_back hP hk1
  clear hB hk1 hz1 hF
  generalize H1 = H at hP hS ⊢
  refine lv_istore (lv' := [(5, .int (s_X3_grow (s_X3_tread σ a1 a2) (σ 400 g) a3)), (0, .ref (ad 808)), (1, .ref (pa 0 g)), (2, .int a1), (3, .int a2), (4, .int a3)]) hx hb dX3_passDay_15 hl (by decide) rfl (fun ls hl => ?_)
  refine lv_aload_n hx hb dX3_passDay_17 rfl (lv_at hl 1 rfl) ?_
  refine lv_iload hx hb dX3_passDay_18 (lv_at hl 0 rfl) ?_
  refine lv_aload_n hx hb dX3_passDay_20 rfl (lv_at hl 1 rfl) ?_
  refine va_get (D := D) (ci := 3) (v := .int (σ 305 0)) (C := RX3) (T := TX3) (N := 7) hx hb hts hu3 hown hK hP 4 wc_4 rfl 5 (by decide) (hts (.fieldLink RX3 28 "GrazeBook$Grazing" "all" "I") (List.mem_cons_of_mem _ mw_147)) (fun _ h9 => h9) rfl dX3_passDay_21 ?_
  refine va_mmin hx hb (hml.trans hl.1.symm) hown (hts (.methodLink RX3 47 Lib.Math.min.name) (List.mem_cons_of_mem _ mw_587)) (hts (.static Lib.Math.min.name) (List.mem_cons_of_mem _ mw_588)) (hts (.initialized "java/lang/Math") (List.mem_cons_of_mem _ mw_68)) (hts (.code Lib.Math.min.name Lib.Math.min.code 2 (some .int)) (List.mem_cons_of_mem _ mw_589)) (Nat.le_of_ble_eq_true rfl) (Nat.le_of_ble_eq_true rfl) (Nat.le_of_ble_eq_true rfl) (Nat.le_of_ble_eq_true rfl) dX3_passDay_24 ?_
  refine va_put (D := D) (ci := 3) (v := .int (if (σ 305 0) < (s_X3_grow (s_X3_tread σ a1 a2) (σ 400 g) a3) then (σ 305 0) else (s_X3_grow (s_X3_tread σ a1 a2) (σ 400 g) a3))) (ty := .int) (C := RX3) (T := TX3) (N := 7) hx hb hts hu3 tyX3 tyX3_ok nmX3 hown hK hP hD hS 4 wc_4 rfl 6 (by decide) (hts (.fieldLink RX3 31 "GrazeBook$Grazing" "eaten" "I") (List.mem_cons_of_mem _ mw_148)) (fun _ h9 => h9) rfl (by decide +kernel) rfl rfl (Nat.le_of_ble_eq_true rfl) dX3_passDay_27 (fun H locs hP hD hS => ?_)
  rw [wc_p306] at hP hD
  refine lv_aload_n hx hb dX3_passDay_30 rfl (lv_at hl 1 rfl) ?_
  refine lv_aload_n hx hb dX3_passDay_31 rfl (lv_at hl 1 rfl) ?_
  refine va_get (D := D) (ci := 3) (v := .int (σ 305 0)) (C := RX3) (T := TX3) (N := 7) hx hb hts hu3 hown hK hP 4 wc_4 rfl 5 (by decide) (hts (.fieldLink RX3 28 "GrazeBook$Grazing" "all" "I") (List.mem_cons_of_mem _ mw_147)) (fun _ h9 => h9) rfl dX3_passDay_32 ?_
  refine lv_aload_n hx hb dX3_passDay_35 rfl (lv_at hl 1 rfl) ?_
  refine va_get (D := D) (ci := 3) (v := .int (if (σ 305 0) < (s_X3_grow (s_X3_tread σ a1 a2) (σ 400 g) a3) then (σ 305 0) else (s_X3_grow (s_X3_tread σ a1 a2) (σ 400 g) a3))) (C := RX3) (T := TX3) (N := 7) hx hb hts hu3 hown hK hP 4 wc_4 rfl 6 (by decide) (hts (.fieldLink RX3 31 "GrazeBook$Grazing" "eaten" "I") (List.mem_cons_of_mem _ mw_148)) (fun _ h9 => h9) rfl dX3_passDay_36 ?_
  refine lv_isub hx hb dX3_passDay_39 ?_
  have hF := pw_free hD hS hA
  refine va_callv (va_runV (As := [.int ((σ 305 0) - (if (σ 305 0) < (s_X3_grow (s_X3_tread σ a1 a2) (σ 400 g) a3) then (σ 305 0) else (s_X3_grow (s_X3_tread σ a1 a2) (σ 400 g) a3)))]) (rest := []) ⟨hx, hb, hml, hown, hts⟩ (k_X3_shareHunger l D ca h ad pa tb (put σ 306 0 (if (σ 305 0) < (s_X3_grow (s_X3_tread σ a1 a2) (σ 400 g) a3) then (σ 305 0) else (s_X3_grow (s_X3_tread σ a1 a2) (σ 400 g) a3))) ((σ 305 0) - (if (σ 305 0) < (s_X3_grow (s_X3_tread σ a1 a2) (σ 400 g) a3) then (σ 305 0) else (s_X3_grow (s_X3_tread σ a1 a2) (σ 400 g) a3))) H.size hI _ rfl) (cwV 1 hts gX3_passDay_X3_shareHunger rfl rfl rfl (by decide +kernel) ⟨Nat.le_of_ble_eq_true rfl, Nat.le_of_ble_eq_true rfl⟩) ⟨cw_blind, va_recv hK hP (ci := 3) (q0 := 4) rfl wc_4, cw_give hP hK hD hZ hS hF⟩ rfl rfl hl.1 rfl (lv_room (Nat.le_of_ble_eq_true rfl)) dX3_passDay_40 ⟨Nat.le_of_ble_eq_true rfl, Nat.le_of_ble_eq_true rfl⟩) hS (fun q _ h => hF q h) hF (fun u t H1 locs ht hvm hw hB hz1 hk1 hS => ?_)
  obtain ⟨hB, hI_4⟩ := hB
  obtain ⟨hP, hD⟩ := pw_back hF ht hB
  clear hB hk1 hz1 hF
  generalize H1 = H at hP hS ⊢
  obtain ⟨τc_5, hτc_5⟩ : ∃ t9, (s_X3_shareHunger (put σ 306 0 (if (σ 305 0) < (s_X3_grow (s_X3_tread σ a1 a2) (σ 400 g) a3) then (σ 305 0) else (s_X3_grow (s_X3_tread σ a1 a2) (σ 400 g) a3))) ((σ 305 0) - (if (σ 305 0) < (s_X3_grow (s_X3_tread σ a1 a2) (σ 400 g) a3) then (σ 305 0) else (s_X3_grow (s_X3_tread σ a1 a2) (σ 400 g) a3)))) = t9 := ⟨_, rfl⟩
  rw [hτc_5] at hP hD hI_4
  (try rw [hτc_5] at hR)
  refine lv_aload_n hx hb dX3_passDay_43 rfl (lv_at hl 2 rfl) ?_
  refine va_get (D := D) (ci := 4) (v := .int (τc_5 402 g)) (C := RX4) (T := TX4) (N := 6) hx hb hts hu4 hown hK hP (pcG ca h ad pa τc_5 g) (wc_aG (cnt_cast (congrFun ((show τc_5 811 = (put σ 306 0 (if (σ 305 0) < (s_X3_grow (s_X3_tread σ a1 a2) (σ 400 g) a3) then (σ 305 0) else (s_X3_grow (s_X3_tread σ a1 a2) (σ 400 g) a3))) 811 by rw [← hτc_5]; exact fr_s_X3_shareHunger (put σ 306 0 (if (σ 305 0) < (s_X3_grow (s_X3_tread σ a1 a2) (σ 400 g) a3) then (σ 305 0) else (s_X3_grow (s_X3_tread σ a1 a2) (σ 400 g) a3))) ((σ 305 0) - (if (σ 305 0) < (s_X3_grow (s_X3_tread σ a1 a2) (σ 400 g) a3) then (σ 305 0) else (s_X3_grow (s_X3_tread σ a1 a2) (σ 400 g) a3))) (f := 811) (by decide) (by decide)).trans rfl) 0) hg)) rfl 2 (by decide) (hts (.fieldLink RX3 56 "GrazeBook$Ground" "water" "Z") (List.mem_cons_of_mem _ mw_288)) (fun _ h9 => h9) rfl dX3_passDay_44 ?_
  refine lv_if_ne (tgt := 85) hx hb dX3_passDay_47 (by decide) (fun c_6 => ?_) (fun c_6 => ?_)
  · have hR := (if_neg c_6).symm.trans hR
    refine lv_iload hx hb dX3_passDay_85 (lv_at hl 0 rfl) ?_
    refine lv_aload_n hx hb dX3_passDay_87 rfl (lv_at hl 1 rfl) ?_
    refine va_get (D := D) (ci := 3) (v := .int (τc_5 306 0)) (C := RX3) (T := TX3) (N := 7) hx hb hts hu3 hown hK hP 4 wc_4 rfl 6 (by decide) (hts (.fieldLink RX3 31 "GrazeBook$Grazing" "eaten" "I") (List.mem_cons_of_mem _ mw_148)) (fun _ h9 => h9) rfl dX3_passDay_88 ?_
    refine lv_isub hx hb dX3_passDay_91 ?_
    have hI9 : IX τc_5 := hI_4
    obtain ⟨rfl, rfl⟩ := Prod.mk.inj (show (((s_X3_grow (s_X3_tread σ a1 a2) (σ 400 g) a3) - (τc_5 306 0)), τc_5) = (R1, R2) from hR)
    rw [hQ]
    exact W.iret (v := ((s_X3_grow (s_X3_tread σ a1 a2) (σ 400 g) a3) - (τc_5 306 0))) hx hb hr (fun t ht hW => ⟨⟨((s_X3_grow (s_X3_tread σ a1 a2) (σ 400 g) a3) - (τc_5 306 0)), (), rfl, rfl, ⟨by rw [ht]; exact hP, va_K.moved hW.alike hK, by rw [← hAe]; exact hD⟩, hI9⟩, hS.F ht⟩) hS.2.2 dX3_passDay_92
  · have hR := (if_pos c_6).symm.trans hR
    refine lv_iconst (v := (0 : Int32)) hx hb dX3_passDay_50 (by decide) ?_
    refine lv_istore (lv' := [(6, .int (0 : Int32)), (5, .int (s_X3_grow (s_X3_tread σ a1 a2) (σ 400 g) a3)), (0, .ref (ad 808)), (1, .ref (pa 0 g)), (2, .int a1), (3, .int a2), (4, .int a3)]) hx hb dX3_passDay_51 hl (by decide) rfl (fun ls hl => ?_)
    have hE_7 : ∀ (τ_7 : St) (hI_7 : IX τ_7) (hf_7 : τ_7 811 = σ 811 ∧ τ_7 812 = σ 812 ∧ τ_7 814 = σ 814 ∧ τ_7 815 = σ 815) (H : Heap) (locs : List Loc) (ls : Array Slot), s_X3_passDay_c53 σ g a1 a2 a3 τ_7 = (R1, R2) → va_P D vwCl (WC ca h ad pa τ_7) H → va_D A (WC ca h ad pa τ_7) → va_S A s.heap H locs → lv_has ls 7 [(5, .int (s_X3_grow (s_X3_tread σ a1 a2) (σ 400 g) a3)), (0, .ref (ad 808))] → W p l e ((headSpec wsX3_passDay ({ frames := 2, cells := 0, slots := 0, locals := 46 })).room) s m ([.ref (ad 808), .ref (pa 0 g), .int a1, .int a2, .int a3] : List Value).toArray below meth c H locs 0 0 QQ (F0 m 85 ls []) := by
      intro τ_7 hI_7 hf_7 H locs ls hR hP hD hS hl
      have hR : (((s_X3_grow (s_X3_tread σ a1 a2) (σ 400 g) a3) - (τ_7 306 0)), τ_7) = (R1, R2) := hR
      refine lv_iload hx hb dX3_passDay_85 (lv_at hl 0 rfl) ?_
      refine lv_aload_n hx hb dX3_passDay_87 rfl (lv_at hl 1 rfl) ?_
      refine va_get (D := D) (ci := 3) (v := .int (τ_7 306 0)) (C := RX3) (T := TX3) (N := 7) hx hb hts hu3 hown hK hP 4 wc_4 rfl 6 (by decide) (hts (.fieldLink RX3 31 "GrazeBook$Grazing" "eaten" "I") (List.mem_cons_of_mem _ mw_148)) (fun _ h9 => h9) rfl dX3_passDay_88 ?_
      refine lv_isub hx hb dX3_passDay_91 ?_
      have hI9 : IX τ_7 := hI_7
      obtain ⟨rfl, rfl⟩ := Prod.mk.inj (show (((s_X3_grow (s_X3_tread σ a1 a2) (σ 400 g) a3) - (τ_7 306 0)), τ_7) = (R1, R2) from hR)
      rw [hQ]
      exact W.iret (v := ((s_X3_grow (s_X3_tread σ a1 a2) (σ 400 g) a3) - (τ_7 306 0))) hx hb hr (fun t ht hW => ⟨⟨((s_X3_grow (s_X3_tread σ a1 a2) (σ 400 g) a3) - (τ_7 306 0)), (), rfl, rfl, ⟨by rw [ht]; exact hP, va_K.moved hW.alike hK, by rw [← hAe]; exact hD⟩, hI9⟩, hS.F ht⟩) hS.2.2 dX3_passDay_92
    have hL_7 : ∀ (n k_7 : Nat) (τ_7 : St) (hk_7 : lpk (τ_7 304 0) k_7 n) (hI_7 : IX τ_7) (hf_7 : τ_7 811 = σ 811 ∧ τ_7 812 = σ 812 ∧ τ_7 814 = σ 814 ∧ τ_7 815 = σ 815) (H : Heap) (locs : List Loc) (ls : Array Slot), s_X3_passDay_c53 σ g a1 a2 a3 (iter s_X3_passDay_l53 n k_7 τ_7) = (R1, R2) → va_P D vwCl (WC ca h ad pa τ_7) H → va_D A (WC ca h ad pa τ_7) → va_S A s.heap H locs → lv_has ls 7 [(6, .int (nI k_7)), (5, .int (s_X3_grow (s_X3_tread σ a1 a2) (σ 400 g) a3)), (0, .ref (ad 808))] → W p l e ((headSpec wsX3_passDay ({ frames := 2, cells := 0, slots := 0, locals := 46 })).room) s m ([.ref (ad 808), .ref (pa 0 g), .int a1, .int a2, .int a3] : List Value).toArray below meth c H locs 0 0 QQ (F0 m 53 ls []) := by
      intro n
      induction n with
      | zero =>
        intro k_7 τ_7 hk_7 hI_7 hf_7 H locs ls hR hP hD hS hl
        refine lv_iload hx hb dX3_passDay_53 (lv_at hl 0 rfl) ?_
        refine lv_aload_n hx hb dX3_passDay_55 rfl (lv_at hl 2 rfl) ?_
        refine va_get (D := D) (ci := 3) (v := .int (τ_7 304 0)) (C := RX3) (T := TX3) (N := 7) hx hb hts hu3 hown hK hP 4 wc_4 rfl 4 (by decide) (hts (.fieldLink RX3 24 "GrazeBook$Grazing" "size" "I") (List.mem_cons_of_mem _ mw_146)) (fun _ h9 => h9) rfl dX3_passDay_56 ?_
        refine lv_icmp_ge (tgt := 85) hx hb dX3_passDay_59 (by decide) (fun _ => ?_) (fun c_8 => absurd (ge_end hk_7) c_8)
        exact hE_7 τ_7 hI_7 hf_7 _ _ _ hR hP hD hS (lv_sub hl [1, 2] rfl)
      | succ n ih =>
        intro k_7 τ_7 hk_7 hI_7 hf_7 H locs ls hR hP hD hS hl
        obtain ⟨S_7, hB_7⟩ : ∃ s9, s_X3_passDay_l53 k_7 τ_7 = s9 := ⟨_, rfl⟩
        have hR : s_X3_passDay_c53 σ g a1 a2 a3 (iter s_X3_passDay_l53 n (k_7 + 1) S_7) = (R1, R2) := by rw [← hB_7]; exact hR
        have hB_7 : (put τ_7 302 k_7 ((τ_7 302 k_7) + (τ_7 301 k_7))) = S_7 := hB_7
        refine lv_iload hx hb dX3_passDay_53 (lv_at hl 0 rfl) ?_
        refine lv_aload_n hx hb dX3_passDay_55 rfl (lv_at hl 2 rfl) ?_
        refine va_get (D := D) (ci := 3) (v := .int (τ_7 304 0)) (C := RX3) (T := TX3) (N := 7) hx hb hts hu3 hown hK hP 4 wc_4 rfl 4 (by decide) (hts (.fieldLink RX3 24 "GrazeBook$Grazing" "size" "I") (List.mem_cons_of_mem _ mw_146)) (fun _ h9 => h9) rfl dX3_passDay_56 ?_
        refine lv_icmp_ge (tgt := 85) hx hb dX3_passDay_59 (by decide) (fun c_9 => absurd c_9 (ge_go hk_7)) (fun _ => ?_)
        refine lv_aload_n hx hb dX3_passDay_62 rfl (lv_at hl 2 rfl) ?_
        refine va_get (D := D) (ci := 3) (v := .ref (ad 302)) (C := RX3) (T := TX3) (N := 7) hx hb hts hu3 hown hK hP 4 wc_4 rfl 2 (by decide) (hts (.fieldLink RX3 18 "GrazeBook$Grazing" "hungers" "[I") (List.mem_cons_of_mem _ mw_144)) (fun _ h9 => h9) rfl dX3_passDay_63 ?_
        refine lv_iload hx hb dX3_passDay_66 (lv_at hl 0 rfl) ?_
        refine lv_dup2_11 hx hb dX3_passDay_68 rfl rfl ?_
        refine va_iald_k (k := k_7) (v := (τ_7 302 k_7)) hx hb hK hP 19 0 wc_19 rfl (ix_cl hk_7) rfl (ix_loop (N := 20) hk_7 (ix_304 hI_7) (by decide) (by decide)) dX3_passDay_69 ?_
        refine lv_aload_n hx hb dX3_passDay_70 rfl (lv_at hl 2 rfl) ?_
        refine va_get (D := D) (ci := 3) (v := .ref (ad 301)) (C := RX3) (T := TX3) (N := 7) hx hb hts hu3 hown hK hP 4 wc_4 rfl 1 (by decide) (hts (.fieldLink RX3 15 "GrazeBook$Grazing" "partsOf" "[I") (List.mem_cons_of_mem _ mw_143)) (fun _ h9 => h9) rfl dX3_passDay_71 ?_
        refine lv_iload hx hb dX3_passDay_74 (lv_at hl 0 rfl) ?_
        refine va_iald_k (k := k_7) (v := (τ_7 301 k_7)) hx hb hK hP 18 0 wc_18 rfl (ix_cl hk_7) rfl (ix_loop (N := 20) hk_7 (ix_304 hI_7) (by decide) (by decide)) dX3_passDay_76 ?_
        refine lv_iadd hx hb dX3_passDay_77 ?_
        refine va_iast_k (k := k_7) hx hb hK hP hD hS 19 0 wc_19 rfl (ix_cl hk_7) (ix_loop (N := 20) hk_7 (ix_304 hI_7) (by decide) (by decide)) dX3_passDay_78 (fun H locs hP hD hS => ?_)
        rw [wc_s302] at hP hD
        refine lv_iinc (v := (nI (k_7 + 1))) (lv' := [(6, .int (nI (k_7 + 1))), (5, .int (s_X3_grow (s_X3_tread σ a1 a2) (σ 400 g) a3)), (0, .ref (ad 808))]) hx hb dX3_passDay_79 hl (k := 0) rfl (by rw [show Int32.ofInt 1 = 1 from by decide]; exact nI_1 _) (by decide) rfl (fun ls hl => ?_)
        refine lv_goto (tgt := 53) hx hb dX3_passDay_82 (by decide) ?_
        subst hB_7
        exact ih (k_7 + 1) (put τ_7 302 k_7 ((τ_7 302 k_7) + (τ_7 301 k_7))) (ge_next hk_7) hI_7 (⟨hf_7.1, hf_7.2.1, hf_7.2.2.1, hf_7.2.2.2⟩) _ _ _ hR hP hD hS (lv_sub hl [0, 1, 2] rfl)
    exact hL_7 _ 0 τc_5 ⟨rfl, by decide⟩ hI_4 (⟨((show τc_5 811 = (put σ 306 0 (if (σ 305 0) < (s_X3_grow (s_X3_tread σ a1 a2) (σ 400 g) a3) then (σ 305 0) else (s_X3_grow (s_X3_tread σ a1 a2) (σ 400 g) a3))) 811 by rw [← hτc_5]; exact fr_s_X3_shareHunger (put σ 306 0 (if (σ 305 0) < (s_X3_grow (s_X3_tread σ a1 a2) (σ 400 g) a3) then (σ 305 0) else (s_X3_grow (s_X3_tread σ a1 a2) (σ 400 g) a3))) ((σ 305 0) - (if (σ 305 0) < (s_X3_grow (s_X3_tread σ a1 a2) (σ 400 g) a3) then (σ 305 0) else (s_X3_grow (s_X3_tread σ a1 a2) (σ 400 g) a3))) (f := 811) (by decide) (by decide)).trans rfl), ((show τc_5 812 = (put σ 306 0 (if (σ 305 0) < (s_X3_grow (s_X3_tread σ a1 a2) (σ 400 g) a3) then (σ 305 0) else (s_X3_grow (s_X3_tread σ a1 a2) (σ 400 g) a3))) 812 by rw [← hτc_5]; exact fr_s_X3_shareHunger (put σ 306 0 (if (σ 305 0) < (s_X3_grow (s_X3_tread σ a1 a2) (σ 400 g) a3) then (σ 305 0) else (s_X3_grow (s_X3_tread σ a1 a2) (σ 400 g) a3))) ((σ 305 0) - (if (σ 305 0) < (s_X3_grow (s_X3_tread σ a1 a2) (σ 400 g) a3) then (σ 305 0) else (s_X3_grow (s_X3_tread σ a1 a2) (σ 400 g) a3))) (f := 812) (by decide) (by decide)).trans rfl), ((show τc_5 814 = (put σ 306 0 (if (σ 305 0) < (s_X3_grow (s_X3_tread σ a1 a2) (σ 400 g) a3) then (σ 305 0) else (s_X3_grow (s_X3_tread σ a1 a2) (σ 400 g) a3))) 814 by rw [← hτc_5]; exact fr_s_X3_shareHunger (put σ 306 0 (if (σ 305 0) < (s_X3_grow (s_X3_tread σ a1 a2) (σ 400 g) a3) then (σ 305 0) else (s_X3_grow (s_X3_tread σ a1 a2) (σ 400 g) a3))) ((σ 305 0) - (if (σ 305 0) < (s_X3_grow (s_X3_tread σ a1 a2) (σ 400 g) a3) then (σ 305 0) else (s_X3_grow (s_X3_tread σ a1 a2) (σ 400 g) a3))) (f := 814) (by decide) (by decide)).trans rfl), ((show τc_5 815 = (put σ 306 0 (if (σ 305 0) < (s_X3_grow (s_X3_tread σ a1 a2) (σ 400 g) a3) then (σ 305 0) else (s_X3_grow (s_X3_tread σ a1 a2) (σ 400 g) a3))) 815 by rw [← hτc_5]; exact fr_s_X3_shareHunger (put σ 306 0 (if (σ 305 0) < (s_X3_grow (s_X3_tread σ a1 a2) (σ 400 g) a3) then (σ 305 0) else (s_X3_grow (s_X3_tread σ a1 a2) (σ 400 g) a3))) ((σ 305 0) - (if (σ 305 0) < (s_X3_grow (s_X3_tread σ a1 a2) (σ 400 g) a3) then (σ 305 0) else (s_X3_grow (s_X3_tread σ a1 a2) (σ 400 g) a3))) (f := 815) (by decide) (by decide)).trans rfl)⟩) _ _ _ hR hP hD hS (lv_sub hl [0, 1, 2] rfl)

