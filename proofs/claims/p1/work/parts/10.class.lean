set_option maxHeartbeats 1000000 in
set_option maxRecDepth 100000 in
theorem c_X8_refuse_m1 (l : Launch) (dC : Nat → ClassId) (dI : Nat → Nat → Nat) (cI cZ cG cP cC cD cQ : ClassId) (h0 : Nat) (k0 : Nat) (k1 : Nat) (k2 : Nat) (k3 : Nat) (k4 : Nat) (k5 : Nat) (k6 : Nat) (k7 : Nat) (k8 : Nat) (k9 : Nat) (k10 : Nat) (f : Nat → Int32) (sz : Nat)  : Met l yX8_refuse wsX8_refuse ({ frames := 0, cells := 0, slots := 0, locals := 0 }) (va_Pc [.ref h0, .int (-1)] (fun U => U.heap.size = sz ∧ va_P (dC, dI) vwCl [(h0, .inr (8, [.ref k0, .ref k1, .ref k2, .ref k3, .ref k4, .ref k5, .ref k6, .ref k7, .ref k8, .ref k9, .ref k10, .int 0, .int 0, .int 0, .int 0, .int 0, .int 0, .int 0, .int 0])), (k10, .inl (cI, 7, .inl f))] U.heap ∧ va_K (dC, dI) vwCl [(cI, .int), (cZ, .boolean), (cG, .object "GrazeBook$Ground"), (cP, .object "GrazeBook$Purse"), (cC, .object "GrazeBook$Claim"), (cD, .object "GrazeBook$Drove"), (cQ, .array .int)] U ∧ va_D (fun _ => True) [(h0, .inr (8, [.ref k0, .ref k1, .ref k2, .ref k3, .ref k4, .ref k5, .ref k6, .ref k7, .ref k8, .ref k9, .ref k10, .int 0, .int 0, .int 0, .int 0, .int 0, .int 0, .int 0, .int 0])), (k10, .inl (cI, 7, .inl f))])) (va_Qi (fun (r : Int32) (_ : Unit) => r = (-1)) (fun (_ : Unit) (t : State) => va_P (dC, dI) vwCl [] t.heap ∧ va_K (dC, dI) vwCl [(cI, .int), (cZ, .boolean), (cG, .object "GrazeBook$Ground"), (cP, .object "GrazeBook$Purse"), (cC, .object "GrazeBook$Claim"), (cD, .object "GrazeBook$Drove"), (cQ, .array .int)] t ∧ va_D (va_A [(h0, .inr (8, [.ref k0, .ref k1, .ref k2, .ref k3, .ref k4, .ref k5, .ref k6, .ref k7, .ref k8, .ref k9, .ref k10, .int 0, .int 0, .int 0, .int 0, .int 0, .int 0, .int 0, .int 0])), (k10, .inl (cI, 7, .inl f))] sz) []) (va_A [(h0, .inr (8, [.ref k0, .ref k1, .ref k2, .ref k3, .ref k4, .ref k5, .ref k6, .ref k7, .ref k8, .ref k9, .ref k10, .int 0, .int 0, .int 0, .int 0, .int 0, .int 0, .int 0, .int 0])), (k10, .inl (cI, 7, .inl f))] sz)) 0 0 (va_A [(h0, .inr (8, [.ref k0, .ref k1, .ref k2, .ref k3, .ref k4, .ref k5, .ref k6, .ref k7, .ref k8, .ref k9, .ref k10, .int 0, .int 0, .int 0, .int 0, .int 0, .int 0, .int 0, .int 0])), (k10, .inl (cI, 7, .inl f))] sz) := by
  refine Met.ofW (cc := cX8_refuse) (maxL := 2) (ret := (some .int)) (by decide) rfl ?_
  intro p e s m args below meth c s₁ B hml hv
  obtain ⟨rfl, hsz, hP, hK, hD0⟩ := hv
  have hx := B.exec
  have hb := B.bytes
  have hr := B.returns
  have hts := atoms_spec (ws := wsX8_refuse) B.pre
  have hown : s.vm.findClass RX8 = some m.cls := findClass_of_methodNamed B.named
  have hlocks := B.notSynchronized
  have hu8 : ∀ w ∈ u_ws RX8 TX8 19, w ∈ wsX8_refuse := by decide +kernel
  subst hsz
  have hD := hD0.self (sz := s.heap.size)
  generalize hAe : va_A [(h0, .inr (8, [.ref k0, .ref k1, .ref k2, .ref k3, .ref k4, .ref k5, .ref k6, .ref k7, .ref k8, .ref k9, .ref k10, .int 0, .int 0, .int 0, .int 0, .int 0, .int 0, .int 0, .int 0])), (k10, .inl (cI, 7, .inl f))] s.heap.size = A at hD ⊢
  have hA : ∀ q : Nat, s.heap.size ≤ q → A q := fun q h => by rw [← hAe]; exact Or.inr h
  have hS : va_S A s.heap s.heap [] := va_S.rf
  have hl := lv_entry ([.ref h0, .int (-1)]) (n := 2) (Nat.le_of_ble_eq_true rfl)
  rw [lg_entry_eq]
  generalize (lg_sl ([.ref h0, .int (-1)]) ++ List.replicate (2 - (lg_sl ([.ref h0, .int (-1)])).length) Slot.unset).toArray = ls at hl ⊢
  have hl : lv_has ls 2 [(0, .ref h0), (1, .int (-1))] := hl
  obtain ⟨H, hH⟩ : ∃ H, H = s.heap := ⟨_, rfl⟩
  have hP : va_P (dC, dI) vwCl [(h0, .inr (8, [.ref k0, .ref k1, .ref k2, .ref k3, .ref k4, .ref k5, .ref k6, .ref k7, .ref k8, .ref k9, .ref k10, .int 0, .int 0, .int 0, .int 0, .int 0, .int 0, .int 0, .int 0])), (k10, .inl (cI, 7, .inl f))] H := by rw [hH]; exact hP
  have hS : va_S A s.heap H [] := by rw [hH]; exact hS
  show W _ _ _ _ _ _ _ _ _ _ s.heap _ _ _ _ _
  rw [← hH]
  refine lv_iload_n hx hb dX8_refuse_0 rfl (lv_at hl 1 rfl) ?_
  refine lv_if_ge (tgt := 21) hx hb dX8_refuse_1 (by decide) (fun c_1 => absurd c_1 (by decide)) (fun c_1 => ?_)
  refine lv_iload_n hx hb dX8_refuse_4 rfl (lv_at hl 1 rfl) ?_
  refine lv_bipush (v := (-6)) hx hb dX8_refuse_5 (by decide) ?_
  refine lv_icmp_lt (tgt := 21) hx hb dX8_refuse_7 (by decide) (fun c_2 => absurd c_2 (by decide)) (fun c_2 => ?_)
  refine lv_aload_n hx hb dX8_refuse_10 rfl (lv_at hl 0 rfl) ?_
  refine va_get (D := (dC, dI)) (ci := 8) (v := .ref k10) (C := RX8) (T := TX8) (N := 19) hx hb hts hu8 hown hK hP 0 rfl rfl 10 (by decide) (hts (.fieldLink RX8 72 "GrazeBook" "refusals" "[I") (by decide +kernel)) (fun _ h9 => h9) rfl dX8_refuse_11 ?_
  refine lv_iload_n hx hb dX8_refuse_14 rfl (lv_at hl 1 rfl) ?_
  refine lv_ineg hx hb dX8_refuse_15 ?_
  refine lv_topi (fun v_3 ev_3 => ?_)
  obtain rfl : v_3 = 1 := ev_3.trans (by decide)
  refine lv_dup2_11 hx hb dX8_refuse_16 rfl rfl ?_
  refine va_iald hx hb hK hP 1 0 rfl rfl (by unfold vp_in; decide) dX8_refuse_17 ?_
  refine lv_topi (fun v_4 ev_4 => ?_)
  refine lv_iconst (v := 1) hx hb dX8_refuse_18 (by decide) ?_
  refine lv_iadd hx hb dX8_refuse_19 ?_
  refine lv_topi (fun v_5 ev_5 => ?_)
  refine va_iast hx hb hK hP hD hS 1 0 rfl rfl (by unfold vp_in; decide) dX8_refuse_20 (fun H locs hP hD hS => ?_)
  generalize hgg_6 : upd _ _ _ = g_6 at hP hD
  have hP : va_P (dC, dI) vwCl [(h0, .inr (8, [.ref k0, .ref k1, .ref k2, .ref k3, .ref k4, .ref k5, .ref k6, .ref k7, .ref k8, .ref k9, .ref k10, .int 0, .int 0, .int 0, .int 0, .int 0, .int 0, .int 0, .int 0])), (k10, .inl (cI, 7, .inl g_6))] H := hP
  have hD : va_D A [(h0, .inr (8, [.ref k0, .ref k1, .ref k2, .ref k3, .ref k4, .ref k5, .ref k6, .ref k7, .ref k8, .ref k9, .ref k10, .int 0, .int 0, .int 0, .int 0, .int 0, .int 0, .int 0, .int 0])), (k10, .inl (cI, 7, .inl g_6))] := hD
  refine lv_iload_n hx hb dX8_refuse_21 rfl (lv_at hl 1 rfl) ?_
  have hP9 := hP.sub (ws' := []) [] rfl
  have hD9 := hD.sub (ws' := []) [] (by decide) rfl
  exact W.iret (v := (-1)) hx hb hr (fun t ht hW => ⟨⟨(-1), (), rfl, rfl, by rw [ht]; exact hP9, va_K.moved hW.alike hK, hD9⟩, hS.F ht⟩) hS.2.2 dX8_refuse_22

set_option maxHeartbeats 1000000 in
set_option maxRecDepth 100000 in
theorem c_X8_refuse_m2 (l : Launch) (dC : Nat → ClassId) (dI : Nat → Nat → Nat) (cI cZ cG cP cC cD cQ : ClassId) (h0 : Nat) (k0 : Nat) (k1 : Nat) (k2 : Nat) (k3 : Nat) (k4 : Nat) (k5 : Nat) (k6 : Nat) (k7 : Nat) (k8 : Nat) (k9 : Nat) (k10 : Nat) (f : Nat → Int32) (sz : Nat)  : Met l yX8_refuse wsX8_refuse ({ frames := 0, cells := 0, slots := 0, locals := 0 }) (va_Pc [.ref h0, .int (-2)] (fun U => U.heap.size = sz ∧ va_P (dC, dI) vwCl [(h0, .inr (8, [.ref k0, .ref k1, .ref k2, .ref k3, .ref k4, .ref k5, .ref k6, .ref k7, .ref k8, .ref k9, .ref k10, .int 0, .int 0, .int 0, .int 0, .int 0, .int 0, .int 0, .int 0])), (k10, .inl (cI, 7, .inl f))] U.heap ∧ va_K (dC, dI) vwCl [(cI, .int), (cZ, .boolean), (cG, .object "GrazeBook$Ground"), (cP, .object "GrazeBook$Purse"), (cC, .object "GrazeBook$Claim"), (cD, .object "GrazeBook$Drove"), (cQ, .array .int)] U ∧ va_D (fun _ => True) [(h0, .inr (8, [.ref k0, .ref k1, .ref k2, .ref k3, .ref k4, .ref k5, .ref k6, .ref k7, .ref k8, .ref k9, .ref k10, .int 0, .int 0, .int 0, .int 0, .int 0, .int 0, .int 0, .int 0])), (k10, .inl (cI, 7, .inl f))])) (va_Qi (fun (r : Int32) (_ : Unit) => r = (-2)) (fun (_ : Unit) (t : State) => va_P (dC, dI) vwCl [] t.heap ∧ va_K (dC, dI) vwCl [(cI, .int), (cZ, .boolean), (cG, .object "GrazeBook$Ground"), (cP, .object "GrazeBook$Purse"), (cC, .object "GrazeBook$Claim"), (cD, .object "GrazeBook$Drove"), (cQ, .array .int)] t ∧ va_D (va_A [(h0, .inr (8, [.ref k0, .ref k1, .ref k2, .ref k3, .ref k4, .ref k5, .ref k6, .ref k7, .ref k8, .ref k9, .ref k10, .int 0, .int 0, .int 0, .int 0, .int 0, .int 0, .int 0, .int 0])), (k10, .inl (cI, 7, .inl f))] sz) []) (va_A [(h0, .inr (8, [.ref k0, .ref k1, .ref k2, .ref k3, .ref k4, .ref k5, .ref k6, .ref k7, .ref k8, .ref k9, .ref k10, .int 0, .int 0, .int 0, .int 0, .int 0, .int 0, .int 0, .int 0])), (k10, .inl (cI, 7, .inl f))] sz)) 0 0 (va_A [(h0, .inr (8, [.ref k0, .ref k1, .ref k2, .ref k3, .ref k4, .ref k5, .ref k6, .ref k7, .ref k8, .ref k9, .ref k10, .int 0, .int 0, .int 0, .int 0, .int 0, .int 0, .int 0, .int 0])), (k10, .inl (cI, 7, .inl f))] sz) := by
  refine Met.ofW (cc := cX8_refuse) (maxL := 2) (ret := (some .int)) (by decide) rfl ?_
  intro p e s m args below meth c s₁ B hml hv
  obtain ⟨rfl, hsz, hP, hK, hD0⟩ := hv
  have hx := B.exec
  have hb := B.bytes
  have hr := B.returns
  have hts := atoms_spec (ws := wsX8_refuse) B.pre
  have hown : s.vm.findClass RX8 = some m.cls := findClass_of_methodNamed B.named
  have hlocks := B.notSynchronized
  have hu8 : ∀ w ∈ u_ws RX8 TX8 19, w ∈ wsX8_refuse := by decide +kernel
  subst hsz
  have hD := hD0.self (sz := s.heap.size)
  generalize hAe : va_A [(h0, .inr (8, [.ref k0, .ref k1, .ref k2, .ref k3, .ref k4, .ref k5, .ref k6, .ref k7, .ref k8, .ref k9, .ref k10, .int 0, .int 0, .int 0, .int 0, .int 0, .int 0, .int 0, .int 0])), (k10, .inl (cI, 7, .inl f))] s.heap.size = A at hD ⊢
  have hA : ∀ q : Nat, s.heap.size ≤ q → A q := fun q h => by rw [← hAe]; exact Or.inr h
  have hS : va_S A s.heap s.heap [] := va_S.rf
  have hl := lv_entry ([.ref h0, .int (-2)]) (n := 2) (Nat.le_of_ble_eq_true rfl)
  rw [lg_entry_eq]
  generalize (lg_sl ([.ref h0, .int (-2)]) ++ List.replicate (2 - (lg_sl ([.ref h0, .int (-2)])).length) Slot.unset).toArray = ls at hl ⊢
  have hl : lv_has ls 2 [(0, .ref h0), (1, .int (-2))] := hl
  obtain ⟨H, hH⟩ : ∃ H, H = s.heap := ⟨_, rfl⟩
  have hP : va_P (dC, dI) vwCl [(h0, .inr (8, [.ref k0, .ref k1, .ref k2, .ref k3, .ref k4, .ref k5, .ref k6, .ref k7, .ref k8, .ref k9, .ref k10, .int 0, .int 0, .int 0, .int 0, .int 0, .int 0, .int 0, .int 0])), (k10, .inl (cI, 7, .inl f))] H := by rw [hH]; exact hP
  have hS : va_S A s.heap H [] := by rw [hH]; exact hS
  show W _ _ _ _ _ _ _ _ _ _ s.heap _ _ _ _ _
  rw [← hH]
  refine lv_iload_n hx hb dX8_refuse_0 rfl (lv_at hl 1 rfl) ?_
  refine lv_if_ge (tgt := 21) hx hb dX8_refuse_1 (by decide) (fun c_1 => absurd c_1 (by decide)) (fun c_1 => ?_)
  refine lv_iload_n hx hb dX8_refuse_4 rfl (lv_at hl 1 rfl) ?_
  refine lv_bipush (v := (-6)) hx hb dX8_refuse_5 (by decide) ?_
  refine lv_icmp_lt (tgt := 21) hx hb dX8_refuse_7 (by decide) (fun c_2 => absurd c_2 (by decide)) (fun c_2 => ?_)
  refine lv_aload_n hx hb dX8_refuse_10 rfl (lv_at hl 0 rfl) ?_
  refine va_get (D := (dC, dI)) (ci := 8) (v := .ref k10) (C := RX8) (T := TX8) (N := 19) hx hb hts hu8 hown hK hP 0 rfl rfl 10 (by decide) (hts (.fieldLink RX8 72 "GrazeBook" "refusals" "[I") (by decide +kernel)) (fun _ h9 => h9) rfl dX8_refuse_11 ?_
  refine lv_iload_n hx hb dX8_refuse_14 rfl (lv_at hl 1 rfl) ?_
  refine lv_ineg hx hb dX8_refuse_15 ?_
  refine lv_topi (fun v_3 ev_3 => ?_)
  obtain rfl : v_3 = 2 := ev_3.trans (by decide)
  refine lv_dup2_11 hx hb dX8_refuse_16 rfl rfl ?_
  refine va_iald hx hb hK hP 1 0 rfl rfl (by unfold vp_in; decide) dX8_refuse_17 ?_
  refine lv_topi (fun v_4 ev_4 => ?_)
  refine lv_iconst (v := 1) hx hb dX8_refuse_18 (by decide) ?_
  refine lv_iadd hx hb dX8_refuse_19 ?_
  refine lv_topi (fun v_5 ev_5 => ?_)
  refine va_iast hx hb hK hP hD hS 1 0 rfl rfl (by unfold vp_in; decide) dX8_refuse_20 (fun H locs hP hD hS => ?_)
  generalize hgg_6 : upd _ _ _ = g_6 at hP hD
  have hP : va_P (dC, dI) vwCl [(h0, .inr (8, [.ref k0, .ref k1, .ref k2, .ref k3, .ref k4, .ref k5, .ref k6, .ref k7, .ref k8, .ref k9, .ref k10, .int 0, .int 0, .int 0, .int 0, .int 0, .int 0, .int 0, .int 0])), (k10, .inl (cI, 7, .inl g_6))] H := hP
  have hD : va_D A [(h0, .inr (8, [.ref k0, .ref k1, .ref k2, .ref k3, .ref k4, .ref k5, .ref k6, .ref k7, .ref k8, .ref k9, .ref k10, .int 0, .int 0, .int 0, .int 0, .int 0, .int 0, .int 0, .int 0])), (k10, .inl (cI, 7, .inl g_6))] := hD
  refine lv_iload_n hx hb dX8_refuse_21 rfl (lv_at hl 1 rfl) ?_
  have hP9 := hP.sub (ws' := []) [] rfl
  have hD9 := hD.sub (ws' := []) [] (by decide) rfl
  exact W.iret (v := (-2)) hx hb hr (fun t ht hW => ⟨⟨(-2), (), rfl, rfl, by rw [ht]; exact hP9, va_K.moved hW.alike hK, hD9⟩, hS.F ht⟩) hS.2.2 dX8_refuse_22

set_option maxHeartbeats 1000000 in
set_option maxRecDepth 100000 in
theorem c_X8_refuse_m3 (l : Launch) (dC : Nat → ClassId) (dI : Nat → Nat → Nat) (cI cZ cG cP cC cD cQ : ClassId) (h0 : Nat) (k0 : Nat) (k1 : Nat) (k2 : Nat) (k3 : Nat) (k4 : Nat) (k5 : Nat) (k6 : Nat) (k7 : Nat) (k8 : Nat) (k9 : Nat) (k10 : Nat) (f : Nat → Int32) (sz : Nat)  : Met l yX8_refuse wsX8_refuse ({ frames := 0, cells := 0, slots := 0, locals := 0 }) (va_Pc [.ref h0, .int (-3)] (fun U => U.heap.size = sz ∧ va_P (dC, dI) vwCl [(h0, .inr (8, [.ref k0, .ref k1, .ref k2, .ref k3, .ref k4, .ref k5, .ref k6, .ref k7, .ref k8, .ref k9, .ref k10, .int 0, .int 0, .int 0, .int 0, .int 0, .int 0, .int 0, .int 0])), (k10, .inl (cI, 7, .inl f))] U.heap ∧ va_K (dC, dI) vwCl [(cI, .int), (cZ, .boolean), (cG, .object "GrazeBook$Ground"), (cP, .object "GrazeBook$Purse"), (cC, .object "GrazeBook$Claim"), (cD, .object "GrazeBook$Drove"), (cQ, .array .int)] U ∧ va_D (fun _ => True) [(h0, .inr (8, [.ref k0, .ref k1, .ref k2, .ref k3, .ref k4, .ref k5, .ref k6, .ref k7, .ref k8, .ref k9, .ref k10, .int 0, .int 0, .int 0, .int 0, .int 0, .int 0, .int 0, .int 0])), (k10, .inl (cI, 7, .inl f))])) (va_Qi (fun (r : Int32) (_ : Unit) => r = (-3)) (fun (_ : Unit) (t : State) => va_P (dC, dI) vwCl [] t.heap ∧ va_K (dC, dI) vwCl [(cI, .int), (cZ, .boolean), (cG, .object "GrazeBook$Ground"), (cP, .object "GrazeBook$Purse"), (cC, .object "GrazeBook$Claim"), (cD, .object "GrazeBook$Drove"), (cQ, .array .int)] t ∧ va_D (va_A [(h0, .inr (8, [.ref k0, .ref k1, .ref k2, .ref k3, .ref k4, .ref k5, .ref k6, .ref k7, .ref k8, .ref k9, .ref k10, .int 0, .int 0, .int 0, .int 0, .int 0, .int 0, .int 0, .int 0])), (k10, .inl (cI, 7, .inl f))] sz) []) (va_A [(h0, .inr (8, [.ref k0, .ref k1, .ref k2, .ref k3, .ref k4, .ref k5, .ref k6, .ref k7, .ref k8, .ref k9, .ref k10, .int 0, .int 0, .int 0, .int 0, .int 0, .int 0, .int 0, .int 0])), (k10, .inl (cI, 7, .inl f))] sz)) 0 0 (va_A [(h0, .inr (8, [.ref k0, .ref k1, .ref k2, .ref k3, .ref k4, .ref k5, .ref k6, .ref k7, .ref k8, .ref k9, .ref k10, .int 0, .int 0, .int 0, .int 0, .int 0, .int 0, .int 0, .int 0])), (k10, .inl (cI, 7, .inl f))] sz) := by
  refine Met.ofW (cc := cX8_refuse) (maxL := 2) (ret := (some .int)) (by decide) rfl ?_
  intro p e s m args below meth c s₁ B hml hv
  obtain ⟨rfl, hsz, hP, hK, hD0⟩ := hv
  have hx := B.exec
  have hb := B.bytes
  have hr := B.returns
  have hts := atoms_spec (ws := wsX8_refuse) B.pre
  have hown : s.vm.findClass RX8 = some m.cls := findClass_of_methodNamed B.named
  have hlocks := B.notSynchronized
  have hu8 : ∀ w ∈ u_ws RX8 TX8 19, w ∈ wsX8_refuse := by decide +kernel
  subst hsz
  have hD := hD0.self (sz := s.heap.size)
  generalize hAe : va_A [(h0, .inr (8, [.ref k0, .ref k1, .ref k2, .ref k3, .ref k4, .ref k5, .ref k6, .ref k7, .ref k8, .ref k9, .ref k10, .int 0, .int 0, .int 0, .int 0, .int 0, .int 0, .int 0, .int 0])), (k10, .inl (cI, 7, .inl f))] s.heap.size = A at hD ⊢
  have hA : ∀ q : Nat, s.heap.size ≤ q → A q := fun q h => by rw [← hAe]; exact Or.inr h
  have hS : va_S A s.heap s.heap [] := va_S.rf
  have hl := lv_entry ([.ref h0, .int (-3)]) (n := 2) (Nat.le_of_ble_eq_true rfl)
  rw [lg_entry_eq]
  generalize (lg_sl ([.ref h0, .int (-3)]) ++ List.replicate (2 - (lg_sl ([.ref h0, .int (-3)])).length) Slot.unset).toArray = ls at hl ⊢
  have hl : lv_has ls 2 [(0, .ref h0), (1, .int (-3))] := hl
  obtain ⟨H, hH⟩ : ∃ H, H = s.heap := ⟨_, rfl⟩
  have hP : va_P (dC, dI) vwCl [(h0, .inr (8, [.ref k0, .ref k1, .ref k2, .ref k3, .ref k4, .ref k5, .ref k6, .ref k7, .ref k8, .ref k9, .ref k10, .int 0, .int 0, .int 0, .int 0, .int 0, .int 0, .int 0, .int 0])), (k10, .inl (cI, 7, .inl f))] H := by rw [hH]; exact hP
  have hS : va_S A s.heap H [] := by rw [hH]; exact hS
  show W _ _ _ _ _ _ _ _ _ _ s.heap _ _ _ _ _
  rw [← hH]
  refine lv_iload_n hx hb dX8_refuse_0 rfl (lv_at hl 1 rfl) ?_
  refine lv_if_ge (tgt := 21) hx hb dX8_refuse_1 (by decide) (fun c_1 => absurd c_1 (by decide)) (fun c_1 => ?_)
  refine lv_iload_n hx hb dX8_refuse_4 rfl (lv_at hl 1 rfl) ?_
  refine lv_bipush (v := (-6)) hx hb dX8_refuse_5 (by decide) ?_
  refine lv_icmp_lt (tgt := 21) hx hb dX8_refuse_7 (by decide) (fun c_2 => absurd c_2 (by decide)) (fun c_2 => ?_)
  refine lv_aload_n hx hb dX8_refuse_10 rfl (lv_at hl 0 rfl) ?_
  refine va_get (D := (dC, dI)) (ci := 8) (v := .ref k10) (C := RX8) (T := TX8) (N := 19) hx hb hts hu8 hown hK hP 0 rfl rfl 10 (by decide) (hts (.fieldLink RX8 72 "GrazeBook" "refusals" "[I") (by decide +kernel)) (fun _ h9 => h9) rfl dX8_refuse_11 ?_
  refine lv_iload_n hx hb dX8_refuse_14 rfl (lv_at hl 1 rfl) ?_
  refine lv_ineg hx hb dX8_refuse_15 ?_
  refine lv_topi (fun v_3 ev_3 => ?_)
  obtain rfl : v_3 = 3 := ev_3.trans (by decide)
  refine lv_dup2_11 hx hb dX8_refuse_16 rfl rfl ?_
  refine va_iald hx hb hK hP 1 0 rfl rfl (by unfold vp_in; decide) dX8_refuse_17 ?_
  refine lv_topi (fun v_4 ev_4 => ?_)
  refine lv_iconst (v := 1) hx hb dX8_refuse_18 (by decide) ?_
  refine lv_iadd hx hb dX8_refuse_19 ?_
  refine lv_topi (fun v_5 ev_5 => ?_)
  refine va_iast hx hb hK hP hD hS 1 0 rfl rfl (by unfold vp_in; decide) dX8_refuse_20 (fun H locs hP hD hS => ?_)
  generalize hgg_6 : upd _ _ _ = g_6 at hP hD
  have hP : va_P (dC, dI) vwCl [(h0, .inr (8, [.ref k0, .ref k1, .ref k2, .ref k3, .ref k4, .ref k5, .ref k6, .ref k7, .ref k8, .ref k9, .ref k10, .int 0, .int 0, .int 0, .int 0, .int 0, .int 0, .int 0, .int 0])), (k10, .inl (cI, 7, .inl g_6))] H := hP
  have hD : va_D A [(h0, .inr (8, [.ref k0, .ref k1, .ref k2, .ref k3, .ref k4, .ref k5, .ref k6, .ref k7, .ref k8, .ref k9, .ref k10, .int 0, .int 0, .int 0, .int 0, .int 0, .int 0, .int 0, .int 0])), (k10, .inl (cI, 7, .inl g_6))] := hD
  refine lv_iload_n hx hb dX8_refuse_21 rfl (lv_at hl 1 rfl) ?_
  have hP9 := hP.sub (ws' := []) [] rfl
  have hD9 := hD.sub (ws' := []) [] (by decide) rfl
  exact W.iret (v := (-3)) hx hb hr (fun t ht hW => ⟨⟨(-3), (), rfl, rfl, by rw [ht]; exact hP9, va_K.moved hW.alike hK, hD9⟩, hS.F ht⟩) hS.2.2 dX8_refuse_22

set_option maxHeartbeats 1000000 in
set_option maxRecDepth 100000 in
theorem c_X8_refuse_m4 (l : Launch) (dC : Nat → ClassId) (dI : Nat → Nat → Nat) (cI cZ cG cP cC cD cQ : ClassId) (h0 : Nat) (k0 : Nat) (k1 : Nat) (k2 : Nat) (k3 : Nat) (k4 : Nat) (k5 : Nat) (k6 : Nat) (k7 : Nat) (k8 : Nat) (k9 : Nat) (k10 : Nat) (f : Nat → Int32) (sz : Nat)  : Met l yX8_refuse wsX8_refuse ({ frames := 0, cells := 0, slots := 0, locals := 0 }) (va_Pc [.ref h0, .int (-4)] (fun U => U.heap.size = sz ∧ va_P (dC, dI) vwCl [(h0, .inr (8, [.ref k0, .ref k1, .ref k2, .ref k3, .ref k4, .ref k5, .ref k6, .ref k7, .ref k8, .ref k9, .ref k10, .int 0, .int 0, .int 0, .int 0, .int 0, .int 0, .int 0, .int 0])), (k10, .inl (cI, 7, .inl f))] U.heap ∧ va_K (dC, dI) vwCl [(cI, .int), (cZ, .boolean), (cG, .object "GrazeBook$Ground"), (cP, .object "GrazeBook$Purse"), (cC, .object "GrazeBook$Claim"), (cD, .object "GrazeBook$Drove"), (cQ, .array .int)] U ∧ va_D (fun _ => True) [(h0, .inr (8, [.ref k0, .ref k1, .ref k2, .ref k3, .ref k4, .ref k5, .ref k6, .ref k7, .ref k8, .ref k9, .ref k10, .int 0, .int 0, .int 0, .int 0, .int 0, .int 0, .int 0, .int 0])), (k10, .inl (cI, 7, .inl f))])) (va_Qi (fun (r : Int32) (_ : Unit) => r = (-4)) (fun (_ : Unit) (t : State) => va_P (dC, dI) vwCl [] t.heap ∧ va_K (dC, dI) vwCl [(cI, .int), (cZ, .boolean), (cG, .object "GrazeBook$Ground"), (cP, .object "GrazeBook$Purse"), (cC, .object "GrazeBook$Claim"), (cD, .object "GrazeBook$Drove"), (cQ, .array .int)] t ∧ va_D (va_A [(h0, .inr (8, [.ref k0, .ref k1, .ref k2, .ref k3, .ref k4, .ref k5, .ref k6, .ref k7, .ref k8, .ref k9, .ref k10, .int 0, .int 0, .int 0, .int 0, .int 0, .int 0, .int 0, .int 0])), (k10, .inl (cI, 7, .inl f))] sz) []) (va_A [(h0, .inr (8, [.ref k0, .ref k1, .ref k2, .ref k3, .ref k4, .ref k5, .ref k6, .ref k7, .ref k8, .ref k9, .ref k10, .int 0, .int 0, .int 0, .int 0, .int 0, .int 0, .int 0, .int 0])), (k10, .inl (cI, 7, .inl f))] sz)) 0 0 (va_A [(h0, .inr (8, [.ref k0, .ref k1, .ref k2, .ref k3, .ref k4, .ref k5, .ref k6, .ref k7, .ref k8, .ref k9, .ref k10, .int 0, .int 0, .int 0, .int 0, .int 0, .int 0, .int 0, .int 0])), (k10, .inl (cI, 7, .inl f))] sz) := by
  refine Met.ofW (cc := cX8_refuse) (maxL := 2) (ret := (some .int)) (by decide) rfl ?_
  intro p e s m args below meth c s₁ B hml hv
  obtain ⟨rfl, hsz, hP, hK, hD0⟩ := hv
  have hx := B.exec
  have hb := B.bytes
  have hr := B.returns
  have hts := atoms_spec (ws := wsX8_refuse) B.pre
  have hown : s.vm.findClass RX8 = some m.cls := findClass_of_methodNamed B.named
  have hlocks := B.notSynchronized
  have hu8 : ∀ w ∈ u_ws RX8 TX8 19, w ∈ wsX8_refuse := by decide +kernel
  subst hsz
  have hD := hD0.self (sz := s.heap.size)
  generalize hAe : va_A [(h0, .inr (8, [.ref k0, .ref k1, .ref k2, .ref k3, .ref k4, .ref k5, .ref k6, .ref k7, .ref k8, .ref k9, .ref k10, .int 0, .int 0, .int 0, .int 0, .int 0, .int 0, .int 0, .int 0])), (k10, .inl (cI, 7, .inl f))] s.heap.size = A at hD ⊢
  have hA : ∀ q : Nat, s.heap.size ≤ q → A q := fun q h => by rw [← hAe]; exact Or.inr h
  have hS : va_S A s.heap s.heap [] := va_S.rf
  have hl := lv_entry ([.ref h0, .int (-4)]) (n := 2) (Nat.le_of_ble_eq_true rfl)
  rw [lg_entry_eq]
  generalize (lg_sl ([.ref h0, .int (-4)]) ++ List.replicate (2 - (lg_sl ([.ref h0, .int (-4)])).length) Slot.unset).toArray = ls at hl ⊢
  have hl : lv_has ls 2 [(0, .ref h0), (1, .int (-4))] := hl
  obtain ⟨H, hH⟩ : ∃ H, H = s.heap := ⟨_, rfl⟩
  have hP : va_P (dC, dI) vwCl [(h0, .inr (8, [.ref k0, .ref k1, .ref k2, .ref k3, .ref k4, .ref k5, .ref k6, .ref k7, .ref k8, .ref k9, .ref k10, .int 0, .int 0, .int 0, .int 0, .int 0, .int 0, .int 0, .int 0])), (k10, .inl (cI, 7, .inl f))] H := by rw [hH]; exact hP
  have hS : va_S A s.heap H [] := by rw [hH]; exact hS
  show W _ _ _ _ _ _ _ _ _ _ s.heap _ _ _ _ _
  rw [← hH]
  refine lv_iload_n hx hb dX8_refuse_0 rfl (lv_at hl 1 rfl) ?_
  refine lv_if_ge (tgt := 21) hx hb dX8_refuse_1 (by decide) (fun c_1 => absurd c_1 (by decide)) (fun c_1 => ?_)
  refine lv_iload_n hx hb dX8_refuse_4 rfl (lv_at hl 1 rfl) ?_
  refine lv_bipush (v := (-6)) hx hb dX8_refuse_5 (by decide) ?_
  refine lv_icmp_lt (tgt := 21) hx hb dX8_refuse_7 (by decide) (fun c_2 => absurd c_2 (by decide)) (fun c_2 => ?_)
  refine lv_aload_n hx hb dX8_refuse_10 rfl (lv_at hl 0 rfl) ?_
  refine va_get (D := (dC, dI)) (ci := 8) (v := .ref k10) (C := RX8) (T := TX8) (N := 19) hx hb hts hu8 hown hK hP 0 rfl rfl 10 (by decide) (hts (.fieldLink RX8 72 "GrazeBook" "refusals" "[I") (by decide +kernel)) (fun _ h9 => h9) rfl dX8_refuse_11 ?_
  refine lv_iload_n hx hb dX8_refuse_14 rfl (lv_at hl 1 rfl) ?_
  refine lv_ineg hx hb dX8_refuse_15 ?_
  refine lv_topi (fun v_3 ev_3 => ?_)
  obtain rfl : v_3 = 4 := ev_3.trans (by decide)
  refine lv_dup2_11 hx hb dX8_refuse_16 rfl rfl ?_
  refine va_iald hx hb hK hP 1 0 rfl rfl (by unfold vp_in; decide) dX8_refuse_17 ?_
  refine lv_topi (fun v_4 ev_4 => ?_)
  refine lv_iconst (v := 1) hx hb dX8_refuse_18 (by decide) ?_
  refine lv_iadd hx hb dX8_refuse_19 ?_
  refine lv_topi (fun v_5 ev_5 => ?_)
  refine va_iast hx hb hK hP hD hS 1 0 rfl rfl (by unfold vp_in; decide) dX8_refuse_20 (fun H locs hP hD hS => ?_)
  generalize hgg_6 : upd _ _ _ = g_6 at hP hD
  have hP : va_P (dC, dI) vwCl [(h0, .inr (8, [.ref k0, .ref k1, .ref k2, .ref k3, .ref k4, .ref k5, .ref k6, .ref k7, .ref k8, .ref k9, .ref k10, .int 0, .int 0, .int 0, .int 0, .int 0, .int 0, .int 0, .int 0])), (k10, .inl (cI, 7, .inl g_6))] H := hP
  have hD : va_D A [(h0, .inr (8, [.ref k0, .ref k1, .ref k2, .ref k3, .ref k4, .ref k5, .ref k6, .ref k7, .ref k8, .ref k9, .ref k10, .int 0, .int 0, .int 0, .int 0, .int 0, .int 0, .int 0, .int 0])), (k10, .inl (cI, 7, .inl g_6))] := hD
  refine lv_iload_n hx hb dX8_refuse_21 rfl (lv_at hl 1 rfl) ?_
  have hP9 := hP.sub (ws' := []) [] rfl
  have hD9 := hD.sub (ws' := []) [] (by decide) rfl
  exact W.iret (v := (-4)) hx hb hr (fun t ht hW => ⟨⟨(-4), (), rfl, rfl, by rw [ht]; exact hP9, va_K.moved hW.alike hK, hD9⟩, hS.F ht⟩) hS.2.2 dX8_refuse_22

set_option maxHeartbeats 1000000 in
set_option maxRecDepth 100000 in
theorem c_X8_refuse_m5 (l : Launch) (dC : Nat → ClassId) (dI : Nat → Nat → Nat) (cI cZ cG cP cC cD cQ : ClassId) (h0 : Nat) (k0 : Nat) (k1 : Nat) (k2 : Nat) (k3 : Nat) (k4 : Nat) (k5 : Nat) (k6 : Nat) (k7 : Nat) (k8 : Nat) (k9 : Nat) (k10 : Nat) (f : Nat → Int32) (sz : Nat)  : Met l yX8_refuse wsX8_refuse ({ frames := 0, cells := 0, slots := 0, locals := 0 }) (va_Pc [.ref h0, .int (-5)] (fun U => U.heap.size = sz ∧ va_P (dC, dI) vwCl [(h0, .inr (8, [.ref k0, .ref k1, .ref k2, .ref k3, .ref k4, .ref k5, .ref k6, .ref k7, .ref k8, .ref k9, .ref k10, .int 0, .int 0, .int 0, .int 0, .int 0, .int 0, .int 0, .int 0])), (k10, .inl (cI, 7, .inl f))] U.heap ∧ va_K (dC, dI) vwCl [(cI, .int), (cZ, .boolean), (cG, .object "GrazeBook$Ground"), (cP, .object "GrazeBook$Purse"), (cC, .object "GrazeBook$Claim"), (cD, .object "GrazeBook$Drove"), (cQ, .array .int)] U ∧ va_D (fun _ => True) [(h0, .inr (8, [.ref k0, .ref k1, .ref k2, .ref k3, .ref k4, .ref k5, .ref k6, .ref k7, .ref k8, .ref k9, .ref k10, .int 0, .int 0, .int 0, .int 0, .int 0, .int 0, .int 0, .int 0])), (k10, .inl (cI, 7, .inl f))])) (va_Qi (fun (r : Int32) (_ : Unit) => r = (-5)) (fun (_ : Unit) (t : State) => va_P (dC, dI) vwCl [] t.heap ∧ va_K (dC, dI) vwCl [(cI, .int), (cZ, .boolean), (cG, .object "GrazeBook$Ground"), (cP, .object "GrazeBook$Purse"), (cC, .object "GrazeBook$Claim"), (cD, .object "GrazeBook$Drove"), (cQ, .array .int)] t ∧ va_D (va_A [(h0, .inr (8, [.ref k0, .ref k1, .ref k2, .ref k3, .ref k4, .ref k5, .ref k6, .ref k7, .ref k8, .ref k9, .ref k10, .int 0, .int 0, .int 0, .int 0, .int 0, .int 0, .int 0, .int 0])), (k10, .inl (cI, 7, .inl f))] sz) []) (va_A [(h0, .inr (8, [.ref k0, .ref k1, .ref k2, .ref k3, .ref k4, .ref k5, .ref k6, .ref k7, .ref k8, .ref k9, .ref k10, .int 0, .int 0, .int 0, .int 0, .int 0, .int 0, .int 0, .int 0])), (k10, .inl (cI, 7, .inl f))] sz)) 0 0 (va_A [(h0, .inr (8, [.ref k0, .ref k1, .ref k2, .ref k3, .ref k4, .ref k5, .ref k6, .ref k7, .ref k8, .ref k9, .ref k10, .int 0, .int 0, .int 0, .int 0, .int 0, .int 0, .int 0, .int 0])), (k10, .inl (cI, 7, .inl f))] sz) := by
  refine Met.ofW (cc := cX8_refuse) (maxL := 2) (ret := (some .int)) (by decide) rfl ?_
  intro p e s m args below meth c s₁ B hml hv
  obtain ⟨rfl, hsz, hP, hK, hD0⟩ := hv
  have hx := B.exec
  have hb := B.bytes
  have hr := B.returns
  have hts := atoms_spec (ws := wsX8_refuse) B.pre
  have hown : s.vm.findClass RX8 = some m.cls := findClass_of_methodNamed B.named
  have hlocks := B.notSynchronized
  have hu8 : ∀ w ∈ u_ws RX8 TX8 19, w ∈ wsX8_refuse := by decide +kernel
  subst hsz
  have hD := hD0.self (sz := s.heap.size)
  generalize hAe : va_A [(h0, .inr (8, [.ref k0, .ref k1, .ref k2, .ref k3, .ref k4, .ref k5, .ref k6, .ref k7, .ref k8, .ref k9, .ref k10, .int 0, .int 0, .int 0, .int 0, .int 0, .int 0, .int 0, .int 0])), (k10, .inl (cI, 7, .inl f))] s.heap.size = A at hD ⊢
  have hA : ∀ q : Nat, s.heap.size ≤ q → A q := fun q h => by rw [← hAe]; exact Or.inr h
  have hS : va_S A s.heap s.heap [] := va_S.rf
  have hl := lv_entry ([.ref h0, .int (-5)]) (n := 2) (Nat.le_of_ble_eq_true rfl)
  rw [lg_entry_eq]
  generalize (lg_sl ([.ref h0, .int (-5)]) ++ List.replicate (2 - (lg_sl ([.ref h0, .int (-5)])).length) Slot.unset).toArray = ls at hl ⊢
  have hl : lv_has ls 2 [(0, .ref h0), (1, .int (-5))] := hl
  obtain ⟨H, hH⟩ : ∃ H, H = s.heap := ⟨_, rfl⟩
  have hP : va_P (dC, dI) vwCl [(h0, .inr (8, [.ref k0, .ref k1, .ref k2, .ref k3, .ref k4, .ref k5, .ref k6, .ref k7, .ref k8, .ref k9, .ref k10, .int 0, .int 0, .int 0, .int 0, .int 0, .int 0, .int 0, .int 0])), (k10, .inl (cI, 7, .inl f))] H := by rw [hH]; exact hP
  have hS : va_S A s.heap H [] := by rw [hH]; exact hS
  show W _ _ _ _ _ _ _ _ _ _ s.heap _ _ _ _ _
  rw [← hH]
  refine lv_iload_n hx hb dX8_refuse_0 rfl (lv_at hl 1 rfl) ?_
  refine lv_if_ge (tgt := 21) hx hb dX8_refuse_1 (by decide) (fun c_1 => absurd c_1 (by decide)) (fun c_1 => ?_)
  refine lv_iload_n hx hb dX8_refuse_4 rfl (lv_at hl 1 rfl) ?_
  refine lv_bipush (v := (-6)) hx hb dX8_refuse_5 (by decide) ?_
  refine lv_icmp_lt (tgt := 21) hx hb dX8_refuse_7 (by decide) (fun c_2 => absurd c_2 (by decide)) (fun c_2 => ?_)
  refine lv_aload_n hx hb dX8_refuse_10 rfl (lv_at hl 0 rfl) ?_
  refine va_get (D := (dC, dI)) (ci := 8) (v := .ref k10) (C := RX8) (T := TX8) (N := 19) hx hb hts hu8 hown hK hP 0 rfl rfl 10 (by decide) (hts (.fieldLink RX8 72 "GrazeBook" "refusals" "[I") (by decide +kernel)) (fun _ h9 => h9) rfl dX8_refuse_11 ?_
  refine lv_iload_n hx hb dX8_refuse_14 rfl (lv_at hl 1 rfl) ?_
  refine lv_ineg hx hb dX8_refuse_15 ?_
  refine lv_topi (fun v_3 ev_3 => ?_)
  obtain rfl : v_3 = 5 := ev_3.trans (by decide)
  refine lv_dup2_11 hx hb dX8_refuse_16 rfl rfl ?_
  refine va_iald hx hb hK hP 1 0 rfl rfl (by unfold vp_in; decide) dX8_refuse_17 ?_
  refine lv_topi (fun v_4 ev_4 => ?_)
  refine lv_iconst (v := 1) hx hb dX8_refuse_18 (by decide) ?_
  refine lv_iadd hx hb dX8_refuse_19 ?_
  refine lv_topi (fun v_5 ev_5 => ?_)
  refine va_iast hx hb hK hP hD hS 1 0 rfl rfl (by unfold vp_in; decide) dX8_refuse_20 (fun H locs hP hD hS => ?_)
  generalize hgg_6 : upd _ _ _ = g_6 at hP hD
  have hP : va_P (dC, dI) vwCl [(h0, .inr (8, [.ref k0, .ref k1, .ref k2, .ref k3, .ref k4, .ref k5, .ref k6, .ref k7, .ref k8, .ref k9, .ref k10, .int 0, .int 0, .int 0, .int 0, .int 0, .int 0, .int 0, .int 0])), (k10, .inl (cI, 7, .inl g_6))] H := hP
  have hD : va_D A [(h0, .inr (8, [.ref k0, .ref k1, .ref k2, .ref k3, .ref k4, .ref k5, .ref k6, .ref k7, .ref k8, .ref k9, .ref k10, .int 0, .int 0, .int 0, .int 0, .int 0, .int 0, .int 0, .int 0])), (k10, .inl (cI, 7, .inl g_6))] := hD
  refine lv_iload_n hx hb dX8_refuse_21 rfl (lv_at hl 1 rfl) ?_
  have hP9 := hP.sub (ws' := []) [] rfl
  have hD9 := hD.sub (ws' := []) [] (by decide) rfl
  exact W.iret (v := (-5)) hx hb hr (fun t ht hW => ⟨⟨(-5), (), rfl, rfl, by rw [ht]; exact hP9, va_K.moved hW.alike hK, hD9⟩, hS.F ht⟩) hS.2.2 dX8_refuse_22

set_option maxHeartbeats 1000000 in
set_option maxRecDepth 100000 in
theorem c_X8_refuse_m6 (l : Launch) (dC : Nat → ClassId) (dI : Nat → Nat → Nat) (cI cZ cG cP cC cD cQ : ClassId) (h0 : Nat) (k0 : Nat) (k1 : Nat) (k2 : Nat) (k3 : Nat) (k4 : Nat) (k5 : Nat) (k6 : Nat) (k7 : Nat) (k8 : Nat) (k9 : Nat) (k10 : Nat) (f : Nat → Int32) (sz : Nat)  : Met l yX8_refuse wsX8_refuse ({ frames := 0, cells := 0, slots := 0, locals := 0 }) (va_Pc [.ref h0, .int (-6)] (fun U => U.heap.size = sz ∧ va_P (dC, dI) vwCl [(h0, .inr (8, [.ref k0, .ref k1, .ref k2, .ref k3, .ref k4, .ref k5, .ref k6, .ref k7, .ref k8, .ref k9, .ref k10, .int 0, .int 0, .int 0, .int 0, .int 0, .int 0, .int 0, .int 0])), (k10, .inl (cI, 7, .inl f))] U.heap ∧ va_K (dC, dI) vwCl [(cI, .int), (cZ, .boolean), (cG, .object "GrazeBook$Ground"), (cP, .object "GrazeBook$Purse"), (cC, .object "GrazeBook$Claim"), (cD, .object "GrazeBook$Drove"), (cQ, .array .int)] U ∧ va_D (fun _ => True) [(h0, .inr (8, [.ref k0, .ref k1, .ref k2, .ref k3, .ref k4, .ref k5, .ref k6, .ref k7, .ref k8, .ref k9, .ref k10, .int 0, .int 0, .int 0, .int 0, .int 0, .int 0, .int 0, .int 0])), (k10, .inl (cI, 7, .inl f))])) (va_Qi (fun (r : Int32) (_ : Unit) => r = (-6)) (fun (_ : Unit) (t : State) => va_P (dC, dI) vwCl [] t.heap ∧ va_K (dC, dI) vwCl [(cI, .int), (cZ, .boolean), (cG, .object "GrazeBook$Ground"), (cP, .object "GrazeBook$Purse"), (cC, .object "GrazeBook$Claim"), (cD, .object "GrazeBook$Drove"), (cQ, .array .int)] t ∧ va_D (va_A [(h0, .inr (8, [.ref k0, .ref k1, .ref k2, .ref k3, .ref k4, .ref k5, .ref k6, .ref k7, .ref k8, .ref k9, .ref k10, .int 0, .int 0, .int 0, .int 0, .int 0, .int 0, .int 0, .int 0])), (k10, .inl (cI, 7, .inl f))] sz) []) (va_A [(h0, .inr (8, [.ref k0, .ref k1, .ref k2, .ref k3, .ref k4, .ref k5, .ref k6, .ref k7, .ref k8, .ref k9, .ref k10, .int 0, .int 0, .int 0, .int 0, .int 0, .int 0, .int 0, .int 0])), (k10, .inl (cI, 7, .inl f))] sz)) 0 0 (va_A [(h0, .inr (8, [.ref k0, .ref k1, .ref k2, .ref k3, .ref k4, .ref k5, .ref k6, .ref k7, .ref k8, .ref k9, .ref k10, .int 0, .int 0, .int 0, .int 0, .int 0, .int 0, .int 0, .int 0])), (k10, .inl (cI, 7, .inl f))] sz) := by
  refine Met.ofW (cc := cX8_refuse) (maxL := 2) (ret := (some .int)) (by decide) rfl ?_
  intro p e s m args below meth c s₁ B hml hv
  obtain ⟨rfl, hsz, hP, hK, hD0⟩ := hv
  have hx := B.exec
  have hb := B.bytes
  have hr := B.returns
  have hts := atoms_spec (ws := wsX8_refuse) B.pre
  have hown : s.vm.findClass RX8 = some m.cls := findClass_of_methodNamed B.named
  have hlocks := B.notSynchronized
  have hu8 : ∀ w ∈ u_ws RX8 TX8 19, w ∈ wsX8_refuse := by decide +kernel
  subst hsz
  have hD := hD0.self (sz := s.heap.size)
  generalize hAe : va_A [(h0, .inr (8, [.ref k0, .ref k1, .ref k2, .ref k3, .ref k4, .ref k5, .ref k6, .ref k7, .ref k8, .ref k9, .ref k10, .int 0, .int 0, .int 0, .int 0, .int 0, .int 0, .int 0, .int 0])), (k10, .inl (cI, 7, .inl f))] s.heap.size = A at hD ⊢
  have hA : ∀ q : Nat, s.heap.size ≤ q → A q := fun q h => by rw [← hAe]; exact Or.inr h
  have hS : va_S A s.heap s.heap [] := va_S.rf
  have hl := lv_entry ([.ref h0, .int (-6)]) (n := 2) (Nat.le_of_ble_eq_true rfl)
  rw [lg_entry_eq]
  generalize (lg_sl ([.ref h0, .int (-6)]) ++ List.replicate (2 - (lg_sl ([.ref h0, .int (-6)])).length) Slot.unset).toArray = ls at hl ⊢
  have hl : lv_has ls 2 [(0, .ref h0), (1, .int (-6))] := hl
  obtain ⟨H, hH⟩ : ∃ H, H = s.heap := ⟨_, rfl⟩
  have hP : va_P (dC, dI) vwCl [(h0, .inr (8, [.ref k0, .ref k1, .ref k2, .ref k3, .ref k4, .ref k5, .ref k6, .ref k7, .ref k8, .ref k9, .ref k10, .int 0, .int 0, .int 0, .int 0, .int 0, .int 0, .int 0, .int 0])), (k10, .inl (cI, 7, .inl f))] H := by rw [hH]; exact hP
  have hS : va_S A s.heap H [] := by rw [hH]; exact hS
  show W _ _ _ _ _ _ _ _ _ _ s.heap _ _ _ _ _
  rw [← hH]
  refine lv_iload_n hx hb dX8_refuse_0 rfl (lv_at hl 1 rfl) ?_
  refine lv_if_ge (tgt := 21) hx hb dX8_refuse_1 (by decide) (fun c_1 => absurd c_1 (by decide)) (fun c_1 => ?_)
  refine lv_iload_n hx hb dX8_refuse_4 rfl (lv_at hl 1 rfl) ?_
  refine lv_bipush (v := (-6)) hx hb dX8_refuse_5 (by decide) ?_
  refine lv_icmp_lt (tgt := 21) hx hb dX8_refuse_7 (by decide) (fun c_2 => absurd c_2 (by decide)) (fun c_2 => ?_)
  refine lv_aload_n hx hb dX8_refuse_10 rfl (lv_at hl 0 rfl) ?_
  refine va_get (D := (dC, dI)) (ci := 8) (v := .ref k10) (C := RX8) (T := TX8) (N := 19) hx hb hts hu8 hown hK hP 0 rfl rfl 10 (by decide) (hts (.fieldLink RX8 72 "GrazeBook" "refusals" "[I") (by decide +kernel)) (fun _ h9 => h9) rfl dX8_refuse_11 ?_
  refine lv_iload_n hx hb dX8_refuse_14 rfl (lv_at hl 1 rfl) ?_
  refine lv_ineg hx hb dX8_refuse_15 ?_
  refine lv_topi (fun v_3 ev_3 => ?_)
  obtain rfl : v_3 = 6 := ev_3.trans (by decide)
  refine lv_dup2_11 hx hb dX8_refuse_16 rfl rfl ?_
  refine va_iald hx hb hK hP 1 0 rfl rfl (by unfold vp_in; decide) dX8_refuse_17 ?_
  refine lv_topi (fun v_4 ev_4 => ?_)
  refine lv_iconst (v := 1) hx hb dX8_refuse_18 (by decide) ?_
  refine lv_iadd hx hb dX8_refuse_19 ?_
  refine lv_topi (fun v_5 ev_5 => ?_)
  refine va_iast hx hb hK hP hD hS 1 0 rfl rfl (by unfold vp_in; decide) dX8_refuse_20 (fun H locs hP hD hS => ?_)
  generalize hgg_6 : upd _ _ _ = g_6 at hP hD
  have hP : va_P (dC, dI) vwCl [(h0, .inr (8, [.ref k0, .ref k1, .ref k2, .ref k3, .ref k4, .ref k5, .ref k6, .ref k7, .ref k8, .ref k9, .ref k10, .int 0, .int 0, .int 0, .int 0, .int 0, .int 0, .int 0, .int 0])), (k10, .inl (cI, 7, .inl g_6))] H := hP
  have hD : va_D A [(h0, .inr (8, [.ref k0, .ref k1, .ref k2, .ref k3, .ref k4, .ref k5, .ref k6, .ref k7, .ref k8, .ref k9, .ref k10, .int 0, .int 0, .int 0, .int 0, .int 0, .int 0, .int 0, .int 0])), (k10, .inl (cI, 7, .inl g_6))] := hD
  refine lv_iload_n hx hb dX8_refuse_21 rfl (lv_at hl 1 rfl) ?_
  have hP9 := hP.sub (ws' := []) [] rfl
  have hD9 := hD.sub (ws' := []) [] (by decide) rfl
  exact W.iret (v := (-6)) hx hb hr (fun t ht hW => ⟨⟨(-6), (), rfl, rfl, by rw [ht]; exact hP9, va_K.moved hW.alike hK, hD9⟩, hS.F ht⟩) hS.2.2 dX8_refuse_22

set_option maxHeartbeats 1000000 in
set_option maxRecDepth 100000 in
theorem c_X8_isPiece (l : Launch) (dC : Nat → ClassId) (dI : Nat → Nat → Nat) (cI cZ cG cP cC cD cQ : ClassId) (h0 : Nat) (k0 : Nat) (k1 : Nat) (k2 : Nat) (k3 : Nat) (k4 : Nat) (k5 : Nat) (k6 : Nat) (k7 : Nat) (k8 : Nat) (k9 : Nat) (k10 : Nat) (p0 : Int32) (sz : Nat)  : Met l yX8_isPiece wsX8_isPiece ({ frames := 0, cells := 0, slots := 0, locals := 0 }) (va_Pc [.ref h0, .int p0] (fun U => U.heap.size = sz ∧ va_P (dC, dI) vwCl [(h0, .inr (8, [.ref k0, .ref k1, .ref k2, .ref k3, .ref k4, .ref k5, .ref k6, .ref k7, .ref k8, .ref k9, .ref k10, .int 0, .int 0, .int 0, .int 0, .int 0, .int 0, .int 0, .int 0]))] U.heap ∧ va_K (dC, dI) vwCl [(cI, .int), (cZ, .boolean), (cG, .object "GrazeBook$Ground"), (cP, .object "GrazeBook$Purse"), (cC, .object "GrazeBook$Claim"), (cD, .object "GrazeBook$Drove"), (cQ, .array .int)] U ∧ va_D (fun _ => True) [(h0, .inr (8, [.ref k0, .ref k1, .ref k2, .ref k3, .ref k4, .ref k5, .ref k6, .ref k7, .ref k8, .ref k9, .ref k10, .int 0, .int 0, .int 0, .int 0, .int 0, .int 0, .int 0, .int 0]))])) (va_Qi (fun (r : Int32) (_ : Unit) => r = 0) (fun (_ : Unit) (t : State) => va_P (dC, dI) vwCl [(h0, .inr (8, [.ref k0, .ref k1, .ref k2, .ref k3, .ref k4, .ref k5, .ref k6, .ref k7, .ref k8, .ref k9, .ref k10, .int 0, .int 0, .int 0, .int 0, .int 0, .int 0, .int 0, .int 0]))] t.heap ∧ va_K (dC, dI) vwCl [(cI, .int), (cZ, .boolean), (cG, .object "GrazeBook$Ground"), (cP, .object "GrazeBook$Purse"), (cC, .object "GrazeBook$Claim"), (cD, .object "GrazeBook$Drove"), (cQ, .array .int)] t ∧ va_D (va_A [(h0, .inr (8, [.ref k0, .ref k1, .ref k2, .ref k3, .ref k4, .ref k5, .ref k6, .ref k7, .ref k8, .ref k9, .ref k10, .int 0, .int 0, .int 0, .int 0, .int 0, .int 0, .int 0, .int 0]))] sz) [(h0, .inr (8, [.ref k0, .ref k1, .ref k2, .ref k3, .ref k4, .ref k5, .ref k6, .ref k7, .ref k8, .ref k9, .ref k10, .int 0, .int 0, .int 0, .int 0, .int 0, .int 0, .int 0, .int 0]))]) (va_A [(h0, .inr (8, [.ref k0, .ref k1, .ref k2, .ref k3, .ref k4, .ref k5, .ref k6, .ref k7, .ref k8, .ref k9, .ref k10, .int 0, .int 0, .int 0, .int 0, .int 0, .int 0, .int 0, .int 0]))] sz)) 0 0 (va_A [(h0, .inr (8, [.ref k0, .ref k1, .ref k2, .ref k3, .ref k4, .ref k5, .ref k6, .ref k7, .ref k8, .ref k9, .ref k10, .int 0, .int 0, .int 0, .int 0, .int 0, .int 0, .int 0, .int 0]))] sz) := by
  refine Met.ofW (cc := cX8_isPiece) (maxL := 2) (ret := (some .boolean)) (by decide) rfl ?_
  intro p e s m args below meth c s₁ B hml hv
  obtain ⟨rfl, hsz, hP, hK, hD0⟩ := hv
  have hx := B.exec
  have hb := B.bytes
  have hr := B.returns
  have hts := atoms_spec (ws := wsX8_isPiece) B.pre
  have hown : s.vm.findClass RX8 = some m.cls := findClass_of_methodNamed B.named
  have hlocks := B.notSynchronized
  have hu8 : ∀ w ∈ u_ws RX8 TX8 19, w ∈ wsX8_isPiece := by decide +kernel
  subst hsz
  have hD := hD0.self (sz := s.heap.size)
  generalize hAe : va_A [(h0, .inr (8, [.ref k0, .ref k1, .ref k2, .ref k3, .ref k4, .ref k5, .ref k6, .ref k7, .ref k8, .ref k9, .ref k10, .int 0, .int 0, .int 0, .int 0, .int 0, .int 0, .int 0, .int 0]))] s.heap.size = A at hD ⊢
  have hA : ∀ q : Nat, s.heap.size ≤ q → A q := fun q h => by rw [← hAe]; exact Or.inr h
  have hS : va_S A s.heap s.heap [] := va_S.rf
  have hl := lv_entry ([.ref h0, .int p0]) (n := 2) (Nat.le_of_ble_eq_true rfl)
  rw [lg_entry_eq]
  generalize (lg_sl ([.ref h0, .int p0]) ++ List.replicate (2 - (lg_sl ([.ref h0, .int p0])).length) Slot.unset).toArray = ls at hl ⊢
  have hl : lv_has ls 2 [(0, .ref h0), (1, .int p0)] := hl
  obtain ⟨H, hH⟩ : ∃ H, H = s.heap := ⟨_, rfl⟩
  have hP : va_P (dC, dI) vwCl [(h0, .inr (8, [.ref k0, .ref k1, .ref k2, .ref k3, .ref k4, .ref k5, .ref k6, .ref k7, .ref k8, .ref k9, .ref k10, .int 0, .int 0, .int 0, .int 0, .int 0, .int 0, .int 0, .int 0]))] H := by rw [hH]; exact hP
  have hS : va_S A s.heap H [] := by rw [hH]; exact hS
  show W _ _ _ _ _ _ _ _ _ _ s.heap _ _ _ _ _
  rw [← hH]
  refine lv_iload_n hx hb dX8_isPiece_0 rfl (lv_at hl 1 rfl) ?_
  refine lv_if_lt (tgt := 16) hx hb dX8_isPiece_1 (by decide) (fun c_1 => ?_) (fun c_1 => ?_)
  · refine lv_iconst (v := 0) hx hb dX8_isPiece_16 (by decide) ?_
    have hP9 := hP.sub (ws' := [(h0, .inr (8, [.ref k0, .ref k1, .ref k2, .ref k3, .ref k4, .ref k5, .ref k6, .ref k7, .ref k8, .ref k9, .ref k10, .int 0, .int 0, .int 0, .int 0, .int 0, .int 0, .int 0, .int 0]))]) [0] rfl
    have hD9 := hD.sub (ws' := [(h0, .inr (8, [.ref k0, .ref k1, .ref k2, .ref k3, .ref k4, .ref k5, .ref k6, .ref k7, .ref k8, .ref k9, .ref k10, .int 0, .int 0, .int 0, .int 0, .int 0, .int 0, .int 0, .int 0]))]) [0] (by decide) rfl
    exact W.zret (v := 0) hx hb hr rfl (fun t ht hW => ⟨⟨0, (), rfl, rfl, by rw [ht]; exact hP9, va_K.moved hW.alike hK, hD9⟩, hS.F ht⟩) hS.2.2 dX8_isPiece_17
  · refine lv_iload_n hx hb dX8_isPiece_4 rfl (lv_at hl 1 rfl) ?_
    refine lv_aload_n hx hb dX8_isPiece_5 rfl (lv_at hl 0 rfl) ?_
    refine va_get (D := (dC, dI)) (ci := 8) (v := .int 0) (C := RX8) (T := TX8) (N := 19) hx hb hts hu8 hown hK hP 0 rfl rfl 11 (by decide) (hts (.fieldLink RX8 75 "GrazeBook" "pieceCount" "I") (by decide +kernel)) (fun _ h9 => h9) rfl dX8_isPiece_6 ?_
    refine lv_icmp_ge (tgt := 16) hx hb dX8_isPiece_9 (by decide) (fun c_2 => ?_) (fun c_2 => by exfalso; (try simp only [fa_lt, fa_le, fa_eq, ti_m9, ti_m8, ti_m7, ti_m6, ti_m5, ti_m4, ti_m3, ti_m2, ti_m1, ti_0, ti_1, ti_2, ti_3, ti_4, ti_5, ti_6, ti_7, ti_8, ti_9, ti_10, ti_11, ti_12, ti_13, ti_14, ti_15, ti_16, ti_17, ti_18, ti_19, ti_20, ti_21, ti_31, ti_32, ti_720, ti_1000, ti_10000, ti_100000] at c_1 c_2); omega)
    refine lv_iconst (v := 0) hx hb dX8_isPiece_16 (by decide) ?_
    have hP9 := hP.sub (ws' := [(h0, .inr (8, [.ref k0, .ref k1, .ref k2, .ref k3, .ref k4, .ref k5, .ref k6, .ref k7, .ref k8, .ref k9, .ref k10, .int 0, .int 0, .int 0, .int 0, .int 0, .int 0, .int 0, .int 0]))]) [0] rfl
    have hD9 := hD.sub (ws' := [(h0, .inr (8, [.ref k0, .ref k1, .ref k2, .ref k3, .ref k4, .ref k5, .ref k6, .ref k7, .ref k8, .ref k9, .ref k10, .int 0, .int 0, .int 0, .int 0, .int 0, .int 0, .int 0, .int 0]))]) [0] (by decide) rfl
    exact W.zret (v := 0) hx hb hr rfl (fun t ht hW => ⟨⟨0, (), rfl, rfl, by rw [ht]; exact hP9, va_K.moved hW.alike hK, hD9⟩, hS.F ht⟩) hS.2.2 dX8_isPiece_17

set_option maxHeartbeats 1000000 in
set_option maxRecDepth 100000 in
theorem c_X8_isOwner (l : Launch) (dC : Nat → ClassId) (dI : Nat → Nat → Nat) (cI cZ cG cP cC cD cQ : ClassId) (h0 : Nat) (k0 : Nat) (k1 : Nat) (k2 : Nat) (k3 : Nat) (k4 : Nat) (k5 : Nat) (k6 : Nat) (k7 : Nat) (k8 : Nat) (k9 : Nat) (k10 : Nat) (p0 : Int32) (sz : Nat)  : Met l yX8_isOwner wsX8_isOwner ({ frames := 0, cells := 0, slots := 0, locals := 0 }) (va_Pc [.ref h0, .int p0] (fun U => U.heap.size = sz ∧ va_P (dC, dI) vwCl [(h0, .inr (8, [.ref k0, .ref k1, .ref k2, .ref k3, .ref k4, .ref k5, .ref k6, .ref k7, .ref k8, .ref k9, .ref k10, .int 0, .int 0, .int 0, .int 0, .int 0, .int 0, .int 0, .int 0]))] U.heap ∧ va_K (dC, dI) vwCl [(cI, .int), (cZ, .boolean), (cG, .object "GrazeBook$Ground"), (cP, .object "GrazeBook$Purse"), (cC, .object "GrazeBook$Claim"), (cD, .object "GrazeBook$Drove"), (cQ, .array .int)] U ∧ va_D (fun _ => True) [(h0, .inr (8, [.ref k0, .ref k1, .ref k2, .ref k3, .ref k4, .ref k5, .ref k6, .ref k7, .ref k8, .ref k9, .ref k10, .int 0, .int 0, .int 0, .int 0, .int 0, .int 0, .int 0, .int 0]))])) (va_Qi (fun (r : Int32) (_ : Unit) => r = 0) (fun (_ : Unit) (t : State) => va_P (dC, dI) vwCl [(h0, .inr (8, [.ref k0, .ref k1, .ref k2, .ref k3, .ref k4, .ref k5, .ref k6, .ref k7, .ref k8, .ref k9, .ref k10, .int 0, .int 0, .int 0, .int 0, .int 0, .int 0, .int 0, .int 0]))] t.heap ∧ va_K (dC, dI) vwCl [(cI, .int), (cZ, .boolean), (cG, .object "GrazeBook$Ground"), (cP, .object "GrazeBook$Purse"), (cC, .object "GrazeBook$Claim"), (cD, .object "GrazeBook$Drove"), (cQ, .array .int)] t ∧ va_D (va_A [(h0, .inr (8, [.ref k0, .ref k1, .ref k2, .ref k3, .ref k4, .ref k5, .ref k6, .ref k7, .ref k8, .ref k9, .ref k10, .int 0, .int 0, .int 0, .int 0, .int 0, .int 0, .int 0, .int 0]))] sz) [(h0, .inr (8, [.ref k0, .ref k1, .ref k2, .ref k3, .ref k4, .ref k5, .ref k6, .ref k7, .ref k8, .ref k9, .ref k10, .int 0, .int 0, .int 0, .int 0, .int 0, .int 0, .int 0, .int 0]))]) (va_A [(h0, .inr (8, [.ref k0, .ref k1, .ref k2, .ref k3, .ref k4, .ref k5, .ref k6, .ref k7, .ref k8, .ref k9, .ref k10, .int 0, .int 0, .int 0, .int 0, .int 0, .int 0, .int 0, .int 0]))] sz)) 0 0 (va_A [(h0, .inr (8, [.ref k0, .ref k1, .ref k2, .ref k3, .ref k4, .ref k5, .ref k6, .ref k7, .ref k8, .ref k9, .ref k10, .int 0, .int 0, .int 0, .int 0, .int 0, .int 0, .int 0, .int 0]))] sz) := by
  refine Met.ofW (cc := cX8_isOwner) (maxL := 2) (ret := (some .boolean)) (by decide) rfl ?_
  intro p e s m args below meth c s₁ B hml hv
  obtain ⟨rfl, hsz, hP, hK, hD0⟩ := hv
  have hx := B.exec
  have hb := B.bytes
  have hr := B.returns
  have hts := atoms_spec (ws := wsX8_isOwner) B.pre
  have hown : s.vm.findClass RX8 = some m.cls := findClass_of_methodNamed B.named
  have hlocks := B.notSynchronized
  have hu8 : ∀ w ∈ u_ws RX8 TX8 19, w ∈ wsX8_isOwner := by decide +kernel
  subst hsz
  have hD := hD0.self (sz := s.heap.size)
  generalize hAe : va_A [(h0, .inr (8, [.ref k0, .ref k1, .ref k2, .ref k3, .ref k4, .ref k5, .ref k6, .ref k7, .ref k8, .ref k9, .ref k10, .int 0, .int 0, .int 0, .int 0, .int 0, .int 0, .int 0, .int 0]))] s.heap.size = A at hD ⊢
  have hA : ∀ q : Nat, s.heap.size ≤ q → A q := fun q h => by rw [← hAe]; exact Or.inr h
  have hS : va_S A s.heap s.heap [] := va_S.rf
  have hl := lv_entry ([.ref h0, .int p0]) (n := 2) (Nat.le_of_ble_eq_true rfl)
  rw [lg_entry_eq]
  generalize (lg_sl ([.ref h0, .int p0]) ++ List.replicate (2 - (lg_sl ([.ref h0, .int p0])).length) Slot.unset).toArray = ls at hl ⊢
  have hl : lv_has ls 2 [(0, .ref h0), (1, .int p0)] := hl
  obtain ⟨H, hH⟩ : ∃ H, H = s.heap := ⟨_, rfl⟩
  have hP : va_P (dC, dI) vwCl [(h0, .inr (8, [.ref k0, .ref k1, .ref k2, .ref k3, .ref k4, .ref k5, .ref k6, .ref k7, .ref k8, .ref k9, .ref k10, .int 0, .int 0, .int 0, .int 0, .int 0, .int 0, .int 0, .int 0]))] H := by rw [hH]; exact hP
  have hS : va_S A s.heap H [] := by rw [hH]; exact hS
  show W _ _ _ _ _ _ _ _ _ _ s.heap _ _ _ _ _
  rw [← hH]
  refine lv_iload_n hx hb dX8_isOwner_0 rfl (lv_at hl 1 rfl) ?_
  refine lv_if_lt (tgt := 16) hx hb dX8_isOwner_1 (by decide) (fun c_1 => ?_) (fun c_1 => ?_)
  · refine lv_iconst (v := 0) hx hb dX8_isOwner_16 (by decide) ?_
    have hP9 := hP.sub (ws' := [(h0, .inr (8, [.ref k0, .ref k1, .ref k2, .ref k3, .ref k4, .ref k5, .ref k6, .ref k7, .ref k8, .ref k9, .ref k10, .int 0, .int 0, .int 0, .int 0, .int 0, .int 0, .int 0, .int 0]))]) [0] rfl
    have hD9 := hD.sub (ws' := [(h0, .inr (8, [.ref k0, .ref k1, .ref k2, .ref k3, .ref k4, .ref k5, .ref k6, .ref k7, .ref k8, .ref k9, .ref k10, .int 0, .int 0, .int 0, .int 0, .int 0, .int 0, .int 0, .int 0]))]) [0] (by decide) rfl
    exact W.zret (v := 0) hx hb hr rfl (fun t ht hW => ⟨⟨0, (), rfl, rfl, by rw [ht]; exact hP9, va_K.moved hW.alike hK, hD9⟩, hS.F ht⟩) hS.2.2 dX8_isOwner_17
  · refine lv_iload_n hx hb dX8_isOwner_4 rfl (lv_at hl 1 rfl) ?_
    refine lv_aload_n hx hb dX8_isOwner_5 rfl (lv_at hl 0 rfl) ?_
    refine va_get (D := (dC, dI)) (ci := 8) (v := .int 0) (C := RX8) (T := TX8) (N := 19) hx hb hts hu8 hown hK hP 0 rfl rfl 12 (by decide) (hts (.fieldLink RX8 79 "GrazeBook" "ownerCount" "I") (by decide +kernel)) (fun _ h9 => h9) rfl dX8_isOwner_6 ?_
    refine lv_icmp_ge (tgt := 16) hx hb dX8_isOwner_9 (by decide) (fun c_2 => ?_) (fun c_2 => by exfalso; (try simp only [fa_lt, fa_le, fa_eq, ti_m9, ti_m8, ti_m7, ti_m6, ti_m5, ti_m4, ti_m3, ti_m2, ti_m1, ti_0, ti_1, ti_2, ti_3, ti_4, ti_5, ti_6, ti_7, ti_8, ti_9, ti_10, ti_11, ti_12, ti_13, ti_14, ti_15, ti_16, ti_17, ti_18, ti_19, ti_20, ti_21, ti_31, ti_32, ti_720, ti_1000, ti_10000, ti_100000] at c_1 c_2); omega)
    refine lv_iconst (v := 0) hx hb dX8_isOwner_16 (by decide) ?_
    have hP9 := hP.sub (ws' := [(h0, .inr (8, [.ref k0, .ref k1, .ref k2, .ref k3, .ref k4, .ref k5, .ref k6, .ref k7, .ref k8, .ref k9, .ref k10, .int 0, .int 0, .int 0, .int 0, .int 0, .int 0, .int 0, .int 0]))]) [0] rfl
    have hD9 := hD.sub (ws' := [(h0, .inr (8, [.ref k0, .ref k1, .ref k2, .ref k3, .ref k4, .ref k5, .ref k6, .ref k7, .ref k8, .ref k9, .ref k10, .int 0, .int 0, .int 0, .int 0, .int 0, .int 0, .int 0, .int 0]))]) [0] (by decide) rfl
    exact W.zret (v := 0) hx hb hr rfl (fun t ht hW => ⟨⟨0, (), rfl, rfl, by rw [ht]; exact hP9, va_K.moved hW.alike hK, hD9⟩, hS.F ht⟩) hS.2.2 dX8_isOwner_17

set_option maxHeartbeats 1000000 in
set_option maxRecDepth 100000 in
theorem c_X8_isHouse (l : Launch) (dC : Nat → ClassId) (dI : Nat → Nat → Nat) (cI cZ cG cP cC cD cQ : ClassId) (h0 : Nat) (k0 : Nat) (k1 : Nat) (k2 : Nat) (k3 : Nat) (k4 : Nat) (k5 : Nat) (k6 : Nat) (k7 : Nat) (k8 : Nat) (k9 : Nat) (k10 : Nat) (p0 : Int32) (sz : Nat)  : Met l yX8_isHouse wsX8_isHouse ({ frames := 0, cells := 0, slots := 0, locals := 0 }) (va_Pc [.ref h0, .int p0] (fun U => U.heap.size = sz ∧ va_P (dC, dI) vwCl [(h0, .inr (8, [.ref k0, .ref k1, .ref k2, .ref k3, .ref k4, .ref k5, .ref k6, .ref k7, .ref k8, .ref k9, .ref k10, .int 0, .int 0, .int 0, .int 0, .int 0, .int 0, .int 0, .int 0]))] U.heap ∧ va_K (dC, dI) vwCl [(cI, .int), (cZ, .boolean), (cG, .object "GrazeBook$Ground"), (cP, .object "GrazeBook$Purse"), (cC, .object "GrazeBook$Claim"), (cD, .object "GrazeBook$Drove"), (cQ, .array .int)] U ∧ va_D (fun _ => True) [(h0, .inr (8, [.ref k0, .ref k1, .ref k2, .ref k3, .ref k4, .ref k5, .ref k6, .ref k7, .ref k8, .ref k9, .ref k10, .int 0, .int 0, .int 0, .int 0, .int 0, .int 0, .int 0, .int 0]))])) (va_Qi (fun (r : Int32) (_ : Unit) => r = 0) (fun (_ : Unit) (t : State) => va_P (dC, dI) vwCl [(h0, .inr (8, [.ref k0, .ref k1, .ref k2, .ref k3, .ref k4, .ref k5, .ref k6, .ref k7, .ref k8, .ref k9, .ref k10, .int 0, .int 0, .int 0, .int 0, .int 0, .int 0, .int 0, .int 0]))] t.heap ∧ va_K (dC, dI) vwCl [(cI, .int), (cZ, .boolean), (cG, .object "GrazeBook$Ground"), (cP, .object "GrazeBook$Purse"), (cC, .object "GrazeBook$Claim"), (cD, .object "GrazeBook$Drove"), (cQ, .array .int)] t ∧ va_D (va_A [(h0, .inr (8, [.ref k0, .ref k1, .ref k2, .ref k3, .ref k4, .ref k5, .ref k6, .ref k7, .ref k8, .ref k9, .ref k10, .int 0, .int 0, .int 0, .int 0, .int 0, .int 0, .int 0, .int 0]))] sz) [(h0, .inr (8, [.ref k0, .ref k1, .ref k2, .ref k3, .ref k4, .ref k5, .ref k6, .ref k7, .ref k8, .ref k9, .ref k10, .int 0, .int 0, .int 0, .int 0, .int 0, .int 0, .int 0, .int 0]))]) (va_A [(h0, .inr (8, [.ref k0, .ref k1, .ref k2, .ref k3, .ref k4, .ref k5, .ref k6, .ref k7, .ref k8, .ref k9, .ref k10, .int 0, .int 0, .int 0, .int 0, .int 0, .int 0, .int 0, .int 0]))] sz)) 0 0 (va_A [(h0, .inr (8, [.ref k0, .ref k1, .ref k2, .ref k3, .ref k4, .ref k5, .ref k6, .ref k7, .ref k8, .ref k9, .ref k10, .int 0, .int 0, .int 0, .int 0, .int 0, .int 0, .int 0, .int 0]))] sz) := by
  refine Met.ofW (cc := cX8_isHouse) (maxL := 2) (ret := (some .boolean)) (by decide) rfl ?_
  intro p e s m args below meth c s₁ B hml hv
  obtain ⟨rfl, hsz, hP, hK, hD0⟩ := hv
  have hx := B.exec
  have hb := B.bytes
  have hr := B.returns
  have hts := atoms_spec (ws := wsX8_isHouse) B.pre
  have hown : s.vm.findClass RX8 = some m.cls := findClass_of_methodNamed B.named
  have hlocks := B.notSynchronized
  have hu8 : ∀ w ∈ u_ws RX8 TX8 19, w ∈ wsX8_isHouse := by decide +kernel
  subst hsz
  have hD := hD0.self (sz := s.heap.size)
  generalize hAe : va_A [(h0, .inr (8, [.ref k0, .ref k1, .ref k2, .ref k3, .ref k4, .ref k5, .ref k6, .ref k7, .ref k8, .ref k9, .ref k10, .int 0, .int 0, .int 0, .int 0, .int 0, .int 0, .int 0, .int 0]))] s.heap.size = A at hD ⊢
  have hA : ∀ q : Nat, s.heap.size ≤ q → A q := fun q h => by rw [← hAe]; exact Or.inr h
  have hS : va_S A s.heap s.heap [] := va_S.rf
  have hl := lv_entry ([.ref h0, .int p0]) (n := 2) (Nat.le_of_ble_eq_true rfl)
  rw [lg_entry_eq]
  generalize (lg_sl ([.ref h0, .int p0]) ++ List.replicate (2 - (lg_sl ([.ref h0, .int p0])).length) Slot.unset).toArray = ls at hl ⊢
  have hl : lv_has ls 2 [(0, .ref h0), (1, .int p0)] := hl
  obtain ⟨H, hH⟩ : ∃ H, H = s.heap := ⟨_, rfl⟩
  have hP : va_P (dC, dI) vwCl [(h0, .inr (8, [.ref k0, .ref k1, .ref k2, .ref k3, .ref k4, .ref k5, .ref k6, .ref k7, .ref k8, .ref k9, .ref k10, .int 0, .int 0, .int 0, .int 0, .int 0, .int 0, .int 0, .int 0]))] H := by rw [hH]; exact hP
  have hS : va_S A s.heap H [] := by rw [hH]; exact hS
  show W _ _ _ _ _ _ _ _ _ _ s.heap _ _ _ _ _
  rw [← hH]
  refine lv_iload_n hx hb dX8_isHouse_0 rfl (lv_at hl 1 rfl) ?_
  refine lv_if_lt (tgt := 16) hx hb dX8_isHouse_1 (by decide) (fun c_1 => ?_) (fun c_1 => ?_)
  · refine lv_iconst (v := 0) hx hb dX8_isHouse_16 (by decide) ?_
    have hP9 := hP.sub (ws' := [(h0, .inr (8, [.ref k0, .ref k1, .ref k2, .ref k3, .ref k4, .ref k5, .ref k6, .ref k7, .ref k8, .ref k9, .ref k10, .int 0, .int 0, .int 0, .int 0, .int 0, .int 0, .int 0, .int 0]))]) [0] rfl
    have hD9 := hD.sub (ws' := [(h0, .inr (8, [.ref k0, .ref k1, .ref k2, .ref k3, .ref k4, .ref k5, .ref k6, .ref k7, .ref k8, .ref k9, .ref k10, .int 0, .int 0, .int 0, .int 0, .int 0, .int 0, .int 0, .int 0]))]) [0] (by decide) rfl
    exact W.zret (v := 0) hx hb hr rfl (fun t ht hW => ⟨⟨0, (), rfl, rfl, by rw [ht]; exact hP9, va_K.moved hW.alike hK, hD9⟩, hS.F ht⟩) hS.2.2 dX8_isHouse_17
  · refine lv_iload_n hx hb dX8_isHouse_4 rfl (lv_at hl 1 rfl) ?_
    refine lv_aload_n hx hb dX8_isHouse_5 rfl (lv_at hl 0 rfl) ?_
    refine va_get (D := (dC, dI)) (ci := 8) (v := .int 0) (C := RX8) (T := TX8) (N := 19) hx hb hts hu8 hown hK hP 0 rfl rfl 13 (by decide) (hts (.fieldLink RX8 82 "GrazeBook" "houseCount" "I") (by decide +kernel)) (fun _ h9 => h9) rfl dX8_isHouse_6 ?_
    refine lv_icmp_ge (tgt := 16) hx hb dX8_isHouse_9 (by decide) (fun c_2 => ?_) (fun c_2 => by exfalso; (try simp only [fa_lt, fa_le, fa_eq, ti_m9, ti_m8, ti_m7, ti_m6, ti_m5, ti_m4, ti_m3, ti_m2, ti_m1, ti_0, ti_1, ti_2, ti_3, ti_4, ti_5, ti_6, ti_7, ti_8, ti_9, ti_10, ti_11, ti_12, ti_13, ti_14, ti_15, ti_16, ti_17, ti_18, ti_19, ti_20, ti_21, ti_31, ti_32, ti_720, ti_1000, ti_10000, ti_100000] at c_1 c_2); omega)
    refine lv_iconst (v := 0) hx hb dX8_isHouse_16 (by decide) ?_
    have hP9 := hP.sub (ws' := [(h0, .inr (8, [.ref k0, .ref k1, .ref k2, .ref k3, .ref k4, .ref k5, .ref k6, .ref k7, .ref k8, .ref k9, .ref k10, .int 0, .int 0, .int 0, .int 0, .int 0, .int 0, .int 0, .int 0]))]) [0] rfl
    have hD9 := hD.sub (ws' := [(h0, .inr (8, [.ref k0, .ref k1, .ref k2, .ref k3, .ref k4, .ref k5, .ref k6, .ref k7, .ref k8, .ref k9, .ref k10, .int 0, .int 0, .int 0, .int 0, .int 0, .int 0, .int 0, .int 0]))]) [0] (by decide) rfl
    exact W.zret (v := 0) hx hb hr rfl (fun t ht hW => ⟨⟨0, (), rfl, rfl, by rw [ht]; exact hP9, va_K.moved hW.alike hK, hD9⟩, hS.F ht⟩) hS.2.2 dX8_isHouse_17

set_option maxHeartbeats 1000000 in
set_option maxRecDepth 100000 in
theorem c_X8_isRight (l : Launch) (dC : Nat → ClassId) (dI : Nat → Nat → Nat) (cI cZ cG cP cC cD cQ : ClassId) (h0 : Nat) (k0 : Nat) (k1 : Nat) (k2 : Nat) (k3 : Nat) (k4 : Nat) (k5 : Nat) (k6 : Nat) (k7 : Nat) (k8 : Nat) (k9 : Nat) (k10 : Nat) (p0 : Int32) (sz : Nat)  : Met l yX8_isRight wsX8_isRight ({ frames := 0, cells := 0, slots := 0, locals := 0 }) (va_Pc [.ref h0, .int p0] (fun U => U.heap.size = sz ∧ va_P (dC, dI) vwCl [(h0, .inr (8, [.ref k0, .ref k1, .ref k2, .ref k3, .ref k4, .ref k5, .ref k6, .ref k7, .ref k8, .ref k9, .ref k10, .int 0, .int 0, .int 0, .int 0, .int 0, .int 0, .int 0, .int 0]))] U.heap ∧ va_K (dC, dI) vwCl [(cI, .int), (cZ, .boolean), (cG, .object "GrazeBook$Ground"), (cP, .object "GrazeBook$Purse"), (cC, .object "GrazeBook$Claim"), (cD, .object "GrazeBook$Drove"), (cQ, .array .int)] U ∧ va_D (fun _ => True) [(h0, .inr (8, [.ref k0, .ref k1, .ref k2, .ref k3, .ref k4, .ref k5, .ref k6, .ref k7, .ref k8, .ref k9, .ref k10, .int 0, .int 0, .int 0, .int 0, .int 0, .int 0, .int 0, .int 0]))])) (va_Qi (fun (r : Int32) (_ : Unit) => r = 0) (fun (_ : Unit) (t : State) => va_P (dC, dI) vwCl [(h0, .inr (8, [.ref k0, .ref k1, .ref k2, .ref k3, .ref k4, .ref k5, .ref k6, .ref k7, .ref k8, .ref k9, .ref k10, .int 0, .int 0, .int 0, .int 0, .int 0, .int 0, .int 0, .int 0]))] t.heap ∧ va_K (dC, dI) vwCl [(cI, .int), (cZ, .boolean), (cG, .object "GrazeBook$Ground"), (cP, .object "GrazeBook$Purse"), (cC, .object "GrazeBook$Claim"), (cD, .object "GrazeBook$Drove"), (cQ, .array .int)] t ∧ va_D (va_A [(h0, .inr (8, [.ref k0, .ref k1, .ref k2, .ref k3, .ref k4, .ref k5, .ref k6, .ref k7, .ref k8, .ref k9, .ref k10, .int 0, .int 0, .int 0, .int 0, .int 0, .int 0, .int 0, .int 0]))] sz) [(h0, .inr (8, [.ref k0, .ref k1, .ref k2, .ref k3, .ref k4, .ref k5, .ref k6, .ref k7, .ref k8, .ref k9, .ref k10, .int 0, .int 0, .int 0, .int 0, .int 0, .int 0, .int 0, .int 0]))]) (va_A [(h0, .inr (8, [.ref k0, .ref k1, .ref k2, .ref k3, .ref k4, .ref k5, .ref k6, .ref k7, .ref k8, .ref k9, .ref k10, .int 0, .int 0, .int 0, .int 0, .int 0, .int 0, .int 0, .int 0]))] sz)) 0 0 (va_A [(h0, .inr (8, [.ref k0, .ref k1, .ref k2, .ref k3, .ref k4, .ref k5, .ref k6, .ref k7, .ref k8, .ref k9, .ref k10, .int 0, .int 0, .int 0, .int 0, .int 0, .int 0, .int 0, .int 0]))] sz) := by
  refine Met.ofW (cc := cX8_isRight) (maxL := 2) (ret := (some .boolean)) (by decide) rfl ?_
  intro p e s m args below meth c s₁ B hml hv
  obtain ⟨rfl, hsz, hP, hK, hD0⟩ := hv
  have hx := B.exec
  have hb := B.bytes
  have hr := B.returns
  have hts := atoms_spec (ws := wsX8_isRight) B.pre
  have hown : s.vm.findClass RX8 = some m.cls := findClass_of_methodNamed B.named
  have hlocks := B.notSynchronized
  have hu8 : ∀ w ∈ u_ws RX8 TX8 19, w ∈ wsX8_isRight := by decide +kernel
  subst hsz
  have hD := hD0.self (sz := s.heap.size)
  generalize hAe : va_A [(h0, .inr (8, [.ref k0, .ref k1, .ref k2, .ref k3, .ref k4, .ref k5, .ref k6, .ref k7, .ref k8, .ref k9, .ref k10, .int 0, .int 0, .int 0, .int 0, .int 0, .int 0, .int 0, .int 0]))] s.heap.size = A at hD ⊢
  have hA : ∀ q : Nat, s.heap.size ≤ q → A q := fun q h => by rw [← hAe]; exact Or.inr h
  have hS : va_S A s.heap s.heap [] := va_S.rf
  have hl := lv_entry ([.ref h0, .int p0]) (n := 2) (Nat.le_of_ble_eq_true rfl)
  rw [lg_entry_eq]
  generalize (lg_sl ([.ref h0, .int p0]) ++ List.replicate (2 - (lg_sl ([.ref h0, .int p0])).length) Slot.unset).toArray = ls at hl ⊢
  have hl : lv_has ls 2 [(0, .ref h0), (1, .int p0)] := hl
  obtain ⟨H, hH⟩ : ∃ H, H = s.heap := ⟨_, rfl⟩
  have hP : va_P (dC, dI) vwCl [(h0, .inr (8, [.ref k0, .ref k1, .ref k2, .ref k3, .ref k4, .ref k5, .ref k6, .ref k7, .ref k8, .ref k9, .ref k10, .int 0, .int 0, .int 0, .int 0, .int 0, .int 0, .int 0, .int 0]))] H := by rw [hH]; exact hP
  have hS : va_S A s.heap H [] := by rw [hH]; exact hS
  show W _ _ _ _ _ _ _ _ _ _ s.heap _ _ _ _ _
  rw [← hH]
  refine lv_iload_n hx hb dX8_isRight_0 rfl (lv_at hl 1 rfl) ?_
  refine lv_if_lt (tgt := 16) hx hb dX8_isRight_1 (by decide) (fun c_1 => ?_) (fun c_1 => ?_)
  · refine lv_iconst (v := 0) hx hb dX8_isRight_16 (by decide) ?_
    have hP9 := hP.sub (ws' := [(h0, .inr (8, [.ref k0, .ref k1, .ref k2, .ref k3, .ref k4, .ref k5, .ref k6, .ref k7, .ref k8, .ref k9, .ref k10, .int 0, .int 0, .int 0, .int 0, .int 0, .int 0, .int 0, .int 0]))]) [0] rfl
    have hD9 := hD.sub (ws' := [(h0, .inr (8, [.ref k0, .ref k1, .ref k2, .ref k3, .ref k4, .ref k5, .ref k6, .ref k7, .ref k8, .ref k9, .ref k10, .int 0, .int 0, .int 0, .int 0, .int 0, .int 0, .int 0, .int 0]))]) [0] (by decide) rfl
    exact W.zret (v := 0) hx hb hr rfl (fun t ht hW => ⟨⟨0, (), rfl, rfl, by rw [ht]; exact hP9, va_K.moved hW.alike hK, hD9⟩, hS.F ht⟩) hS.2.2 dX8_isRight_17
  · refine lv_iload_n hx hb dX8_isRight_4 rfl (lv_at hl 1 rfl) ?_
    refine lv_aload_n hx hb dX8_isRight_5 rfl (lv_at hl 0 rfl) ?_
    refine va_get (D := (dC, dI)) (ci := 8) (v := .int 0) (C := RX8) (T := TX8) (N := 19) hx hb hts hu8 hown hK hP 0 rfl rfl 14 (by decide) (hts (.fieldLink RX8 85 "GrazeBook" "rightCount" "I") (by decide +kernel)) (fun _ h9 => h9) rfl dX8_isRight_6 ?_
    refine lv_icmp_ge (tgt := 16) hx hb dX8_isRight_9 (by decide) (fun c_2 => ?_) (fun c_2 => by exfalso; (try simp only [fa_lt, fa_le, fa_eq, ti_m9, ti_m8, ti_m7, ti_m6, ti_m5, ti_m4, ti_m3, ti_m2, ti_m1, ti_0, ti_1, ti_2, ti_3, ti_4, ti_5, ti_6, ti_7, ti_8, ti_9, ti_10, ti_11, ti_12, ti_13, ti_14, ti_15, ti_16, ti_17, ti_18, ti_19, ti_20, ti_21, ti_31, ti_32, ti_720, ti_1000, ti_10000, ti_100000] at c_1 c_2); omega)
    refine lv_iconst (v := 0) hx hb dX8_isRight_16 (by decide) ?_
    have hP9 := hP.sub (ws' := [(h0, .inr (8, [.ref k0, .ref k1, .ref k2, .ref k3, .ref k4, .ref k5, .ref k6, .ref k7, .ref k8, .ref k9, .ref k10, .int 0, .int 0, .int 0, .int 0, .int 0, .int 0, .int 0, .int 0]))]) [0] rfl
    have hD9 := hD.sub (ws' := [(h0, .inr (8, [.ref k0, .ref k1, .ref k2, .ref k3, .ref k4, .ref k5, .ref k6, .ref k7, .ref k8, .ref k9, .ref k10, .int 0, .int 0, .int 0, .int 0, .int 0, .int 0, .int 0, .int 0]))]) [0] (by decide) rfl
    exact W.zret (v := 0) hx hb hr rfl (fun t ht hW => ⟨⟨0, (), rfl, rfl, by rw [ht]; exact hP9, va_K.moved hW.alike hK, hD9⟩, hS.F ht⟩) hS.2.2 dX8_isRight_17

set_option maxHeartbeats 1000000 in
set_option maxRecDepth 100000 in
theorem c_X8_isHerd (l : Launch) (dC : Nat → ClassId) (dI : Nat → Nat → Nat) (cI cZ cG cP cC cD cQ : ClassId) (h0 : Nat) (k0 : Nat) (k1 : Nat) (k2 : Nat) (k3 : Nat) (k4 : Nat) (k5 : Nat) (k6 : Nat) (k7 : Nat) (k8 : Nat) (k9 : Nat) (k10 : Nat) (p0 : Int32) (sz : Nat)  : Met l yX8_isHerd wsX8_isHerd ({ frames := 0, cells := 0, slots := 0, locals := 0 }) (va_Pc [.ref h0, .int p0] (fun U => U.heap.size = sz ∧ va_P (dC, dI) vwCl [(h0, .inr (8, [.ref k0, .ref k1, .ref k2, .ref k3, .ref k4, .ref k5, .ref k6, .ref k7, .ref k8, .ref k9, .ref k10, .int 0, .int 0, .int 0, .int 0, .int 0, .int 0, .int 0, .int 0]))] U.heap ∧ va_K (dC, dI) vwCl [(cI, .int), (cZ, .boolean), (cG, .object "GrazeBook$Ground"), (cP, .object "GrazeBook$Purse"), (cC, .object "GrazeBook$Claim"), (cD, .object "GrazeBook$Drove"), (cQ, .array .int)] U ∧ va_D (fun _ => True) [(h0, .inr (8, [.ref k0, .ref k1, .ref k2, .ref k3, .ref k4, .ref k5, .ref k6, .ref k7, .ref k8, .ref k9, .ref k10, .int 0, .int 0, .int 0, .int 0, .int 0, .int 0, .int 0, .int 0]))])) (va_Qi (fun (r : Int32) (_ : Unit) => r = 0) (fun (_ : Unit) (t : State) => va_P (dC, dI) vwCl [(h0, .inr (8, [.ref k0, .ref k1, .ref k2, .ref k3, .ref k4, .ref k5, .ref k6, .ref k7, .ref k8, .ref k9, .ref k10, .int 0, .int 0, .int 0, .int 0, .int 0, .int 0, .int 0, .int 0]))] t.heap ∧ va_K (dC, dI) vwCl [(cI, .int), (cZ, .boolean), (cG, .object "GrazeBook$Ground"), (cP, .object "GrazeBook$Purse"), (cC, .object "GrazeBook$Claim"), (cD, .object "GrazeBook$Drove"), (cQ, .array .int)] t ∧ va_D (va_A [(h0, .inr (8, [.ref k0, .ref k1, .ref k2, .ref k3, .ref k4, .ref k5, .ref k6, .ref k7, .ref k8, .ref k9, .ref k10, .int 0, .int 0, .int 0, .int 0, .int 0, .int 0, .int 0, .int 0]))] sz) [(h0, .inr (8, [.ref k0, .ref k1, .ref k2, .ref k3, .ref k4, .ref k5, .ref k6, .ref k7, .ref k8, .ref k9, .ref k10, .int 0, .int 0, .int 0, .int 0, .int 0, .int 0, .int 0, .int 0]))]) (va_A [(h0, .inr (8, [.ref k0, .ref k1, .ref k2, .ref k3, .ref k4, .ref k5, .ref k6, .ref k7, .ref k8, .ref k9, .ref k10, .int 0, .int 0, .int 0, .int 0, .int 0, .int 0, .int 0, .int 0]))] sz)) 0 0 (va_A [(h0, .inr (8, [.ref k0, .ref k1, .ref k2, .ref k3, .ref k4, .ref k5, .ref k6, .ref k7, .ref k8, .ref k9, .ref k10, .int 0, .int 0, .int 0, .int 0, .int 0, .int 0, .int 0, .int 0]))] sz) := by
  refine Met.ofW (cc := cX8_isHerd) (maxL := 2) (ret := (some .boolean)) (by decide) rfl ?_
  intro p e s m args below meth c s₁ B hml hv
  obtain ⟨rfl, hsz, hP, hK, hD0⟩ := hv
  have hx := B.exec
  have hb := B.bytes
  have hr := B.returns
  have hts := atoms_spec (ws := wsX8_isHerd) B.pre
  have hown : s.vm.findClass RX8 = some m.cls := findClass_of_methodNamed B.named
  have hlocks := B.notSynchronized
  have hu8 : ∀ w ∈ u_ws RX8 TX8 19, w ∈ wsX8_isHerd := by decide +kernel
  subst hsz
  have hD := hD0.self (sz := s.heap.size)
  generalize hAe : va_A [(h0, .inr (8, [.ref k0, .ref k1, .ref k2, .ref k3, .ref k4, .ref k5, .ref k6, .ref k7, .ref k8, .ref k9, .ref k10, .int 0, .int 0, .int 0, .int 0, .int 0, .int 0, .int 0, .int 0]))] s.heap.size = A at hD ⊢
  have hA : ∀ q : Nat, s.heap.size ≤ q → A q := fun q h => by rw [← hAe]; exact Or.inr h
  have hS : va_S A s.heap s.heap [] := va_S.rf
  have hl := lv_entry ([.ref h0, .int p0]) (n := 2) (Nat.le_of_ble_eq_true rfl)
  rw [lg_entry_eq]
  generalize (lg_sl ([.ref h0, .int p0]) ++ List.replicate (2 - (lg_sl ([.ref h0, .int p0])).length) Slot.unset).toArray = ls at hl ⊢
  have hl : lv_has ls 2 [(0, .ref h0), (1, .int p0)] := hl
  obtain ⟨H, hH⟩ : ∃ H, H = s.heap := ⟨_, rfl⟩
  have hP : va_P (dC, dI) vwCl [(h0, .inr (8, [.ref k0, .ref k1, .ref k2, .ref k3, .ref k4, .ref k5, .ref k6, .ref k7, .ref k8, .ref k9, .ref k10, .int 0, .int 0, .int 0, .int 0, .int 0, .int 0, .int 0, .int 0]))] H := by rw [hH]; exact hP
  have hS : va_S A s.heap H [] := by rw [hH]; exact hS
  show W _ _ _ _ _ _ _ _ _ _ s.heap _ _ _ _ _
  rw [← hH]
  refine lv_iload_n hx hb dX8_isHerd_0 rfl (lv_at hl 1 rfl) ?_
  refine lv_if_lt (tgt := 16) hx hb dX8_isHerd_1 (by decide) (fun c_1 => ?_) (fun c_1 => ?_)
  · refine lv_iconst (v := 0) hx hb dX8_isHerd_16 (by decide) ?_
    have hP9 := hP.sub (ws' := [(h0, .inr (8, [.ref k0, .ref k1, .ref k2, .ref k3, .ref k4, .ref k5, .ref k6, .ref k7, .ref k8, .ref k9, .ref k10, .int 0, .int 0, .int 0, .int 0, .int 0, .int 0, .int 0, .int 0]))]) [0] rfl
    have hD9 := hD.sub (ws' := [(h0, .inr (8, [.ref k0, .ref k1, .ref k2, .ref k3, .ref k4, .ref k5, .ref k6, .ref k7, .ref k8, .ref k9, .ref k10, .int 0, .int 0, .int 0, .int 0, .int 0, .int 0, .int 0, .int 0]))]) [0] (by decide) rfl
    exact W.zret (v := 0) hx hb hr rfl (fun t ht hW => ⟨⟨0, (), rfl, rfl, by rw [ht]; exact hP9, va_K.moved hW.alike hK, hD9⟩, hS.F ht⟩) hS.2.2 dX8_isHerd_17
  · refine lv_iload_n hx hb dX8_isHerd_4 rfl (lv_at hl 1 rfl) ?_
    refine lv_aload_n hx hb dX8_isHerd_5 rfl (lv_at hl 0 rfl) ?_
    refine va_get (D := (dC, dI)) (ci := 8) (v := .int 0) (C := RX8) (T := TX8) (N := 19) hx hb hts hu8 hown hK hP 0 rfl rfl 15 (by decide) (hts (.fieldLink RX8 88 "GrazeBook" "herdCount" "I") (by decide +kernel)) (fun _ h9 => h9) rfl dX8_isHerd_6 ?_
    refine lv_icmp_ge (tgt := 16) hx hb dX8_isHerd_9 (by decide) (fun c_2 => ?_) (fun c_2 => by exfalso; (try simp only [fa_lt, fa_le, fa_eq, ti_m9, ti_m8, ti_m7, ti_m6, ti_m5, ti_m4, ti_m3, ti_m2, ti_m1, ti_0, ti_1, ti_2, ti_3, ti_4, ti_5, ti_6, ti_7, ti_8, ti_9, ti_10, ti_11, ti_12, ti_13, ti_14, ti_15, ti_16, ti_17, ti_18, ti_19, ti_20, ti_21, ti_31, ti_32, ti_720, ti_1000, ti_10000, ti_100000] at c_1 c_2); omega)
    refine lv_iconst (v := 0) hx hb dX8_isHerd_16 (by decide) ?_
    have hP9 := hP.sub (ws' := [(h0, .inr (8, [.ref k0, .ref k1, .ref k2, .ref k3, .ref k4, .ref k5, .ref k6, .ref k7, .ref k8, .ref k9, .ref k10, .int 0, .int 0, .int 0, .int 0, .int 0, .int 0, .int 0, .int 0]))]) [0] rfl
    have hD9 := hD.sub (ws' := [(h0, .inr (8, [.ref k0, .ref k1, .ref k2, .ref k3, .ref k4, .ref k5, .ref k6, .ref k7, .ref k8, .ref k9, .ref k10, .int 0, .int 0, .int 0, .int 0, .int 0, .int 0, .int 0, .int 0]))]) [0] (by decide) rfl
    exact W.zret (v := 0) hx hb hr rfl (fun t ht hW => ⟨⟨0, (), rfl, rfl, by rw [ht]; exact hP9, va_K.moved hW.alike hK, hD9⟩, hS.F ht⟩) hS.2.2 dX8_isHerd_17

set_option maxHeartbeats 1000000 in
set_option maxRecDepth 100000 in
theorem c_X8_canPass (l : Launch) (dC : Nat → ClassId) (dI : Nat → Nat → Nat) (cI cZ cG cP cC cD cQ : ClassId) (h0 : Nat) (k0 : Nat) (k1 : Nat) (k2 : Nat) (k3 : Nat) (k4 : Nat) (k5 : Nat) (k6 : Nat) (k7 : Nat) (k8 : Nat) (k9 : Nat) (k10 : Nat) (p0 : Int32) (p1 : Int32) (sz : Nat)  : Met l yX8_canPass wsX8_canPass ({ frames := 1, cells := 0, slots := 0, locals := 21 }) (va_Pc [.ref h0, .int p0, .int p1] (fun U => U.heap.size = sz ∧ va_P (dC, dI) vwCl [(h0, .inr (8, [.ref k0, .ref k1, .ref k2, .ref k3, .ref k4, .ref k5, .ref k6, .ref k7, .ref k8, .ref k9, .ref k10, .int 0, .int 0, .int 0, .int 0, .int 0, .int 0, .int 0, .int 0]))] U.heap ∧ va_K (dC, dI) vwCl [(cI, .int), (cZ, .boolean), (cG, .object "GrazeBook$Ground"), (cP, .object "GrazeBook$Purse"), (cC, .object "GrazeBook$Claim"), (cD, .object "GrazeBook$Drove"), (cQ, .array .int)] U ∧ va_D (fun _ => True) [(h0, .inr (8, [.ref k0, .ref k1, .ref k2, .ref k3, .ref k4, .ref k5, .ref k6, .ref k7, .ref k8, .ref k9, .ref k10, .int 0, .int 0, .int 0, .int 0, .int 0, .int 0, .int 0, .int 0]))])) (va_Qi (fun (r : Int32) (_ : Unit) => r = 0) (fun (_ : Unit) (t : State) => va_P (dC, dI) vwCl [(h0, .inr (8, [.ref k0, .ref k1, .ref k2, .ref k3, .ref k4, .ref k5, .ref k6, .ref k7, .ref k8, .ref k9, .ref k10, .int 0, .int 0, .int 0, .int 0, .int 0, .int 0, .int 0, .int 0]))] t.heap ∧ va_K (dC, dI) vwCl [(cI, .int), (cZ, .boolean), (cG, .object "GrazeBook$Ground"), (cP, .object "GrazeBook$Purse"), (cC, .object "GrazeBook$Claim"), (cD, .object "GrazeBook$Drove"), (cQ, .array .int)] t ∧ va_D (va_A [(h0, .inr (8, [.ref k0, .ref k1, .ref k2, .ref k3, .ref k4, .ref k5, .ref k6, .ref k7, .ref k8, .ref k9, .ref k10, .int 0, .int 0, .int 0, .int 0, .int 0, .int 0, .int 0, .int 0]))] sz) [(h0, .inr (8, [.ref k0, .ref k1, .ref k2, .ref k3, .ref k4, .ref k5, .ref k6, .ref k7, .ref k8, .ref k9, .ref k10, .int 0, .int 0, .int 0, .int 0, .int 0, .int 0, .int 0, .int 0]))]) (va_A [(h0, .inr (8, [.ref k0, .ref k1, .ref k2, .ref k3, .ref k4, .ref k5, .ref k6, .ref k7, .ref k8, .ref k9, .ref k10, .int 0, .int 0, .int 0, .int 0, .int 0, .int 0, .int 0, .int 0]))] sz)) 0 0 (va_A [(h0, .inr (8, [.ref k0, .ref k1, .ref k2, .ref k3, .ref k4, .ref k5, .ref k6, .ref k7, .ref k8, .ref k9, .ref k10, .int 0, .int 0, .int 0, .int 0, .int 0, .int 0, .int 0, .int 0]))] sz) := by
  refine Met.ofW (cc := cX8_canPass) (maxL := 3) (ret := (some .boolean)) (by decide) rfl ?_
  intro p e s m args below meth c s₁ B hml hv
  obtain ⟨rfl, hsz, hP, hK, hD0⟩ := hv
  have hx := B.exec
  have hb := B.bytes
  have hr := B.returns
  have hts := atoms_spec (ws := wsX8_canPass) B.pre
  have hown : s.vm.findClass RX8 = some m.cls := findClass_of_methodNamed B.named
  have hlocks := B.notSynchronized
  subst hsz
  have hD := hD0.self (sz := s.heap.size)
  generalize hAe : va_A [(h0, .inr (8, [.ref k0, .ref k1, .ref k2, .ref k3, .ref k4, .ref k5, .ref k6, .ref k7, .ref k8, .ref k9, .ref k10, .int 0, .int 0, .int 0, .int 0, .int 0, .int 0, .int 0, .int 0]))] s.heap.size = A at hD ⊢
  have hA : ∀ q : Nat, s.heap.size ≤ q → A q := fun q h => by rw [← hAe]; exact Or.inr h
  have hS : va_S A s.heap s.heap [] := va_S.rf
  have hl := lv_entry ([.ref h0, .int p0, .int p1]) (n := 3) (Nat.le_of_ble_eq_true rfl)
  rw [lg_entry_eq]
  generalize (lg_sl ([.ref h0, .int p0, .int p1]) ++ List.replicate (3 - (lg_sl ([.ref h0, .int p0, .int p1])).length) Slot.unset).toArray = ls at hl ⊢
  have hl : lv_has ls 3 [(0, .ref h0), (1, .int p0), (2, .int p1)] := hl
  obtain ⟨H, hH⟩ : ∃ H, H = s.heap := ⟨_, rfl⟩
  have hP : va_P (dC, dI) vwCl [(h0, .inr (8, [.ref k0, .ref k1, .ref k2, .ref k3, .ref k4, .ref k5, .ref k6, .ref k7, .ref k8, .ref k9, .ref k10, .int 0, .int 0, .int 0, .int 0, .int 0, .int 0, .int 0, .int 0]))] H := by rw [hH]; exact hP
  have hS : va_S A s.heap H [] := by rw [hH]; exact hS
  show W _ _ _ _ _ _ _ _ _ _ s.heap _ _ _ _ _
  rw [← hH]
  refine lv_aload_n hx hb dX8_canPass_0 rfl (lv_at hl 0 rfl) ?_
  refine lv_iload_n hx hb dX8_canPass_1 rfl (lv_at hl 1 rfl) ?_
  have hPc := hP.sub (ws' := [(h0, .inr (8, [.ref k0, .ref k1, .ref k2, .ref k3, .ref k4, .ref k5, .ref k6, .ref k7, .ref k8, .ref k9, .ref k10, .int 0, .int 0, .int 0, .int 0, .int 0, .int 0, .int 0, .int 0]))]) [0] rfl
  have hDc := hD.sub (ws' := [(h0, .inr (8, [.ref k0, .ref k1, .ref k2, .ref k3, .ref k4, .ref k5, .ref k6, .ref k7, .ref k8, .ref k9, .ref k10, .int 0, .int 0, .int 0, .int 0, .int 0, .int 0, .int 0, .int 0]))]) [0] (by decide) rfl
  have hFc := va_free (wc := [(h0, .inr (8, [.ref k0, .ref k1, .ref k2, .ref k3, .ref k4, .ref k5, .ref k6, .ref k7, .ref k8, .ref k9, .ref k10, .int 0, .int 0, .int 0, .int 0, .int 0, .int 0, .int 0, .int 0]))]) hD hS hA [0] rfl
  refine va_calli (va_runV (As := [.int p0]) (rest := []) ⟨hx, hb, hml, hown, hts⟩ (c_X8_isRight l dC dI cI cZ cG cP cC cD cQ h0 k0 k1 k2 k3 k4 k5 k6 k7 k8 k9 k10 p0 H.size ) (cwV 1 hts gX8_canPass_X8_isRight rfl rfl rfl (by decide +kernel) ⟨Nat.le_of_ble_eq_true rfl, Nat.le_of_ble_eq_true rfl⟩) ⟨fun a U g mk q => by obtain ⟨q0, q1, qP, qK, qD⟩ := q; exact ⟨q0, q1, qP, va_K.moved (u := U) (U := U.calling g mk a) (Vm.Alike.refl U.vm) qK, qD⟩, va_recv hK hPc (ci := 8) (q0 := 0) rfl rfl, fun U hU hW => ⟨rfl, by rw [hU], by rw [hU]; exact hPc, va_K.moved hW.alike hK, hDc.weaken (fun _ _ _ _ => trivial)⟩⟩ rfl rfl hl.1 rfl (lv_room (Nat.le_of_ble_eq_true rfl)) dX8_canPass_2 ⟨Nat.le_of_ble_eq_true rfl, Nat.le_of_ble_eq_true rfl⟩) hS (fun q _ h => hFc q h) hFc (fun r_1 u t H1 locs ht hvm hw hB hz1 hk1 hS => ?_)
  obtain ⟨hP1, hK1, hD1⟩ := hB
  rw [ht] at hP1
  obtain ⟨hP, hD⟩ := va_join (wr := []) (w1 := [(h0, .inr (8, [.ref k0, .ref k1, .ref k2, .ref k3, .ref k4, .ref k5, .ref k6, .ref k7, .ref k8, .ref k9, .ref k10, .int 0, .int 0, .int 0, .int 0, .int 0, .int 0, .int 0, .int 0]))]) hP hD [0] [] rfl rfl (by decide) (by decide) hk1 hFc hP1 hD1
  generalize H1 = H at hP hS ⊢
  have hP : va_P (dC, dI) vwCl [(h0, .inr (8, [.ref k0, .ref k1, .ref k2, .ref k3, .ref k4, .ref k5, .ref k6, .ref k7, .ref k8, .ref k9, .ref k10, .int 0, .int 0, .int 0, .int 0, .int 0, .int 0, .int 0, .int 0]))] H := hP
  have hD : va_D A [(h0, .inr (8, [.ref k0, .ref k1, .ref k2, .ref k3, .ref k4, .ref k5, .ref k6, .ref k7, .ref k8, .ref k9, .ref k10, .int 0, .int 0, .int 0, .int 0, .int 0, .int 0, .int 0, .int 0]))] := hD
  obtain rfl : r_1 = 0 := hw
  refine lv_if_eq (tgt := 34) hx hb dX8_canPass_5 (by decide) (fun c_2 => ?_) (fun c_2 => absurd (by decide) c_2)
  refine lv_iconst (v := 0) hx hb dX8_canPass_34 (by decide) ?_
  have hP9 := hP.sub (ws' := [(h0, .inr (8, [.ref k0, .ref k1, .ref k2, .ref k3, .ref k4, .ref k5, .ref k6, .ref k7, .ref k8, .ref k9, .ref k10, .int 0, .int 0, .int 0, .int 0, .int 0, .int 0, .int 0, .int 0]))]) [0] rfl
  have hD9 := hD.sub (ws' := [(h0, .inr (8, [.ref k0, .ref k1, .ref k2, .ref k3, .ref k4, .ref k5, .ref k6, .ref k7, .ref k8, .ref k9, .ref k10, .int 0, .int 0, .int 0, .int 0, .int 0, .int 0, .int 0, .int 0]))]) [0] (by decide) rfl
  exact W.zret (v := 0) hx hb hr rfl (fun t ht hW => ⟨⟨0, (), rfl, rfl, by rw [ht]; exact hP9, va_K.moved hW.alike hK, hD9⟩, hS.F ht⟩) hS.2.2 dX8_canPass_35

set_option maxHeartbeats 1000000 in
set_option maxRecDepth 100000 in
theorem c_X7_isWeather (l : Launch) (dC : Nat → ClassId) (dI : Nat → Nat → Nat) (cI cZ cG cP cC cD cQ : ClassId) (p0 : Int32) (p1 : Int32) (sz : Nat)  : Met l yX7_isWeather wsX7_isWeather ({ frames := 0, cells := 0, slots := 0, locals := 0 }) (va_Pc [.int p0, .int p1] (fun U => U.heap.size = sz ∧ va_P (dC, dI) vwCl [] U.heap ∧ va_K (dC, dI) vwCl [(cI, .int), (cZ, .boolean), (cG, .object "GrazeBook$Ground"), (cP, .object "GrazeBook$Purse"), (cC, .object "GrazeBook$Claim"), (cD, .object "GrazeBook$Drove"), (cQ, .array .int)] U ∧ va_D (fun _ => True) [])) (va_Qi (fun (r : Int32) (_ : Unit) => r = if 0 ≤ p0.toInt ∧ p0.toInt < 10 ∧ 0 ≤ p1.toInt ∧ p1.toInt < 10 then 1 else 0) (fun (_ : Unit) (t : State) => va_P (dC, dI) vwCl [] t.heap ∧ va_K (dC, dI) vwCl [(cI, .int), (cZ, .boolean), (cG, .object "GrazeBook$Ground"), (cP, .object "GrazeBook$Purse"), (cC, .object "GrazeBook$Claim"), (cD, .object "GrazeBook$Drove"), (cQ, .array .int)] t ∧ va_D (va_A [] sz) []) (va_A [] sz)) 0 0 (va_A [] sz) := by
  refine Met.ofW (cc := cX7_isWeather) (maxL := 2) (ret := (some .boolean)) (by decide) rfl ?_
  intro p e s m args below meth c s₁ B hml hv
  obtain ⟨rfl, hsz, hP, hK, hD0⟩ := hv
  have hx := B.exec
  have hb := B.bytes
  have hr := B.returns
  have hts := atoms_spec (ws := wsX7_isWeather) B.pre
  have hown : s.vm.findClass RX7 = some m.cls := findClass_of_methodNamed B.named
  have hlocks := B.notSynchronized
  subst hsz
  have hD := hD0.self (sz := s.heap.size)
  generalize hAe : va_A [] s.heap.size = A at hD ⊢
  have hA : ∀ q : Nat, s.heap.size ≤ q → A q := fun q h => by rw [← hAe]; exact Or.inr h
  have hS : va_S A s.heap s.heap [] := va_S.rf
  have hl := lv_entry ([.int p0, .int p1]) (n := 2) (Nat.le_of_ble_eq_true rfl)
  rw [lg_entry_eq]
  generalize (lg_sl ([.int p0, .int p1]) ++ List.replicate (2 - (lg_sl ([.int p0, .int p1])).length) Slot.unset).toArray = ls at hl ⊢
  have hl : lv_has ls 2 [(0, .int p0), (1, .int p1)] := hl
  obtain ⟨H, hH⟩ : ∃ H, H = s.heap := ⟨_, rfl⟩
  have hP : va_P (dC, dI) vwCl [] H := by rw [hH]; exact hP
  have hS : va_S A s.heap H [] := by rw [hH]; exact hS
  show W _ _ _ _ _ _ _ _ _ _ s.heap _ _ _ _ _
  rw [← hH]
  refine lv_iload_n hx hb dX7_isWeather_0 rfl (lv_at hl 0 rfl) ?_
  refine lv_if_lt (tgt := 24) hx hb dX7_isWeather_1 (by decide) (fun c_1 => ?_) (fun c_1 => ?_)
  · refine lv_iconst (v := 0) hx hb dX7_isWeather_24 (by decide) ?_
    have hP9 := hP.sub (ws' := []) [] rfl
    have hD9 := hD.sub (ws' := []) [] (by decide) rfl
    exact W.zret (v := 0) hx hb hr rfl (fun t ht hW => ⟨⟨0, (), rfl, (Eq.symm (if_neg (by (try simp only [fa_lt, fa_le, fa_eq, ti_m9, ti_m8, ti_m7, ti_m6, ti_m5, ti_m4, ti_m3, ti_m2, ti_m1, ti_0, ti_1, ti_2, ti_3, ti_4, ti_5, ti_6, ti_7, ti_8, ti_9, ti_10, ti_11, ti_12, ti_13, ti_14, ti_15, ti_16, ti_17, ti_18, ti_19, ti_20, ti_21, ti_31, ti_32, ti_720, ti_1000, ti_10000, ti_100000] at c_1); omega))), by rw [ht]; exact hP9, va_K.moved hW.alike hK, hD9⟩, hS.F ht⟩) hS.2.2 dX7_isWeather_25
  · refine lv_iload_n hx hb dX7_isWeather_4 rfl (lv_at hl 0 rfl) ?_
    refine lv_bipush (v := 10) hx hb dX7_isWeather_5 (by decide) ?_
    refine lv_icmp_ge (tgt := 24) hx hb dX7_isWeather_7 (by decide) (fun c_2 => ?_) (fun c_2 => ?_)
    · refine lv_iconst (v := 0) hx hb dX7_isWeather_24 (by decide) ?_
      have hP9 := hP.sub (ws' := []) [] rfl
      have hD9 := hD.sub (ws' := []) [] (by decide) rfl
      exact W.zret (v := 0) hx hb hr rfl (fun t ht hW => ⟨⟨0, (), rfl, (Eq.symm (if_neg (by (try simp only [fa_lt, fa_le, fa_eq, ti_m9, ti_m8, ti_m7, ti_m6, ti_m5, ti_m4, ti_m3, ti_m2, ti_m1, ti_0, ti_1, ti_2, ti_3, ti_4, ti_5, ti_6, ti_7, ti_8, ti_9, ti_10, ti_11, ti_12, ti_13, ti_14, ti_15, ti_16, ti_17, ti_18, ti_19, ti_20, ti_21, ti_31, ti_32, ti_720, ti_1000, ti_10000, ti_100000] at c_1 c_2); omega))), by rw [ht]; exact hP9, va_K.moved hW.alike hK, hD9⟩, hS.F ht⟩) hS.2.2 dX7_isWeather_25
    · refine lv_iload_n hx hb dX7_isWeather_10 rfl (lv_at hl 1 rfl) ?_
      refine lv_if_lt (tgt := 24) hx hb dX7_isWeather_11 (by decide) (fun c_3 => ?_) (fun c_3 => ?_)
      · refine lv_iconst (v := 0) hx hb dX7_isWeather_24 (by decide) ?_
        have hP9 := hP.sub (ws' := []) [] rfl
        have hD9 := hD.sub (ws' := []) [] (by decide) rfl
        exact W.zret (v := 0) hx hb hr rfl (fun t ht hW => ⟨⟨0, (), rfl, (Eq.symm (if_neg (by (try simp only [fa_lt, fa_le, fa_eq, ti_m9, ti_m8, ti_m7, ti_m6, ti_m5, ti_m4, ti_m3, ti_m2, ti_m1, ti_0, ti_1, ti_2, ti_3, ti_4, ti_5, ti_6, ti_7, ti_8, ti_9, ti_10, ti_11, ti_12, ti_13, ti_14, ti_15, ti_16, ti_17, ti_18, ti_19, ti_20, ti_21, ti_31, ti_32, ti_720, ti_1000, ti_10000, ti_100000] at c_1 c_2 c_3); omega))), by rw [ht]; exact hP9, va_K.moved hW.alike hK, hD9⟩, hS.F ht⟩) hS.2.2 dX7_isWeather_25
      · refine lv_iload_n hx hb dX7_isWeather_14 rfl (lv_at hl 1 rfl) ?_
        refine lv_bipush (v := 10) hx hb dX7_isWeather_15 (by decide) ?_
        refine lv_icmp_ge (tgt := 24) hx hb dX7_isWeather_17 (by decide) (fun c_4 => ?_) (fun c_4 => ?_)
        · refine lv_iconst (v := 0) hx hb dX7_isWeather_24 (by decide) ?_
          have hP9 := hP.sub (ws' := []) [] rfl
          have hD9 := hD.sub (ws' := []) [] (by decide) rfl
          exact W.zret (v := 0) hx hb hr rfl (fun t ht hW => ⟨⟨0, (), rfl, (Eq.symm (if_neg (by (try simp only [fa_lt, fa_le, fa_eq, ti_m9, ti_m8, ti_m7, ti_m6, ti_m5, ti_m4, ti_m3, ti_m2, ti_m1, ti_0, ti_1, ti_2, ti_3, ti_4, ti_5, ti_6, ti_7, ti_8, ti_9, ti_10, ti_11, ti_12, ti_13, ti_14, ti_15, ti_16, ti_17, ti_18, ti_19, ti_20, ti_21, ti_31, ti_32, ti_720, ti_1000, ti_10000, ti_100000] at c_1 c_2 c_3 c_4); omega))), by rw [ht]; exact hP9, va_K.moved hW.alike hK, hD9⟩, hS.F ht⟩) hS.2.2 dX7_isWeather_25
        · refine lv_iconst (v := 1) hx hb dX7_isWeather_20 (by decide) ?_
          refine lv_goto (tgt := 25) hx hb dX7_isWeather_21 (by decide) ?_
          have hP9 := hP.sub (ws' := []) [] rfl
          have hD9 := hD.sub (ws' := []) [] (by decide) rfl
          exact W.zret (v := 1) hx hb hr rfl (fun t ht hW => ⟨⟨1, (), rfl, (Eq.symm (if_pos (by (try simp only [fa_lt, fa_le, fa_eq, ti_m9, ti_m8, ti_m7, ti_m6, ti_m5, ti_m4, ti_m3, ti_m2, ti_m1, ti_0, ti_1, ti_2, ti_3, ti_4, ti_5, ti_6, ti_7, ti_8, ti_9, ti_10, ti_11, ti_12, ti_13, ti_14, ti_15, ti_16, ti_17, ti_18, ti_19, ti_20, ti_21, ti_31, ti_32, ti_720, ti_1000, ti_10000, ti_100000] at c_1 c_2 c_3 c_4); omega))), by rw [ht]; exact hP9, va_K.moved hW.alike hK, hD9⟩, hS.F ht⟩) hS.2.2 dX7_isWeather_25

set_option maxHeartbeats 1000000 in
set_option maxRecDepth 100000 in
theorem c_X7_changeRate (l : Launch) (dC : Nat → ClassId) (dI : Nat → Nat → Nat) (cI cZ cG cP cC cD cQ : ClassId) (h0 : Nat) (x0 : Nat) (x1 : Nat) (p0 : Int32) (p1 : Int32) (p2 : Int32) (sz : Nat) (hw0 : isW p0 p1) : Met l yX7_changeRate wsX7_changeRate ({ frames := 1, cells := 0, slots := 0, locals := 21 }) (va_Pc [.ref h0, .int p0, .int p1, .int p2] (fun U => U.heap.size = sz ∧ va_P (dC, dI) vwCl [(h0, .inr (7, [.ref x0, .ref x1])), (x0, .inl (cI, 100, .inl (fun _ => (0 : Int32))))] U.heap ∧ va_K (dC, dI) vwCl [(cI, .int), (cZ, .boolean), (cG, .object "GrazeBook$Ground"), (cP, .object "GrazeBook$Purse"), (cC, .object "GrazeBook$Claim"), (cD, .object "GrazeBook$Drove"), (cQ, .array .int)] U ∧ va_D (fun _ => True) [(h0, .inr (7, [.ref x0, .ref x1])), (x0, .inl (cI, 100, .inl (fun _ => (0 : Int32))))])) (va_Qi (fun (r : Int32) (_ : Unit) => r = 0) (fun (_ : Unit) (t : State) => va_P (dC, dI) vwCl [] t.heap ∧ va_K (dC, dI) vwCl [(cI, .int), (cZ, .boolean), (cG, .object "GrazeBook$Ground"), (cP, .object "GrazeBook$Purse"), (cC, .object "GrazeBook$Claim"), (cD, .object "GrazeBook$Drove"), (cQ, .array .int)] t ∧ va_D (va_A [(h0, .inr (7, [.ref x0, .ref x1])), (x0, .inl (cI, 100, .inl (fun _ => (0 : Int32))))] sz) []) (va_A [(h0, .inr (7, [.ref x0, .ref x1])), (x0, .inl (cI, 100, .inl (fun _ => (0 : Int32))))] sz)) 0 0 (va_A [(h0, .inr (7, [.ref x0, .ref x1])), (x0, .inl (cI, 100, .inl (fun _ => (0 : Int32))))] sz) := by
  refine Met.ofW (cc := cX7_changeRate) (maxL := 5) (ret := (some .int)) (by decide) rfl ?_
  intro p e s m args below meth c s₁ B hml hv
  obtain ⟨rfl, hsz, hP, hK, hD0⟩ := hv
  have hx := B.exec
  have hb := B.bytes
  have hr := B.returns
  have hts := atoms_spec (ws := wsX7_changeRate) B.pre
  have hown : s.vm.findClass RX7 = some m.cls := findClass_of_methodNamed B.named
  have hlocks := B.notSynchronized
  have hu7 : ∀ w ∈ u_ws RX7 TX7 2, w ∈ wsX7_changeRate := by decide +kernel
  subst hsz
  have hD := hD0.self (sz := s.heap.size)
  generalize hAe : va_A [(h0, .inr (7, [.ref x0, .ref x1])), (x0, .inl (cI, 100, .inl (fun _ => (0 : Int32))))] s.heap.size = A at hD ⊢
  have hA : ∀ q : Nat, s.heap.size ≤ q → A q := fun q h => by rw [← hAe]; exact Or.inr h
  have hS : va_S A s.heap s.heap [] := va_S.rf
  have hl := lv_entry ([.ref h0, .int p0, .int p1, .int p2]) (n := 5) (Nat.le_of_ble_eq_true rfl)
  rw [lg_entry_eq]
  generalize (lg_sl ([.ref h0, .int p0, .int p1, .int p2]) ++ List.replicate (5 - (lg_sl ([.ref h0, .int p0, .int p1, .int p2])).length) Slot.unset).toArray = ls at hl ⊢
  have hl : lv_has ls 5 [(0, .ref h0), (1, .int p0), (2, .int p1), (3, .int p2)] := hl
  obtain ⟨H, hH⟩ : ∃ H, H = s.heap := ⟨_, rfl⟩
  have hP : va_P (dC, dI) vwCl [(h0, .inr (7, [.ref x0, .ref x1])), (x0, .inl (cI, 100, .inl (fun _ => (0 : Int32))))] H := by rw [hH]; exact hP
  have hS : va_S A s.heap H [] := by rw [hH]; exact hS
  show W _ _ _ _ _ _ _ _ _ _ s.heap _ _ _ _ _
  rw [← hH]
  refine lv_iload_n hx hb dX7_changeRate_0 rfl (lv_at hl 1 rfl) ?_
  refine lv_iload_n hx hb dX7_changeRate_1 rfl (lv_at hl 2 rfl) ?_
  have hPc := hP.sub (ws' := []) [] rfl
  have hDc := hD.sub (ws' := []) [] (by decide) rfl
  have hFc := va_free (wc := []) hD hS hA [] rfl
  refine va_calli (va_runS (As := [.int p0, .int p1]) (rest := []) ⟨hx, hb, hml, hown, hts⟩ (c_X7_isWeather l dC dI cI cZ cG cP cC cD cQ p0 p1 H.size ) (va_cwS 2 hts gX7_changeRate_X7_isWeather rfl rfl rfl (by decide +kernel) ⟨Nat.le_of_ble_eq_true rfl, Nat.le_of_ble_eq_true rfl⟩) ⟨fun a U g mk q => by obtain ⟨q0, q1, qP, qK, qD⟩ := q; exact ⟨q0, q1, qP, va_K.moved (u := U) (U := U.calling g mk a) (Vm.Alike.refl U.vm) qK, qD⟩, fun U hU hW => ⟨rfl, by rw [hU], by rw [hU]; exact hPc, va_K.moved hW.alike hK, hDc.weaken (fun _ _ _ _ => trivial)⟩⟩ rfl rfl hl.1 rfl (lv_room (Nat.le_of_ble_eq_true rfl)) dX7_changeRate_2 ⟨Nat.le_of_ble_eq_true rfl, Nat.le_of_ble_eq_true rfl⟩) hS (fun q _ h => hFc q h) hFc (fun r_1 u t H1 locs ht hvm hw hB hz1 hk1 hS => ?_)
  obtain ⟨hP1, hK1, hD1⟩ := hB
  rw [ht] at hP1
  obtain ⟨hP, hD⟩ := va_join (wr := [(h0, .inr (7, [.ref x0, .ref x1])), (x0, .inl (cI, 100, .inl (fun _ => (0 : Int32))))]) (w1 := []) hP hD [] [0, 1] rfl rfl (by decide) (by decide) hk1 hFc hP1 hD1
  generalize H1 = H at hP hS ⊢
  have hP : va_P (dC, dI) vwCl [(h0, .inr (7, [.ref x0, .ref x1])), (x0, .inl (cI, 100, .inl (fun _ => (0 : Int32))))] H := hP
  have hD : va_D A [(h0, .inr (7, [.ref x0, .ref x1])), (x0, .inl (cI, 100, .inl (fun _ => (0 : Int32))))] := hD
  obtain rfl : r_1 = 1 := hw.trans (if_pos hw0)
  refine lv_if_ne (tgt := 11) hx hb dX7_changeRate_5 (by decide) (fun c_3 => ?_) (fun c_3 => absurd c_3 (by decide))
  refine lv_aload_n hx hb dX7_changeRate_11 rfl (lv_at hl 0 rfl) ?_
  refine va_get (D := (dC, dI)) (ci := 7) (v := .ref x0) (C := RX7) (T := TX7) (N := 2) hx hb hts hu7 hown hK hP 0 rfl rfl 0 (by decide) (hts (.fieldLink RX7 11 "GrazeBook$Year" "rates" "[I") (by decide +kernel)) (fun _ h9 => h9) rfl dX7_changeRate_12 ?_
  refine lv_iload_n hx hb dX7_changeRate_15 rfl (lv_at hl 1 rfl) ?_
  refine lv_bipush (v := 10) hx hb dX7_changeRate_16 (by decide) ?_
  refine lv_imul hx hb dX7_changeRate_18 ?_
  refine lv_topi (fun v_4 ev_4 => ?_)
  refine lv_iload_n hx hb dX7_changeRate_19 rfl (lv_at hl 2 rfl) ?_
  refine lv_iadd hx hb dX7_changeRate_20 ?_
  refine lv_topi (fun v_5 ev_5 => ?_)
  refine va_iald hx hb hK hP 1 0 rfl rfl (by rw [ev_5, ev_4]; exact ix_a hw0) dX7_changeRate_21 ?_
  refine lv_topi (fun z9 ez9 => ?_)
  obtain rfl : z9 = 0 := ez9
  refine lv_istore (lv' := [(4, .int 0), (0, .ref h0), (1, .int p0), (2, .int p1), (3, .int p2)]) hx hb dX7_changeRate_22 hl (by decide) rfl (fun ls hl => ?_)
  refine lv_aload_n hx hb dX7_changeRate_24 rfl (lv_at hl 1 rfl) ?_
  refine va_get (D := (dC, dI)) (ci := 7) (v := .ref x0) (C := RX7) (T := TX7) (N := 2) hx hb hts hu7 hown hK hP 0 rfl rfl 0 (by decide) (hts (.fieldLink RX7 11 "GrazeBook$Year" "rates" "[I") (by decide +kernel)) (fun _ h9 => h9) rfl dX7_changeRate_25 ?_
  refine lv_iload_n hx hb dX7_changeRate_28 rfl (lv_at hl 2 rfl) ?_
  refine lv_bipush (v := 10) hx hb dX7_changeRate_29 (by decide) ?_
  refine lv_imul hx hb dX7_changeRate_31 ?_
  refine lv_topi (fun v_6 ev_6 => ?_)
  refine lv_iload_n hx hb dX7_changeRate_32 rfl (lv_at hl 3 rfl) ?_
  refine lv_iadd hx hb dX7_changeRate_33 ?_
  refine lv_topi (fun v_7 ev_7 => ?_)
  refine lv_iload_n hx hb dX7_changeRate_34 rfl (lv_at hl 4 rfl) ?_
  refine va_iast hx hb hK hP hD hS 1 0 rfl rfl (by rw [ev_7, ev_6]; exact ix_a hw0) dX7_changeRate_35 (fun H locs hP hD hS => ?_)
  generalize hgg_8 : upd _ _ _ = g_8 at hP hD
  have hP : va_P (dC, dI) vwCl [(h0, .inr (7, [.ref x0, .ref x1])), (x0, .inl (cI, 100, .inl g_8))] H := hP
  have hD : va_D A [(h0, .inr (7, [.ref x0, .ref x1])), (x0, .inl (cI, 100, .inl g_8))] := hD
  refine lv_iload hx hb dX7_changeRate_36 (lv_at hl 0 rfl) ?_
  have hP9 := hP.sub (ws' := []) [] rfl
  have hD9 := hD.sub (ws' := []) [] (by decide) rfl
  exact W.iret (v := 0) hx hb hr (fun t ht hW => ⟨⟨0, (), rfl, rfl, by rw [ht]; exact hP9, va_K.moved hW.alike hK, hD9⟩, hS.F ht⟩) hS.2.2 dX7_changeRate_38

set_option maxHeartbeats 1000000 in
set_option maxRecDepth 100000 in
theorem c_X7_changeWeather (l : Launch) (dC : Nat → ClassId) (dI : Nat → Nat → Nat) (cI cZ cG cP cC cD cQ : ClassId) (h0 : Nat) (x0 : Nat) (x1 : Nat) (f : Nat → Int32) (p0 : Int32) (p1 : Int32) (p2 : Int32) (sz : Nat)  : Met l yX7_changeWeather wsX7_changeWeather ({ frames := 1, cells := 0, slots := 0, locals := 21 }) (va_Pc [.ref h0, .int p0, .int p1, .int p2] (fun U => U.heap.size = sz ∧ va_P (dC, dI) vwCl [(h0, .inr (7, [.ref x0, .ref x1])), (x1, .inl (cI, 721, .inl f))] U.heap ∧ va_K (dC, dI) vwCl [(cI, .int), (cZ, .boolean), (cG, .object "GrazeBook$Ground"), (cP, .object "GrazeBook$Purse"), (cC, .object "GrazeBook$Claim"), (cD, .object "GrazeBook$Drove"), (cQ, .array .int)] U ∧ va_D (fun _ => True) [(h0, .inr (7, [.ref x0, .ref x1])), (x1, .inl (cI, 721, .inl f))])) (va_Qv (fun _ : Unit => True) (fun (_ : Unit) (t : State) => va_P (dC, dI) vwCl [] t.heap ∧ va_K (dC, dI) vwCl [(cI, .int), (cZ, .boolean), (cG, .object "GrazeBook$Ground"), (cP, .object "GrazeBook$Purse"), (cC, .object "GrazeBook$Claim"), (cD, .object "GrazeBook$Drove"), (cQ, .array .int)] t ∧ va_D (va_A [(h0, .inr (7, [.ref x0, .ref x1])), (x1, .inl (cI, 721, .inl f))] sz) []) (va_A [(h0, .inr (7, [.ref x0, .ref x1])), (x1, .inl (cI, 721, .inl f))] sz)) 0 0 (va_A [(h0, .inr (7, [.ref x0, .ref x1])), (x1, .inl (cI, 721, .inl f))] sz) := by
  refine Met.ofW (cc := cX7_changeWeather) (maxL := 4) (ret := none) (by decide) rfl ?_
  intro p e s m args below meth c s₁ B hml hv
  obtain ⟨rfl, hsz, hP, hK, hD0⟩ := hv
  have hx := B.exec
  have hb := B.bytes
  have hr := B.returns
  have hts := atoms_spec (ws := wsX7_changeWeather) B.pre
  have hown : s.vm.findClass RX7 = some m.cls := findClass_of_methodNamed B.named
  have hlocks := B.notSynchronized
  have hu7 : ∀ w ∈ u_ws RX7 TX7 2, w ∈ wsX7_changeWeather := by decide +kernel
  subst hsz
  have hD := hD0.self (sz := s.heap.size)
  generalize hAe : va_A [(h0, .inr (7, [.ref x0, .ref x1])), (x1, .inl (cI, 721, .inl f))] s.heap.size = A at hD ⊢
  have hA : ∀ q : Nat, s.heap.size ≤ q → A q := fun q h => by rw [← hAe]; exact Or.inr h
  have hS : va_S A s.heap s.heap [] := va_S.rf
  have hl := lv_entry ([.ref h0, .int p0, .int p1, .int p2]) (n := 4) (Nat.le_of_ble_eq_true rfl)
  rw [lg_entry_eq]
  generalize (lg_sl ([.ref h0, .int p0, .int p1, .int p2]) ++ List.replicate (4 - (lg_sl ([.ref h0, .int p0, .int p1, .int p2])).length) Slot.unset).toArray = ls at hl ⊢
  have hl : lv_has ls 4 [(0, .ref h0), (1, .int p0), (2, .int p1), (3, .int p2)] := hl
  obtain ⟨H, hH⟩ : ∃ H, H = s.heap := ⟨_, rfl⟩
  have hP : va_P (dC, dI) vwCl [(h0, .inr (7, [.ref x0, .ref x1])), (x1, .inl (cI, 721, .inl f))] H := by rw [hH]; exact hP
  have hS : va_S A s.heap H [] := by rw [hH]; exact hS
  show W _ _ _ _ _ _ _ _ _ _ s.heap _ _ _ _ _
  rw [← hH]
  refine lv_iload_n hx hb dX7_changeWeather_0 rfl (lv_at hl 2 rfl) ?_
  refine lv_iload_n hx hb dX7_changeWeather_1 rfl (lv_at hl 3 rfl) ?_
  have hPc := hP.sub (ws' := []) [] rfl
  have hDc := hD.sub (ws' := []) [] (by decide) rfl
  have hFc := va_free (wc := []) hD hS hA [] rfl
  refine va_calli (va_runS (As := [.int p1, .int p2]) (rest := []) ⟨hx, hb, hml, hown, hts⟩ (c_X7_isWeather l dC dI cI cZ cG cP cC cD cQ p1 p2 H.size ) (va_cwS 2 hts gX7_changeWeather_X7_isWeather rfl rfl rfl (by decide +kernel) ⟨Nat.le_of_ble_eq_true rfl, Nat.le_of_ble_eq_true rfl⟩) ⟨fun a U g mk q => by obtain ⟨q0, q1, qP, qK, qD⟩ := q; exact ⟨q0, q1, qP, va_K.moved (u := U) (U := U.calling g mk a) (Vm.Alike.refl U.vm) qK, qD⟩, fun U hU hW => ⟨rfl, by rw [hU], by rw [hU]; exact hPc, va_K.moved hW.alike hK, hDc.weaken (fun _ _ _ _ => trivial)⟩⟩ rfl rfl hl.1 rfl (lv_room (Nat.le_of_ble_eq_true rfl)) dX7_changeWeather_2 ⟨Nat.le_of_ble_eq_true rfl, Nat.le_of_ble_eq_true rfl⟩) hS (fun q _ h => hFc q h) hFc (fun r_1 u t H1 locs ht hvm hw hB hz1 hk1 hS => ?_)
  obtain ⟨hP1, hK1, hD1⟩ := hB
  rw [ht] at hP1
  obtain ⟨hP, hD⟩ := va_join (wr := [(h0, .inr (7, [.ref x0, .ref x1])), (x1, .inl (cI, 721, .inl f))]) (w1 := []) hP hD [] [0, 1] rfl rfl (by decide) (by decide) hk1 hFc hP1 hD1
  generalize H1 = H at hP hS ⊢
  have hP : va_P (dC, dI) vwCl [(h0, .inr (7, [.ref x0, .ref x1])), (x1, .inl (cI, 721, .inl f))] H := hP
  have hD : va_D A [(h0, .inr (7, [.ref x0, .ref x1])), (x1, .inl (cI, 721, .inl f))] := hD
  by_cases c_2 : 0 ≤ p1.toInt ∧ p1.toInt < 10 ∧ 0 ≤ p2.toInt ∧ p2.toInt < 10
  · obtain rfl : r_1 = 1 := hw.trans (if_pos c_2)
    refine lv_if_eq (tgt := 31) hx hb dX7_changeWeather_5 (by decide) (fun c_3 => absurd c_3 (by decide)) (fun c_3 => ?_)
    refine lv_iload_n hx hb dX7_changeWeather_8 rfl (lv_at hl 1 rfl) ?_
    refine lv_if_lt (tgt := 31) hx hb dX7_changeWeather_9 (by decide) (fun c_4 => ?_) (fun c_4 => ?_)
    · have hP9 := hP.sub (ws' := []) [] rfl
      have hD9 := hD.sub (ws' := []) [] (by decide) rfl
      exact W.vret hx hb hr (fun t ht hW => ⟨⟨(), rfl, trivial, by rw [ht]; exact hP9, va_K.moved hW.alike hK, hD9⟩, hS.F ht⟩) hS.2.2 dX7_changeWeather_31
    · refine lv_iload_n hx hb dX7_changeWeather_12 rfl (lv_at hl 1 rfl) ?_
      refine lv_sipush (v := 720) hx hb dX7_changeWeather_13 (by decide) ?_
      refine lv_icmp_gt (tgt := 31) hx hb dX7_changeWeather_16 (by decide) (fun c_5 => ?_) (fun c_5 => ?_)
      · have hP9 := hP.sub (ws' := []) [] rfl
        have hD9 := hD.sub (ws' := []) [] (by decide) rfl
        exact W.vret hx hb hr (fun t ht hW => ⟨⟨(), rfl, trivial, by rw [ht]; exact hP9, va_K.moved hW.alike hK, hD9⟩, hS.F ht⟩) hS.2.2 dX7_changeWeather_31
      · refine lv_aload_n hx hb dX7_changeWeather_19 rfl (lv_at hl 0 rfl) ?_
        refine va_get (D := (dC, dI)) (ci := 7) (v := .ref x1) (C := RX7) (T := TX7) (N := 2) hx hb hts hu7 hown hK hP 0 rfl rfl 1 (by decide) (hts (.fieldLink RX7 15 "GrazeBook$Year" "skies" "[I") (by decide +kernel)) (fun _ h9 => h9) rfl dX7_changeWeather_20 ?_
        refine lv_iload_n hx hb dX7_changeWeather_23 rfl (lv_at hl 1 rfl) ?_
        refine lv_iload_n hx hb dX7_changeWeather_24 rfl (lv_at hl 2 rfl) ?_
        refine lv_bipush (v := 10) hx hb dX7_changeWeather_25 (by decide) ?_
        refine lv_imul hx hb dX7_changeWeather_27 ?_
        refine lv_topi (fun v_6 ev_6 => ?_)
        refine lv_iload_n hx hb dX7_changeWeather_28 rfl (lv_at hl 3 rfl) ?_
        refine lv_iadd hx hb dX7_changeWeather_29 ?_
        refine lv_topi (fun v_7 ev_7 => ?_)
        refine va_iast hx hb hK hP hD hS 1 0 rfl rfl (by rw [vp_in_iff]; (try simp only [fa_lt, fa_le, fa_eq, ti_m9, ti_m8, ti_m7, ti_m6, ti_m5, ti_m4, ti_m3, ti_m2, ti_m1, ti_0, ti_1, ti_2, ti_3, ti_4, ti_5, ti_6, ti_7, ti_8, ti_9, ti_10, ti_11, ti_12, ti_13, ti_14, ti_15, ti_16, ti_17, ti_18, ti_19, ti_20, ti_21, ti_31, ti_32, ti_720, ti_1000, ti_10000, ti_100000] at c_2 c_4 c_5); omega) dX7_changeWeather_30 (fun H locs hP hD hS => ?_)
        generalize hgg_8 : upd _ _ _ = g_8 at hP hD
        have hP : va_P (dC, dI) vwCl [(h0, .inr (7, [.ref x0, .ref x1])), (x1, .inl (cI, 721, .inl g_8))] H := hP
        have hD : va_D A [(h0, .inr (7, [.ref x0, .ref x1])), (x1, .inl (cI, 721, .inl g_8))] := hD
        have hP9 := hP.sub (ws' := []) [] rfl
        have hD9 := hD.sub (ws' := []) [] (by decide) rfl
        exact W.vret hx hb hr (fun t ht hW => ⟨⟨(), rfl, trivial, by rw [ht]; exact hP9, va_K.moved hW.alike hK, hD9⟩, hS.F ht⟩) hS.2.2 dX7_changeWeather_31
  · obtain rfl : r_1 = 0 := hw.trans (if_neg c_2)
    refine lv_if_eq (tgt := 31) hx hb dX7_changeWeather_5 (by decide) (fun c_9 => ?_) (fun c_9 => absurd (by decide) c_9)
    have hP9 := hP.sub (ws' := []) [] rfl
    have hD9 := hD.sub (ws' := []) [] (by decide) rfl
    exact W.vret hx hb hr (fun t ht hW => ⟨⟨(), rfl, trivial, by rw [ht]; exact hP9, va_K.moved hW.alike hK, hD9⟩, hS.F ht⟩) hS.2.2 dX7_changeWeather_31

set_option maxHeartbeats 1000000 in
set_option maxRecDepth 100000 in
theorem c_X4_init_0 (l : Launch) (dC : Nat → ClassId) (dI : Nat → Nat → Nat) (cI cZ cG cP cC cD cQ : ClassId) (h0 : Nat) (p0 : Int32) (p1 : Int32) (p2 : Int32) (sz : Nat)  : Met l yX4_init wsX4_init ({ frames := 1, cells := 0, slots := 0, locals := 12 }) (va_Pc [.ref h0, .int p0, .int p1, .int p2, .int 0] (fun U => U.heap.size = sz ∧ va_P (dC, dI) vwCl [(h0, .inr (4, [.int 0, .int 0, .int 0, .int 0, .int 0, .int 0]))] U.heap ∧ va_K (dC, dI) vwCl [(cI, .int), (cZ, .boolean), (cG, .object "GrazeBook$Ground"), (cP, .object "GrazeBook$Purse"), (cC, .object "GrazeBook$Claim"), (cD, .object "GrazeBook$Drove"), (cQ, .array .int)] U ∧ va_D (fun _ => True) [(h0, .inr (4, [.int 0, .int 0, .int 0, .int 0, .int 0, .int 0]))])) (va_Qv (fun _ : Unit => True) (fun (_ : Unit) (t : State) => va_P (dC, dI) vwCl [(h0, .inr (4, [.int p1, .int p2, .int 0, .int p0, .int (-1), .int 0]))] t.heap ∧ va_K (dC, dI) vwCl [(cI, .int), (cZ, .boolean), (cG, .object "GrazeBook$Ground"), (cP, .object "GrazeBook$Purse"), (cC, .object "GrazeBook$Claim"), (cD, .object "GrazeBook$Drove"), (cQ, .array .int)] t ∧ va_D (va_A [(h0, .inr (4, [.int 0, .int 0, .int 0, .int 0, .int 0, .int 0]))] sz) [(h0, .inr (4, [.int p1, .int p2, .int 0, .int p0, .int (-1), .int 0]))]) (va_A [(h0, .inr (4, [.int 0, .int 0, .int 0, .int 0, .int 0, .int 0]))] sz)) 0 0 (va_A [(h0, .inr (4, [.int 0, .int 0, .int 0, .int 0, .int 0, .int 0]))] sz) := by
  refine Met.ofW (cc := cX4_init) (maxL := 5) (ret := none) (by decide) rfl ?_
  intro p e s m args below meth c s₁ B hml hv
  obtain ⟨rfl, hsz, hP, hK, hD0⟩ := hv
  have hx := B.exec
  have hb := B.bytes
  have hr := B.returns
  have hts := atoms_spec (ws := wsX4_init) B.pre
  have hown : s.vm.findClass RX4 = some m.cls := findClass_of_methodNamed B.named
  have hlocks := B.notSynchronized
  have hin : meth.name = "<init>" := (name_of_methodNamed B.named B.method).1
  have hu4 : ∀ w ∈ u_ws RX4 TX4 6, w ∈ wsX4_init := by decide +kernel
  subst hsz
  have hD := hD0.self (sz := s.heap.size)
  generalize hAe : va_A [(h0, .inr (4, [.int 0, .int 0, .int 0, .int 0, .int 0, .int 0]))] s.heap.size = A at hD ⊢
  have hA : ∀ q : Nat, s.heap.size ≤ q → A q := fun q h => by rw [← hAe]; exact Or.inr h
  have hS : va_S A s.heap s.heap [] := va_S.rf
  have hl := lv_entry ([.ref h0, .int p0, .int p1, .int p2, .int 0]) (n := 5) (Nat.le_of_ble_eq_true rfl)
  rw [lg_entry_eq]
  generalize (lg_sl ([.ref h0, .int p0, .int p1, .int p2, .int 0]) ++ List.replicate (5 - (lg_sl ([.ref h0, .int p0, .int p1, .int p2, .int 0])).length) Slot.unset).toArray = ls at hl ⊢
  have hl : lv_has ls 5 [(0, .ref h0), (1, .int p0), (2, .int p1), (3, .int p2), (4, .int 0)] := hl
  obtain ⟨H, hH⟩ : ∃ H, H = s.heap := ⟨_, rfl⟩
  have hP : va_P (dC, dI) vwCl [(h0, .inr (4, [.int 0, .int 0, .int 0, .int 0, .int 0, .int 0]))] H := by rw [hH]; exact hP
  have hS : va_S A s.heap H [] := by rw [hH]; exact hS
  show W _ _ _ _ _ _ _ _ _ _ s.heap _ _ _ _ _
  rw [← hH]
  refine lv_aload_n hx hb dX4_init_0 rfl (lv_at hl 0 rfl) ?_
  refine W.objInit hx hb hown (hts (.methodLink RX4 1 objectInit) (by decide +kernel)) (hts (.instanceMethod objectInit) (by decide +kernel)) (hts _ (List.mem_of_getElem? (i := 3) rfl)) rfl (by rw [hml]; exact hl.1) rfl dX4_init_1 (Nat.le_of_ble_eq_true rfl) (Nat.le_of_ble_eq_true rfl) ?_
  refine W.eq (g2 := F0 m 4 ls []) rfl ?_
  refine lv_aload_n hx hb dX4_init_4 rfl (lv_at hl 0 rfl) ?_
  refine lv_iconst (v := (-1)) hx hb dX4_init_5 (by decide) ?_
  refine va_put (D := (dC, dI)) (ci := 4) (v := .int (-1)) (ty := .int) (C := RX4) (T := TX4) (N := 6) hx hb hts hu4 tyX4 tyX4_ok nmX4 hown hK hP hD hS 0 rfl rfl 4 (by decide) (hts (.fieldLink RX4 7 "GrazeBook$Ground" "rest" "I") (by decide +kernel)) (fun _ h9 => h9) rfl (by decide +kernel) rfl rfl (Nat.le_of_ble_eq_true rfl) dX4_init_6 (fun H locs hP hD hS => ?_)
  have hP : va_P (dC, dI) vwCl [(h0, .inr (4, [.int 0, .int 0, .int 0, .int 0, .int (-1), .int 0]))] H := hP
  have hD : va_D A [(h0, .inr (4, [.int 0, .int 0, .int 0, .int 0, .int (-1), .int 0]))] := hD
  refine lv_aload_n hx hb dX4_init_9 rfl (lv_at hl 0 rfl) ?_
  refine lv_iconst (v := 0) hx hb dX4_init_10 (by decide) ?_
  refine va_put (D := (dC, dI)) (ci := 4) (v := .int 0) (ty := .int) (C := RX4) (T := TX4) (N := 6) hx hb hts hu4 tyX4 tyX4_ok nmX4 hown hK hP hD hS 0 rfl rfl 5 (by decide) (hts (.fieldLink RX4 13 "GrazeBook$Ground" "eaten" "I") (by decide +kernel)) (fun _ h9 => h9) rfl (by decide +kernel) rfl rfl (Nat.le_of_ble_eq_true rfl) dX4_init_11 (fun H locs hP hD hS => ?_)
  have hP : va_P (dC, dI) vwCl [(h0, .inr (4, [.int 0, .int 0, .int 0, .int 0, .int (-1), .int 0]))] H := hP
  have hD : va_D A [(h0, .inr (4, [.int 0, .int 0, .int 0, .int 0, .int (-1), .int 0]))] := hD
  refine lv_aload_n hx hb dX4_init_14 rfl (lv_at hl 0 rfl) ?_
  refine lv_iload_n hx hb dX4_init_15 rfl (lv_at hl 1 rfl) ?_
  refine va_put (D := (dC, dI)) (ci := 4) (v := .int p0) (ty := .int) (C := RX4) (T := TX4) (N := 6) hx hb hts hu4 tyX4 tyX4_ok nmX4 hown hK hP hD hS 0 rfl rfl 3 (by decide) (hts (.fieldLink RX4 16 "GrazeBook$Ground" "grass" "I") (by decide +kernel)) (fun _ h9 => h9) rfl (by decide +kernel) rfl rfl (Nat.le_of_ble_eq_true rfl) dX4_init_16 (fun H locs hP hD hS => ?_)
  have hP : va_P (dC, dI) vwCl [(h0, .inr (4, [.int 0, .int 0, .int 0, .int p0, .int (-1), .int 0]))] H := hP
  have hD : va_D A [(h0, .inr (4, [.int 0, .int 0, .int 0, .int p0, .int (-1), .int 0]))] := hD
  refine lv_aload_n hx hb dX4_init_19 rfl (lv_at hl 0 rfl) ?_
  refine lv_iload_n hx hb dX4_init_20 rfl (lv_at hl 2 rfl) ?_
  refine va_putF (D := (dC, dI)) (ci := 4) (v := .int p1) (ty := .int) (C := RX4) (T := TX4) (N := 6) hx hb hts hu4 tyX4 tyX4_ok nmX4 hown hK hP hD hS 0 rfl rfl 0 (by decide) (hts (.fieldLink RX4 19 "GrazeBook$Ground" "full" "I") (by decide +kernel)) (fun _ h9 => h9) rfl hin rfl (by decide +kernel) rfl rfl (Nat.le_of_ble_eq_true rfl) dX4_init_21 (fun H locs hP hD hS => ?_)
  have hP : va_P (dC, dI) vwCl [(h0, .inr (4, [.int p1, .int 0, .int 0, .int p0, .int (-1), .int 0]))] H := hP
  have hD : va_D A [(h0, .inr (4, [.int p1, .int 0, .int 0, .int p0, .int (-1), .int 0]))] := hD
  refine lv_aload_n hx hb dX4_init_24 rfl (lv_at hl 0 rfl) ?_
  refine lv_iload_n hx hb dX4_init_25 rfl (lv_at hl 3 rfl) ?_
  refine va_putF (D := (dC, dI)) (ci := 4) (v := .int p2) (ty := .int) (C := RX4) (T := TX4) (N := 6) hx hb hts hu4 tyX4 tyX4_ok nmX4 hown hK hP hD hS 0 rfl rfl 1 (by decide) (hts (.fieldLink RX4 22 "GrazeBook$Ground" "bears" "I") (by decide +kernel)) (fun _ h9 => h9) rfl hin rfl (by decide +kernel) rfl rfl (Nat.le_of_ble_eq_true rfl) dX4_init_26 (fun H locs hP hD hS => ?_)
  have hP : va_P (dC, dI) vwCl [(h0, .inr (4, [.int p1, .int p2, .int 0, .int p0, .int (-1), .int 0]))] H := hP
  have hD : va_D A [(h0, .inr (4, [.int p1, .int p2, .int 0, .int p0, .int (-1), .int 0]))] := hD
  refine lv_aload_n hx hb dX4_init_29 rfl (lv_at hl 0 rfl) ?_
  refine lv_iload hx hb dX4_init_30 (lv_at hl 4 rfl) ?_
  refine va_putF (D := (dC, dI)) (ci := 4) (v := .int 0) (ty := .boolean) (C := RX4) (T := TX4) (N := 6) hx hb hts hu4 tyX4 tyX4_ok nmX4 hown hK hP hD hS 0 rfl rfl 2 (by decide) (hts (.fieldLink RX4 25 "GrazeBook$Ground" "water" "Z") (by decide +kernel)) (fun _ h9 => h9) rfl hin rfl (by decide +kernel) rfl rfl (Nat.le_of_ble_eq_true rfl) dX4_init_32 (fun H locs hP hD hS => ?_)
  have hP : va_P (dC, dI) vwCl [(h0, .inr (4, [.int p1, .int p2, .int 0, .int p0, .int (-1), .int 0]))] H := hP
  have hD : va_D A [(h0, .inr (4, [.int p1, .int p2, .int 0, .int p0, .int (-1), .int 0]))] := hD
  have hP9 := hP.sub (ws' := [(h0, .inr (4, [.int p1, .int p2, .int 0, .int p0, .int (-1), .int 0]))]) [0] rfl
  have hD9 := hD.sub (ws' := [(h0, .inr (4, [.int p1, .int p2, .int 0, .int p0, .int (-1), .int 0]))]) [0] (by decide) rfl
  exact W.vret hx hb hr (fun t ht hW => ⟨⟨(), rfl, trivial, by rw [ht]; exact hP9, va_K.moved hW.alike hK, hD9⟩, hS.F ht⟩) hS.2.2 dX4_init_35

set_option maxHeartbeats 1000000 in
set_option maxRecDepth 100000 in
theorem c_X4_init_1 (l : Launch) (dC : Nat → ClassId) (dI : Nat → Nat → Nat) (cI cZ cG cP cC cD cQ : ClassId) (h0 : Nat) (p0 : Int32) (p1 : Int32) (p2 : Int32) (sz : Nat)  : Met l yX4_init wsX4_init ({ frames := 1, cells := 0, slots := 0, locals := 12 }) (va_Pc [.ref h0, .int p0, .int p1, .int p2, .int 1] (fun U => U.heap.size = sz ∧ va_P (dC, dI) vwCl [(h0, .inr (4, [.int 0, .int 0, .int 0, .int 0, .int 0, .int 0]))] U.heap ∧ va_K (dC, dI) vwCl [(cI, .int), (cZ, .boolean), (cG, .object "GrazeBook$Ground"), (cP, .object "GrazeBook$Purse"), (cC, .object "GrazeBook$Claim"), (cD, .object "GrazeBook$Drove"), (cQ, .array .int)] U ∧ va_D (fun _ => True) [(h0, .inr (4, [.int 0, .int 0, .int 0, .int 0, .int 0, .int 0]))])) (va_Qv (fun _ : Unit => True) (fun (_ : Unit) (t : State) => va_P (dC, dI) vwCl [(h0, .inr (4, [.int p1, .int p2, .int 1, .int p0, .int (-1), .int 0]))] t.heap ∧ va_K (dC, dI) vwCl [(cI, .int), (cZ, .boolean), (cG, .object "GrazeBook$Ground"), (cP, .object "GrazeBook$Purse"), (cC, .object "GrazeBook$Claim"), (cD, .object "GrazeBook$Drove"), (cQ, .array .int)] t ∧ va_D (va_A [(h0, .inr (4, [.int 0, .int 0, .int 0, .int 0, .int 0, .int 0]))] sz) [(h0, .inr (4, [.int p1, .int p2, .int 1, .int p0, .int (-1), .int 0]))]) (va_A [(h0, .inr (4, [.int 0, .int 0, .int 0, .int 0, .int 0, .int 0]))] sz)) 0 0 (va_A [(h0, .inr (4, [.int 0, .int 0, .int 0, .int 0, .int 0, .int 0]))] sz) := by
  refine Met.ofW (cc := cX4_init) (maxL := 5) (ret := none) (by decide) rfl ?_
  intro p e s m args below meth c s₁ B hml hv
  obtain ⟨rfl, hsz, hP, hK, hD0⟩ := hv
  have hx := B.exec
  have hb := B.bytes
  have hr := B.returns
  have hts := atoms_spec (ws := wsX4_init) B.pre
  have hown : s.vm.findClass RX4 = some m.cls := findClass_of_methodNamed B.named
  have hlocks := B.notSynchronized
  have hin : meth.name = "<init>" := (name_of_methodNamed B.named B.method).1
  have hu4 : ∀ w ∈ u_ws RX4 TX4 6, w ∈ wsX4_init := by decide +kernel
  subst hsz
  have hD := hD0.self (sz := s.heap.size)
  generalize hAe : va_A [(h0, .inr (4, [.int 0, .int 0, .int 0, .int 0, .int 0, .int 0]))] s.heap.size = A at hD ⊢
  have hA : ∀ q : Nat, s.heap.size ≤ q → A q := fun q h => by rw [← hAe]; exact Or.inr h
  have hS : va_S A s.heap s.heap [] := va_S.rf
  have hl := lv_entry ([.ref h0, .int p0, .int p1, .int p2, .int 1]) (n := 5) (Nat.le_of_ble_eq_true rfl)
  rw [lg_entry_eq]
  generalize (lg_sl ([.ref h0, .int p0, .int p1, .int p2, .int 1]) ++ List.replicate (5 - (lg_sl ([.ref h0, .int p0, .int p1, .int p2, .int 1])).length) Slot.unset).toArray = ls at hl ⊢
  have hl : lv_has ls 5 [(0, .ref h0), (1, .int p0), (2, .int p1), (3, .int p2), (4, .int 1)] := hl
  obtain ⟨H, hH⟩ : ∃ H, H = s.heap := ⟨_, rfl⟩
  have hP : va_P (dC, dI) vwCl [(h0, .inr (4, [.int 0, .int 0, .int 0, .int 0, .int 0, .int 0]))] H := by rw [hH]; exact hP
  have hS : va_S A s.heap H [] := by rw [hH]; exact hS
  show W _ _ _ _ _ _ _ _ _ _ s.heap _ _ _ _ _
  rw [← hH]
  refine lv_aload_n hx hb dX4_init_0 rfl (lv_at hl 0 rfl) ?_
  refine W.objInit hx hb hown (hts (.methodLink RX4 1 objectInit) (by decide +kernel)) (hts (.instanceMethod objectInit) (by decide +kernel)) (hts _ (List.mem_of_getElem? (i := 3) rfl)) rfl (by rw [hml]; exact hl.1) rfl dX4_init_1 (Nat.le_of_ble_eq_true rfl) (Nat.le_of_ble_eq_true rfl) ?_
  refine W.eq (g2 := F0 m 4 ls []) rfl ?_
  refine lv_aload_n hx hb dX4_init_4 rfl (lv_at hl 0 rfl) ?_
  refine lv_iconst (v := (-1)) hx hb dX4_init_5 (by decide) ?_
  refine va_put (D := (dC, dI)) (ci := 4) (v := .int (-1)) (ty := .int) (C := RX4) (T := TX4) (N := 6) hx hb hts hu4 tyX4 tyX4_ok nmX4 hown hK hP hD hS 0 rfl rfl 4 (by decide) (hts (.fieldLink RX4 7 "GrazeBook$Ground" "rest" "I") (by decide +kernel)) (fun _ h9 => h9) rfl (by decide +kernel) rfl rfl (Nat.le_of_ble_eq_true rfl) dX4_init_6 (fun H locs hP hD hS => ?_)
  have hP : va_P (dC, dI) vwCl [(h0, .inr (4, [.int 0, .int 0, .int 0, .int 0, .int (-1), .int 0]))] H := hP
  have hD : va_D A [(h0, .inr (4, [.int 0, .int 0, .int 0, .int 0, .int (-1), .int 0]))] := hD
  refine lv_aload_n hx hb dX4_init_9 rfl (lv_at hl 0 rfl) ?_
  refine lv_iconst (v := 0) hx hb dX4_init_10 (by decide) ?_
  refine va_put (D := (dC, dI)) (ci := 4) (v := .int 0) (ty := .int) (C := RX4) (T := TX4) (N := 6) hx hb hts hu4 tyX4 tyX4_ok nmX4 hown hK hP hD hS 0 rfl rfl 5 (by decide) (hts (.fieldLink RX4 13 "GrazeBook$Ground" "eaten" "I") (by decide +kernel)) (fun _ h9 => h9) rfl (by decide +kernel) rfl rfl (Nat.le_of_ble_eq_true rfl) dX4_init_11 (fun H locs hP hD hS => ?_)
  have hP : va_P (dC, dI) vwCl [(h0, .inr (4, [.int 0, .int 0, .int 0, .int 0, .int (-1), .int 0]))] H := hP
  have hD : va_D A [(h0, .inr (4, [.int 0, .int 0, .int 0, .int 0, .int (-1), .int 0]))] := hD
  refine lv_aload_n hx hb dX4_init_14 rfl (lv_at hl 0 rfl) ?_
  refine lv_iload_n hx hb dX4_init_15 rfl (lv_at hl 1 rfl) ?_
  refine va_put (D := (dC, dI)) (ci := 4) (v := .int p0) (ty := .int) (C := RX4) (T := TX4) (N := 6) hx hb hts hu4 tyX4 tyX4_ok nmX4 hown hK hP hD hS 0 rfl rfl 3 (by decide) (hts (.fieldLink RX4 16 "GrazeBook$Ground" "grass" "I") (by decide +kernel)) (fun _ h9 => h9) rfl (by decide +kernel) rfl rfl (Nat.le_of_ble_eq_true rfl) dX4_init_16 (fun H locs hP hD hS => ?_)
  have hP : va_P (dC, dI) vwCl [(h0, .inr (4, [.int 0, .int 0, .int 0, .int p0, .int (-1), .int 0]))] H := hP
  have hD : va_D A [(h0, .inr (4, [.int 0, .int 0, .int 0, .int p0, .int (-1), .int 0]))] := hD
  refine lv_aload_n hx hb dX4_init_19 rfl (lv_at hl 0 rfl) ?_
  refine lv_iload_n hx hb dX4_init_20 rfl (lv_at hl 2 rfl) ?_
  refine va_putF (D := (dC, dI)) (ci := 4) (v := .int p1) (ty := .int) (C := RX4) (T := TX4) (N := 6) hx hb hts hu4 tyX4 tyX4_ok nmX4 hown hK hP hD hS 0 rfl rfl 0 (by decide) (hts (.fieldLink RX4 19 "GrazeBook$Ground" "full" "I") (by decide +kernel)) (fun _ h9 => h9) rfl hin rfl (by decide +kernel) rfl rfl (Nat.le_of_ble_eq_true rfl) dX4_init_21 (fun H locs hP hD hS => ?_)
  have hP : va_P (dC, dI) vwCl [(h0, .inr (4, [.int p1, .int 0, .int 0, .int p0, .int (-1), .int 0]))] H := hP
  have hD : va_D A [(h0, .inr (4, [.int p1, .int 0, .int 0, .int p0, .int (-1), .int 0]))] := hD
  refine lv_aload_n hx hb dX4_init_24 rfl (lv_at hl 0 rfl) ?_
  refine lv_iload_n hx hb dX4_init_25 rfl (lv_at hl 3 rfl) ?_
  refine va_putF (D := (dC, dI)) (ci := 4) (v := .int p2) (ty := .int) (C := RX4) (T := TX4) (N := 6) hx hb hts hu4 tyX4 tyX4_ok nmX4 hown hK hP hD hS 0 rfl rfl 1 (by decide) (hts (.fieldLink RX4 22 "GrazeBook$Ground" "bears" "I") (by decide +kernel)) (fun _ h9 => h9) rfl hin rfl (by decide +kernel) rfl rfl (Nat.le_of_ble_eq_true rfl) dX4_init_26 (fun H locs hP hD hS => ?_)
  have hP : va_P (dC, dI) vwCl [(h0, .inr (4, [.int p1, .int p2, .int 0, .int p0, .int (-1), .int 0]))] H := hP
  have hD : va_D A [(h0, .inr (4, [.int p1, .int p2, .int 0, .int p0, .int (-1), .int 0]))] := hD
  refine lv_aload_n hx hb dX4_init_29 rfl (lv_at hl 0 rfl) ?_
  refine lv_iload hx hb dX4_init_30 (lv_at hl 4 rfl) ?_
  refine va_putF (D := (dC, dI)) (ci := 4) (v := .int 1) (ty := .boolean) (C := RX4) (T := TX4) (N := 6) hx hb hts hu4 tyX4 tyX4_ok nmX4 hown hK hP hD hS 0 rfl rfl 2 (by decide) (hts (.fieldLink RX4 25 "GrazeBook$Ground" "water" "Z") (by decide +kernel)) (fun _ h9 => h9) rfl hin rfl (by decide +kernel) rfl rfl (Nat.le_of_ble_eq_true rfl) dX4_init_32 (fun H locs hP hD hS => ?_)
  have hP : va_P (dC, dI) vwCl [(h0, .inr (4, [.int p1, .int p2, .int 1, .int p0, .int (-1), .int 0]))] H := hP
  have hD : va_D A [(h0, .inr (4, [.int p1, .int p2, .int 1, .int p0, .int (-1), .int 0]))] := hD
  have hP9 := hP.sub (ws' := [(h0, .inr (4, [.int p1, .int p2, .int 1, .int p0, .int (-1), .int 0]))]) [0] rfl
  have hD9 := hD.sub (ws' := [(h0, .inr (4, [.int p1, .int p2, .int 1, .int p0, .int (-1), .int 0]))]) [0] (by decide) rfl
  exact W.vret hx hb hr (fun t ht hW => ⟨⟨(), rfl, trivial, by rw [ht]; exact hP9, va_K.moved hW.alike hK, hD9⟩, hS.F ht⟩) hS.2.2 dX4_init_35

set_option maxHeartbeats 1000000 in
set_option maxRecDepth 100000 in
theorem c_X5_init (l : Launch) (dC : Nat → ClassId) (dI : Nat → Nat → Nat) (cI cZ cG cP cC cD cQ : ClassId) (h0 : Nat) (p0 : Int32) (sz : Nat)  : Met l yX5_init wsX5_init ({ frames := 1, cells := 0, slots := 0, locals := 12 }) (va_Pc [.ref h0, .int p0] (fun U => U.heap.size = sz ∧ va_P (dC, dI) vwCl [(h0, .inr (5, [.int 0, .int 0]))] U.heap ∧ va_K (dC, dI) vwCl [(cI, .int), (cZ, .boolean), (cG, .object "GrazeBook$Ground"), (cP, .object "GrazeBook$Purse"), (cC, .object "GrazeBook$Claim"), (cD, .object "GrazeBook$Drove"), (cQ, .array .int)] U ∧ va_D (fun _ => True) [(h0, .inr (5, [.int 0, .int 0]))])) (va_Qv (fun _ : Unit => True) (fun (_ : Unit) (t : State) => va_P (dC, dI) vwCl [(h0, .inr (5, [.int p0, .int 0]))] t.heap ∧ va_K (dC, dI) vwCl [(cI, .int), (cZ, .boolean), (cG, .object "GrazeBook$Ground"), (cP, .object "GrazeBook$Purse"), (cC, .object "GrazeBook$Claim"), (cD, .object "GrazeBook$Drove"), (cQ, .array .int)] t ∧ va_D (va_A [(h0, .inr (5, [.int 0, .int 0]))] sz) [(h0, .inr (5, [.int p0, .int 0]))]) (va_A [(h0, .inr (5, [.int 0, .int 0]))] sz)) 0 0 (va_A [(h0, .inr (5, [.int 0, .int 0]))] sz) := by
  refine Met.ofW (cc := cX5_init) (maxL := 2) (ret := none) (by decide) rfl ?_
  intro p e s m args below meth c s₁ B hml hv
  obtain ⟨rfl, hsz, hP, hK, hD0⟩ := hv
  have hx := B.exec
  have hb := B.bytes
  have hr := B.returns
  have hts := atoms_spec (ws := wsX5_init) B.pre
  have hown : s.vm.findClass RX5 = some m.cls := findClass_of_methodNamed B.named
  have hlocks := B.notSynchronized
  have hin : meth.name = "<init>" := (name_of_methodNamed B.named B.method).1
  have hu5 : ∀ w ∈ u_ws RX5 TX5 2, w ∈ wsX5_init := by decide +kernel
  subst hsz
  have hD := hD0.self (sz := s.heap.size)
  generalize hAe : va_A [(h0, .inr (5, [.int 0, .int 0]))] s.heap.size = A at hD ⊢
  have hA : ∀ q : Nat, s.heap.size ≤ q → A q := fun q h => by rw [← hAe]; exact Or.inr h
  have hS : va_S A s.heap s.heap [] := va_S.rf
  have hl := lv_entry ([.ref h0, .int p0]) (n := 2) (Nat.le_of_ble_eq_true rfl)
  rw [lg_entry_eq]
  generalize (lg_sl ([.ref h0, .int p0]) ++ List.replicate (2 - (lg_sl ([.ref h0, .int p0])).length) Slot.unset).toArray = ls at hl ⊢
  have hl : lv_has ls 2 [(0, .ref h0), (1, .int p0)] := hl
  obtain ⟨H, hH⟩ : ∃ H, H = s.heap := ⟨_, rfl⟩
  have hP : va_P (dC, dI) vwCl [(h0, .inr (5, [.int 0, .int 0]))] H := by rw [hH]; exact hP
  have hS : va_S A s.heap H [] := by rw [hH]; exact hS
  show W _ _ _ _ _ _ _ _ _ _ s.heap _ _ _ _ _
  rw [← hH]
  refine lv_aload_n hx hb dX5_init_0 rfl (lv_at hl 0 rfl) ?_
  refine W.objInit hx hb hown (hts (.methodLink RX5 1 objectInit) (by decide +kernel)) (hts (.instanceMethod objectInit) (by decide +kernel)) (hts _ (List.mem_of_getElem? (i := 3) rfl)) rfl (by rw [hml]; exact hl.1) rfl dX5_init_1 (Nat.le_of_ble_eq_true rfl) (Nat.le_of_ble_eq_true rfl) ?_
  refine W.eq (g2 := F0 m 4 ls []) rfl ?_
  refine lv_aload_n hx hb dX5_init_4 rfl (lv_at hl 0 rfl) ?_
  refine lv_iconst (v := 0) hx hb dX5_init_5 (by decide) ?_
  refine va_put (D := (dC, dI)) (ci := 5) (v := .int 0) (ty := .int) (C := RX5) (T := TX5) (N := 2) hx hb hts hu5 tyX5 tyX5_ok nmX5 hown hK hP hD hS 0 rfl rfl 1 (by decide) (hts (.fieldLink RX5 7 "GrazeBook$Purse" "hay" "I") (by decide +kernel)) (fun _ h9 => h9) rfl (by decide +kernel) rfl rfl (Nat.le_of_ble_eq_true rfl) dX5_init_6 (fun H locs hP hD hS => ?_)
  have hP : va_P (dC, dI) vwCl [(h0, .inr (5, [.int 0, .int 0]))] H := hP
  have hD : va_D A [(h0, .inr (5, [.int 0, .int 0]))] := hD
  refine lv_aload_n hx hb dX5_init_9 rfl (lv_at hl 0 rfl) ?_
  refine lv_iload_n hx hb dX5_init_10 rfl (lv_at hl 1 rfl) ?_
  refine va_put (D := (dC, dI)) (ci := 5) (v := .int p0) (ty := .int) (C := RX5) (T := TX5) (N := 2) hx hb hts hu5 tyX5 tyX5_ok nmX5 hown hK hP hD hS 0 rfl rfl 0 (by decide) (hts (.fieldLink RX5 13 "GrazeBook$Purse" "coins" "I") (by decide +kernel)) (fun _ h9 => h9) rfl (by decide +kernel) rfl rfl (Nat.le_of_ble_eq_true rfl) dX5_init_11 (fun H locs hP hD hS => ?_)
  have hP : va_P (dC, dI) vwCl [(h0, .inr (5, [.int p0, .int 0]))] H := hP
  have hD : va_D A [(h0, .inr (5, [.int p0, .int 0]))] := hD
  have hP9 := hP.sub (ws' := [(h0, .inr (5, [.int p0, .int 0]))]) [0] rfl
  have hD9 := hD.sub (ws' := [(h0, .inr (5, [.int p0, .int 0]))]) [0] (by decide) rfl
  exact W.vret hx hb hr (fun t ht hW => ⟨⟨(), rfl, trivial, by rw [ht]; exact hP9, va_K.moved hW.alike hK, hD9⟩, hS.F ht⟩) hS.2.2 dX5_init_14

set_option maxHeartbeats 1000000 in
set_option maxRecDepth 100000 in
theorem c_X5_init0 (l : Launch) (dC : Nat → ClassId) (dI : Nat → Nat → Nat) (cI cZ cG cP cC cD cQ : ClassId) (h0 : Nat) (sz : Nat)  : Met l yX5_init wsX5_init ({ frames := 1, cells := 0, slots := 0, locals := 12 }) (va_Pc [.ref h0, .int 0] (fun U => U.heap.size = sz ∧ va_P (dC, dI) vwCl [(h0, .inr (5, [.int 0, .int 0]))] U.heap ∧ va_K (dC, dI) vwCl [(cI, .int), (cZ, .boolean), (cG, .object "GrazeBook$Ground"), (cP, .object "GrazeBook$Purse"), (cC, .object "GrazeBook$Claim"), (cD, .object "GrazeBook$Drove"), (cQ, .array .int)] U ∧ va_D (fun _ => True) [(h0, .inr (5, [.int 0, .int 0]))])) (va_Qv (fun _ : Unit => True) (fun (_ : Unit) (t : State) => va_P (dC, dI) vwCl [(h0, .inr (5, [.int 0, .int 0]))] t.heap ∧ va_K (dC, dI) vwCl [(cI, .int), (cZ, .boolean), (cG, .object "GrazeBook$Ground"), (cP, .object "GrazeBook$Purse"), (cC, .object "GrazeBook$Claim"), (cD, .object "GrazeBook$Drove"), (cQ, .array .int)] t ∧ va_D (va_A [(h0, .inr (5, [.int 0, .int 0]))] sz) [(h0, .inr (5, [.int 0, .int 0]))]) (va_A [(h0, .inr (5, [.int 0, .int 0]))] sz)) 0 0 (va_A [(h0, .inr (5, [.int 0, .int 0]))] sz) := by
  refine Met.ofW (cc := cX5_init) (maxL := 2) (ret := none) (by decide) rfl ?_
  intro p e s m args below meth c s₁ B hml hv
  obtain ⟨rfl, hsz, hP, hK, hD0⟩ := hv
  have hx := B.exec
  have hb := B.bytes
  have hr := B.returns
  have hts := atoms_spec (ws := wsX5_init) B.pre
  have hown : s.vm.findClass RX5 = some m.cls := findClass_of_methodNamed B.named
  have hlocks := B.notSynchronized
  have hin : meth.name = "<init>" := (name_of_methodNamed B.named B.method).1
  have hu5 : ∀ w ∈ u_ws RX5 TX5 2, w ∈ wsX5_init := by decide +kernel
  subst hsz
  have hD := hD0.self (sz := s.heap.size)
  generalize hAe : va_A [(h0, .inr (5, [.int 0, .int 0]))] s.heap.size = A at hD ⊢
  have hA : ∀ q : Nat, s.heap.size ≤ q → A q := fun q h => by rw [← hAe]; exact Or.inr h
  have hS : va_S A s.heap s.heap [] := va_S.rf
  have hl := lv_entry ([.ref h0, .int 0]) (n := 2) (Nat.le_of_ble_eq_true rfl)
  rw [lg_entry_eq]
  generalize (lg_sl ([.ref h0, .int 0]) ++ List.replicate (2 - (lg_sl ([.ref h0, .int 0])).length) Slot.unset).toArray = ls at hl ⊢
  have hl : lv_has ls 2 [(0, .ref h0), (1, .int 0)] := hl
  obtain ⟨H, hH⟩ : ∃ H, H = s.heap := ⟨_, rfl⟩
  have hP : va_P (dC, dI) vwCl [(h0, .inr (5, [.int 0, .int 0]))] H := by rw [hH]; exact hP
  have hS : va_S A s.heap H [] := by rw [hH]; exact hS
  show W _ _ _ _ _ _ _ _ _ _ s.heap _ _ _ _ _
  rw [← hH]
  refine lv_aload_n hx hb dX5_init_0 rfl (lv_at hl 0 rfl) ?_
  refine W.objInit hx hb hown (hts (.methodLink RX5 1 objectInit) (by decide +kernel)) (hts (.instanceMethod objectInit) (by decide +kernel)) (hts _ (List.mem_of_getElem? (i := 3) rfl)) rfl (by rw [hml]; exact hl.1) rfl dX5_init_1 (Nat.le_of_ble_eq_true rfl) (Nat.le_of_ble_eq_true rfl) ?_
  refine W.eq (g2 := F0 m 4 ls []) rfl ?_
  refine lv_aload_n hx hb dX5_init_4 rfl (lv_at hl 0 rfl) ?_
  refine lv_iconst (v := 0) hx hb dX5_init_5 (by decide) ?_
  refine va_put (D := (dC, dI)) (ci := 5) (v := .int 0) (ty := .int) (C := RX5) (T := TX5) (N := 2) hx hb hts hu5 tyX5 tyX5_ok nmX5 hown hK hP hD hS 0 rfl rfl 1 (by decide) (hts (.fieldLink RX5 7 "GrazeBook$Purse" "hay" "I") (by decide +kernel)) (fun _ h9 => h9) rfl (by decide +kernel) rfl rfl (Nat.le_of_ble_eq_true rfl) dX5_init_6 (fun H locs hP hD hS => ?_)
  have hP : va_P (dC, dI) vwCl [(h0, .inr (5, [.int 0, .int 0]))] H := hP
  have hD : va_D A [(h0, .inr (5, [.int 0, .int 0]))] := hD
  refine lv_aload_n hx hb dX5_init_9 rfl (lv_at hl 0 rfl) ?_
  refine lv_iload_n hx hb dX5_init_10 rfl (lv_at hl 1 rfl) ?_
  refine va_put (D := (dC, dI)) (ci := 5) (v := .int 0) (ty := .int) (C := RX5) (T := TX5) (N := 2) hx hb hts hu5 tyX5 tyX5_ok nmX5 hown hK hP hD hS 0 rfl rfl 0 (by decide) (hts (.fieldLink RX5 13 "GrazeBook$Purse" "coins" "I") (by decide +kernel)) (fun _ h9 => h9) rfl (by decide +kernel) rfl rfl (Nat.le_of_ble_eq_true rfl) dX5_init_11 (fun H locs hP hD hS => ?_)
  have hP : va_P (dC, dI) vwCl [(h0, .inr (5, [.int 0, .int 0]))] H := hP
  have hD : va_D A [(h0, .inr (5, [.int 0, .int 0]))] := hD
  have hP9 := hP.sub (ws' := [(h0, .inr (5, [.int 0, .int 0]))]) [0] rfl
  have hD9 := hD.sub (ws' := [(h0, .inr (5, [.int 0, .int 0]))]) [0] (by decide) rfl
  exact W.vret hx hb hr (fun t ht hW => ⟨⟨(), rfl, trivial, by rw [ht]; exact hP9, va_K.moved hW.alike hK, hD9⟩, hS.F ht⟩) hS.2.2 dX5_init_14
