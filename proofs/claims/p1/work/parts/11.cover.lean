set_option maxHeartbeats 1000000 in
set_option maxRecDepth 100000 in
theorem c_X1_clear (l : Launch) (dC : Nat → ClassId) (dI : Nat → Nat → Nat) (cI cZ cG cP cC cD cQ : ClassId) (h0 : Nat) (x0 : Nat) (x1 : Nat) (x2 : Nat) (sz : Nat)  : Met l yX1_clear wsX1_clear ({ frames := 0, cells := 0, slots := 0, locals := 0 }) (va_Pc [.ref h0] (fun U => U.heap.size = sz ∧ va_P (dC, dI) vwCl [(h0, .inr (1, [.ref x0, .ref x1, .ref x2, .int 0, .int 0])), (x0, .inl (cI, 6, .inl (fun _ => (0 : Int32)))), (x1, .inl (cI, 6, .inl (fun _ => (0 : Int32)))), (x2, .inl (cI, 6, .inl (fun _ => (0 : Int32))))] U.heap ∧ va_K (dC, dI) vwCl [(cI, .int), (cZ, .boolean), (cG, .object "GrazeBook$Ground"), (cP, .object "GrazeBook$Purse"), (cC, .object "GrazeBook$Claim"), (cD, .object "GrazeBook$Drove"), (cQ, .array .int)] U ∧ va_D (fun _ => True) [(h0, .inr (1, [.ref x0, .ref x1, .ref x2, .int 0, .int 0])), (x0, .inl (cI, 6, .inl (fun _ => (0 : Int32)))), (x1, .inl (cI, 6, .inl (fun _ => (0 : Int32)))), (x2, .inl (cI, 6, .inl (fun _ => (0 : Int32))))])) (va_Qv (fun _ : Unit => True) (fun (_ : Unit) (t : State) => va_P (dC, dI) vwCl [(h0, .inr (1, [.ref x0, .ref x1, .ref x2, .int 0, .int 0])), (x0, .inl (cI, 6, .inl (fun _ => (0 : Int32)))), (x1, .inl (cI, 6, .inl (fun _ => (0 : Int32)))), (x2, .inl (cI, 6, .inl (fun _ => (0 : Int32))))] t.heap ∧ va_K (dC, dI) vwCl [(cI, .int), (cZ, .boolean), (cG, .object "GrazeBook$Ground"), (cP, .object "GrazeBook$Purse"), (cC, .object "GrazeBook$Claim"), (cD, .object "GrazeBook$Drove"), (cQ, .array .int)] t ∧ va_D (va_A [(h0, .inr (1, [.ref x0, .ref x1, .ref x2, .int 0, .int 0])), (x0, .inl (cI, 6, .inl (fun _ => (0 : Int32)))), (x1, .inl (cI, 6, .inl (fun _ => (0 : Int32)))), (x2, .inl (cI, 6, .inl (fun _ => (0 : Int32))))] sz) [(h0, .inr (1, [.ref x0, .ref x1, .ref x2, .int 0, .int 0])), (x0, .inl (cI, 6, .inl (fun _ => (0 : Int32)))), (x1, .inl (cI, 6, .inl (fun _ => (0 : Int32)))), (x2, .inl (cI, 6, .inl (fun _ => (0 : Int32))))]) (va_A [(h0, .inr (1, [.ref x0, .ref x1, .ref x2, .int 0, .int 0])), (x0, .inl (cI, 6, .inl (fun _ => (0 : Int32)))), (x1, .inl (cI, 6, .inl (fun _ => (0 : Int32)))), (x2, .inl (cI, 6, .inl (fun _ => (0 : Int32))))] sz)) 0 0 (va_A [(h0, .inr (1, [.ref x0, .ref x1, .ref x2, .int 0, .int 0])), (x0, .inl (cI, 6, .inl (fun _ => (0 : Int32)))), (x1, .inl (cI, 6, .inl (fun _ => (0 : Int32)))), (x2, .inl (cI, 6, .inl (fun _ => (0 : Int32))))] sz) := by
  refine Met.ofW (cc := cX1_clear) (maxL := 2) (ret := none) (by decide) rfl ?_
  intro p e s m args below meth c s₁ B hml hv
  obtain ⟨rfl, hsz, hP, hK, hD0⟩ := hv
  have hx := B.exec
  have hb := B.bytes
  have hr := B.returns
  have hts := atoms_spec (ws := wsX1_clear) B.pre
  have hown : s.vm.findClass RX1 = some m.cls := findClass_of_methodNamed B.named
  have hlocks := B.notSynchronized
  have hu1 : ∀ w ∈ u_ws RX1 TX1 5, w ∈ wsX1_clear := by decide +kernel
  subst hsz
  have hD := hD0.self (sz := s.heap.size)
  generalize hAe : va_A [(h0, .inr (1, [.ref x0, .ref x1, .ref x2, .int 0, .int 0])), (x0, .inl (cI, 6, .inl (fun _ => (0 : Int32)))), (x1, .inl (cI, 6, .inl (fun _ => (0 : Int32)))), (x2, .inl (cI, 6, .inl (fun _ => (0 : Int32))))] s.heap.size = A at hD ⊢
  have hA : ∀ q : Nat, s.heap.size ≤ q → A q := fun q h => by rw [← hAe]; exact Or.inr h
  have hS : va_S A s.heap s.heap [] := va_S.rf
  have hl := lv_entry ([.ref h0]) (n := 2) (Nat.le_of_ble_eq_true rfl)
  rw [lg_entry_eq]
  generalize (lg_sl ([.ref h0]) ++ List.replicate (2 - (lg_sl ([.ref h0])).length) Slot.unset).toArray = ls at hl ⊢
  have hl : lv_has ls 2 [(0, .ref h0)] := hl
  obtain ⟨H, hH⟩ : ∃ H, H = s.heap := ⟨_, rfl⟩
  have hP : va_P (dC, dI) vwCl [(h0, .inr (1, [.ref x0, .ref x1, .ref x2, .int 0, .int 0])), (x0, .inl (cI, 6, .inl (fun _ => (0 : Int32)))), (x1, .inl (cI, 6, .inl (fun _ => (0 : Int32)))), (x2, .inl (cI, 6, .inl (fun _ => (0 : Int32))))] H := by rw [hH]; exact hP
  have hS : va_S A s.heap H [] := by rw [hH]; exact hS
  show W _ _ _ _ _ _ _ _ _ _ s.heap _ _ _ _ _
  rw [← hH]
  refine lv_iconst (v := 0) hx hb dX1_clear_0 (by decide) ?_
  refine lv_istore_n (lv' := [(1, .int 0), (0, .ref h0)]) hx hb dX1_clear_1 rfl hl (by decide) rfl (fun ls hl => ?_)
  refine lv_iload_n hx hb dX1_clear_2 rfl (lv_at hl 0 rfl) ?_
  refine lv_bipush (v := 6) hx hb dX1_clear_3 (by decide) ?_
  refine lv_icmp_ge (tgt := 35) hx hb dX1_clear_5 (by decide) (fun c_1 => absurd c_1 (by decide)) (fun c_1 => ?_)
  refine lv_aload_n hx hb dX1_clear_8 rfl (lv_at hl 1 rfl) ?_
  refine va_get (D := (dC, dI)) (ci := 1) (v := .ref x0) (C := RX1) (T := TX1) (N := 5) hx hb hts hu1 hown hK hP 0 rfl rfl 0 (by decide) (hts (.fieldLink RX1 9 "GrazeBook$Cover" "sheepOn" "[I") (by decide +kernel)) (fun _ h9 => h9) rfl dX1_clear_9 ?_
  refine lv_iload_n hx hb dX1_clear_12 rfl (lv_at hl 0 rfl) ?_
  refine lv_iconst (v := 0) hx hb dX1_clear_13 (by decide) ?_
  refine va_iast hx hb hK hP hD hS 1 0 rfl rfl (by unfold vp_in; decide) dX1_clear_14 (fun H locs hP hD hS => ?_)
  rw [upd_z] at hP hD
  have hP : va_P (dC, dI) vwCl [(h0, .inr (1, [.ref x0, .ref x1, .ref x2, .int 0, .int 0])), (x0, .inl (cI, 6, .inl (fun _ => (0 : Int32)))), (x1, .inl (cI, 6, .inl (fun _ => (0 : Int32)))), (x2, .inl (cI, 6, .inl (fun _ => (0 : Int32))))] H := hP
  have hD : va_D A [(h0, .inr (1, [.ref x0, .ref x1, .ref x2, .int 0, .int 0])), (x0, .inl (cI, 6, .inl (fun _ => (0 : Int32)))), (x1, .inl (cI, 6, .inl (fun _ => (0 : Int32)))), (x2, .inl (cI, 6, .inl (fun _ => (0 : Int32))))] := hD
  refine lv_aload_n hx hb dX1_clear_15 rfl (lv_at hl 1 rfl) ?_
  refine va_get (D := (dC, dI)) (ci := 1) (v := .ref x1) (C := RX1) (T := TX1) (N := 5) hx hb hts hu1 hown hK hP 0 rfl rfl 1 (by decide) (hts (.fieldLink RX1 15 "GrazeBook$Cover" "othersOn" "[I") (by decide +kernel)) (fun _ h9 => h9) rfl dX1_clear_16 ?_
  refine lv_iload_n hx hb dX1_clear_19 rfl (lv_at hl 0 rfl) ?_
  refine lv_iconst (v := 0) hx hb dX1_clear_20 (by decide) ?_
  refine va_iast hx hb hK hP hD hS 2 0 rfl rfl (by unfold vp_in; decide) dX1_clear_21 (fun H locs hP hD hS => ?_)
  rw [upd_z] at hP hD
  have hP : va_P (dC, dI) vwCl [(h0, .inr (1, [.ref x0, .ref x1, .ref x2, .int 0, .int 0])), (x0, .inl (cI, 6, .inl (fun _ => (0 : Int32)))), (x1, .inl (cI, 6, .inl (fun _ => (0 : Int32)))), (x2, .inl (cI, 6, .inl (fun _ => (0 : Int32))))] H := hP
  have hD : va_D A [(h0, .inr (1, [.ref x0, .ref x1, .ref x2, .int 0, .int 0])), (x0, .inl (cI, 6, .inl (fun _ => (0 : Int32)))), (x1, .inl (cI, 6, .inl (fun _ => (0 : Int32)))), (x2, .inl (cI, 6, .inl (fun _ => (0 : Int32))))] := hD
  refine lv_aload_n hx hb dX1_clear_22 rfl (lv_at hl 1 rfl) ?_
  refine va_get (D := (dC, dI)) (ci := 1) (v := .ref x2) (C := RX1) (T := TX1) (N := 5) hx hb hts hu1 hown hK hP 0 rfl rfl 2 (by decide) (hts (.fieldLink RX1 18 "GrazeBook$Cover" "leazesFor" "[I") (by decide +kernel)) (fun _ h9 => h9) rfl dX1_clear_23 ?_
  refine lv_iload_n hx hb dX1_clear_26 rfl (lv_at hl 0 rfl) ?_
  refine lv_iconst (v := 0) hx hb dX1_clear_27 (by decide) ?_
  refine va_iast hx hb hK hP hD hS 3 0 rfl rfl (by unfold vp_in; decide) dX1_clear_28 (fun H locs hP hD hS => ?_)
  rw [upd_z] at hP hD
  have hP : va_P (dC, dI) vwCl [(h0, .inr (1, [.ref x0, .ref x1, .ref x2, .int 0, .int 0])), (x0, .inl (cI, 6, .inl (fun _ => (0 : Int32)))), (x1, .inl (cI, 6, .inl (fun _ => (0 : Int32)))), (x2, .inl (cI, 6, .inl (fun _ => (0 : Int32))))] H := hP
  have hD : va_D A [(h0, .inr (1, [.ref x0, .ref x1, .ref x2, .int 0, .int 0])), (x0, .inl (cI, 6, .inl (fun _ => (0 : Int32)))), (x1, .inl (cI, 6, .inl (fun _ => (0 : Int32)))), (x2, .inl (cI, 6, .inl (fun _ => (0 : Int32))))] := hD
  refine lv_iinc (v := 1) (lv' := [(1, .int 1), (0, .ref h0)]) hx hb dX1_clear_29 hl (k := 0) rfl (by decide) (by decide) rfl (fun ls hl => ?_)
  refine lv_goto (tgt := 2) hx hb dX1_clear_32 (by decide) ?_
  refine lv_iload_n hx hb dX1_clear_2 rfl (lv_at hl 0 rfl) ?_
  refine lv_bipush (v := 6) hx hb dX1_clear_3 (by decide) ?_
  refine lv_icmp_ge (tgt := 35) hx hb dX1_clear_5 (by decide) (fun c_2 => absurd c_2 (by decide)) (fun c_2 => ?_)
  refine lv_aload_n hx hb dX1_clear_8 rfl (lv_at hl 1 rfl) ?_
  refine va_get (D := (dC, dI)) (ci := 1) (v := .ref x0) (C := RX1) (T := TX1) (N := 5) hx hb hts hu1 hown hK hP 0 rfl rfl 0 (by decide) (hts (.fieldLink RX1 9 "GrazeBook$Cover" "sheepOn" "[I") (by decide +kernel)) (fun _ h9 => h9) rfl dX1_clear_9 ?_
  refine lv_iload_n hx hb dX1_clear_12 rfl (lv_at hl 0 rfl) ?_
  refine lv_iconst (v := 0) hx hb dX1_clear_13 (by decide) ?_
  refine va_iast hx hb hK hP hD hS 1 0 rfl rfl (by unfold vp_in; decide) dX1_clear_14 (fun H locs hP hD hS => ?_)
  rw [upd_z] at hP hD
  have hP : va_P (dC, dI) vwCl [(h0, .inr (1, [.ref x0, .ref x1, .ref x2, .int 0, .int 0])), (x0, .inl (cI, 6, .inl (fun _ => (0 : Int32)))), (x1, .inl (cI, 6, .inl (fun _ => (0 : Int32)))), (x2, .inl (cI, 6, .inl (fun _ => (0 : Int32))))] H := hP
  have hD : va_D A [(h0, .inr (1, [.ref x0, .ref x1, .ref x2, .int 0, .int 0])), (x0, .inl (cI, 6, .inl (fun _ => (0 : Int32)))), (x1, .inl (cI, 6, .inl (fun _ => (0 : Int32)))), (x2, .inl (cI, 6, .inl (fun _ => (0 : Int32))))] := hD
  refine lv_aload_n hx hb dX1_clear_15 rfl (lv_at hl 1 rfl) ?_
  refine va_get (D := (dC, dI)) (ci := 1) (v := .ref x1) (C := RX1) (T := TX1) (N := 5) hx hb hts hu1 hown hK hP 0 rfl rfl 1 (by decide) (hts (.fieldLink RX1 15 "GrazeBook$Cover" "othersOn" "[I") (by decide +kernel)) (fun _ h9 => h9) rfl dX1_clear_16 ?_
  refine lv_iload_n hx hb dX1_clear_19 rfl (lv_at hl 0 rfl) ?_
  refine lv_iconst (v := 0) hx hb dX1_clear_20 (by decide) ?_
  refine va_iast hx hb hK hP hD hS 2 0 rfl rfl (by unfold vp_in; decide) dX1_clear_21 (fun H locs hP hD hS => ?_)
  rw [upd_z] at hP hD
  have hP : va_P (dC, dI) vwCl [(h0, .inr (1, [.ref x0, .ref x1, .ref x2, .int 0, .int 0])), (x0, .inl (cI, 6, .inl (fun _ => (0 : Int32)))), (x1, .inl (cI, 6, .inl (fun _ => (0 : Int32)))), (x2, .inl (cI, 6, .inl (fun _ => (0 : Int32))))] H := hP
  have hD : va_D A [(h0, .inr (1, [.ref x0, .ref x1, .ref x2, .int 0, .int 0])), (x0, .inl (cI, 6, .inl (fun _ => (0 : Int32)))), (x1, .inl (cI, 6, .inl (fun _ => (0 : Int32)))), (x2, .inl (cI, 6, .inl (fun _ => (0 : Int32))))] := hD
  refine lv_aload_n hx hb dX1_clear_22 rfl (lv_at hl 1 rfl) ?_
  refine va_get (D := (dC, dI)) (ci := 1) (v := .ref x2) (C := RX1) (T := TX1) (N := 5) hx hb hts hu1 hown hK hP 0 rfl rfl 2 (by decide) (hts (.fieldLink RX1 18 "GrazeBook$Cover" "leazesFor" "[I") (by decide +kernel)) (fun _ h9 => h9) rfl dX1_clear_23 ?_
  refine lv_iload_n hx hb dX1_clear_26 rfl (lv_at hl 0 rfl) ?_
  refine lv_iconst (v := 0) hx hb dX1_clear_27 (by decide) ?_
  refine va_iast hx hb hK hP hD hS 3 0 rfl rfl (by unfold vp_in; decide) dX1_clear_28 (fun H locs hP hD hS => ?_)
  rw [upd_z] at hP hD
  have hP : va_P (dC, dI) vwCl [(h0, .inr (1, [.ref x0, .ref x1, .ref x2, .int 0, .int 0])), (x0, .inl (cI, 6, .inl (fun _ => (0 : Int32)))), (x1, .inl (cI, 6, .inl (fun _ => (0 : Int32)))), (x2, .inl (cI, 6, .inl (fun _ => (0 : Int32))))] H := hP
  have hD : va_D A [(h0, .inr (1, [.ref x0, .ref x1, .ref x2, .int 0, .int 0])), (x0, .inl (cI, 6, .inl (fun _ => (0 : Int32)))), (x1, .inl (cI, 6, .inl (fun _ => (0 : Int32)))), (x2, .inl (cI, 6, .inl (fun _ => (0 : Int32))))] := hD
  refine lv_iinc (v := 2) (lv' := [(1, .int 2), (0, .ref h0)]) hx hb dX1_clear_29 hl (k := 0) rfl (by decide) (by decide) rfl (fun ls hl => ?_)
  refine lv_goto (tgt := 2) hx hb dX1_clear_32 (by decide) ?_
  refine lv_iload_n hx hb dX1_clear_2 rfl (lv_at hl 0 rfl) ?_
  refine lv_bipush (v := 6) hx hb dX1_clear_3 (by decide) ?_
  refine lv_icmp_ge (tgt := 35) hx hb dX1_clear_5 (by decide) (fun c_3 => absurd c_3 (by decide)) (fun c_3 => ?_)
  refine lv_aload_n hx hb dX1_clear_8 rfl (lv_at hl 1 rfl) ?_
  refine va_get (D := (dC, dI)) (ci := 1) (v := .ref x0) (C := RX1) (T := TX1) (N := 5) hx hb hts hu1 hown hK hP 0 rfl rfl 0 (by decide) (hts (.fieldLink RX1 9 "GrazeBook$Cover" "sheepOn" "[I") (by decide +kernel)) (fun _ h9 => h9) rfl dX1_clear_9 ?_
  refine lv_iload_n hx hb dX1_clear_12 rfl (lv_at hl 0 rfl) ?_
  refine lv_iconst (v := 0) hx hb dX1_clear_13 (by decide) ?_
  refine va_iast hx hb hK hP hD hS 1 0 rfl rfl (by unfold vp_in; decide) dX1_clear_14 (fun H locs hP hD hS => ?_)
  rw [upd_z] at hP hD
  have hP : va_P (dC, dI) vwCl [(h0, .inr (1, [.ref x0, .ref x1, .ref x2, .int 0, .int 0])), (x0, .inl (cI, 6, .inl (fun _ => (0 : Int32)))), (x1, .inl (cI, 6, .inl (fun _ => (0 : Int32)))), (x2, .inl (cI, 6, .inl (fun _ => (0 : Int32))))] H := hP
  have hD : va_D A [(h0, .inr (1, [.ref x0, .ref x1, .ref x2, .int 0, .int 0])), (x0, .inl (cI, 6, .inl (fun _ => (0 : Int32)))), (x1, .inl (cI, 6, .inl (fun _ => (0 : Int32)))), (x2, .inl (cI, 6, .inl (fun _ => (0 : Int32))))] := hD
  refine lv_aload_n hx hb dX1_clear_15 rfl (lv_at hl 1 rfl) ?_
  refine va_get (D := (dC, dI)) (ci := 1) (v := .ref x1) (C := RX1) (T := TX1) (N := 5) hx hb hts hu1 hown hK hP 0 rfl rfl 1 (by decide) (hts (.fieldLink RX1 15 "GrazeBook$Cover" "othersOn" "[I") (by decide +kernel)) (fun _ h9 => h9) rfl dX1_clear_16 ?_
  refine lv_iload_n hx hb dX1_clear_19 rfl (lv_at hl 0 rfl) ?_
  refine lv_iconst (v := 0) hx hb dX1_clear_20 (by decide) ?_
  refine va_iast hx hb hK hP hD hS 2 0 rfl rfl (by unfold vp_in; decide) dX1_clear_21 (fun H locs hP hD hS => ?_)
  rw [upd_z] at hP hD
  have hP : va_P (dC, dI) vwCl [(h0, .inr (1, [.ref x0, .ref x1, .ref x2, .int 0, .int 0])), (x0, .inl (cI, 6, .inl (fun _ => (0 : Int32)))), (x1, .inl (cI, 6, .inl (fun _ => (0 : Int32)))), (x2, .inl (cI, 6, .inl (fun _ => (0 : Int32))))] H := hP
  have hD : va_D A [(h0, .inr (1, [.ref x0, .ref x1, .ref x2, .int 0, .int 0])), (x0, .inl (cI, 6, .inl (fun _ => (0 : Int32)))), (x1, .inl (cI, 6, .inl (fun _ => (0 : Int32)))), (x2, .inl (cI, 6, .inl (fun _ => (0 : Int32))))] := hD
  refine lv_aload_n hx hb dX1_clear_22 rfl (lv_at hl 1 rfl) ?_
  refine va_get (D := (dC, dI)) (ci := 1) (v := .ref x2) (C := RX1) (T := TX1) (N := 5) hx hb hts hu1 hown hK hP 0 rfl rfl 2 (by decide) (hts (.fieldLink RX1 18 "GrazeBook$Cover" "leazesFor" "[I") (by decide +kernel)) (fun _ h9 => h9) rfl dX1_clear_23 ?_
  refine lv_iload_n hx hb dX1_clear_26 rfl (lv_at hl 0 rfl) ?_
  refine lv_iconst (v := 0) hx hb dX1_clear_27 (by decide) ?_
  refine va_iast hx hb hK hP hD hS 3 0 rfl rfl (by unfold vp_in; decide) dX1_clear_28 (fun H locs hP hD hS => ?_)
  rw [upd_z] at hP hD
  have hP : va_P (dC, dI) vwCl [(h0, .inr (1, [.ref x0, .ref x1, .ref x2, .int 0, .int 0])), (x0, .inl (cI, 6, .inl (fun _ => (0 : Int32)))), (x1, .inl (cI, 6, .inl (fun _ => (0 : Int32)))), (x2, .inl (cI, 6, .inl (fun _ => (0 : Int32))))] H := hP
  have hD : va_D A [(h0, .inr (1, [.ref x0, .ref x1, .ref x2, .int 0, .int 0])), (x0, .inl (cI, 6, .inl (fun _ => (0 : Int32)))), (x1, .inl (cI, 6, .inl (fun _ => (0 : Int32)))), (x2, .inl (cI, 6, .inl (fun _ => (0 : Int32))))] := hD
  refine lv_iinc (v := 3) (lv' := [(1, .int 3), (0, .ref h0)]) hx hb dX1_clear_29 hl (k := 0) rfl (by decide) (by decide) rfl (fun ls hl => ?_)
  refine lv_goto (tgt := 2) hx hb dX1_clear_32 (by decide) ?_
  refine lv_iload_n hx hb dX1_clear_2 rfl (lv_at hl 0 rfl) ?_
  refine lv_bipush (v := 6) hx hb dX1_clear_3 (by decide) ?_
  refine lv_icmp_ge (tgt := 35) hx hb dX1_clear_5 (by decide) (fun c_4 => absurd c_4 (by decide)) (fun c_4 => ?_)
  refine lv_aload_n hx hb dX1_clear_8 rfl (lv_at hl 1 rfl) ?_
  refine va_get (D := (dC, dI)) (ci := 1) (v := .ref x0) (C := RX1) (T := TX1) (N := 5) hx hb hts hu1 hown hK hP 0 rfl rfl 0 (by decide) (hts (.fieldLink RX1 9 "GrazeBook$Cover" "sheepOn" "[I") (by decide +kernel)) (fun _ h9 => h9) rfl dX1_clear_9 ?_
  refine lv_iload_n hx hb dX1_clear_12 rfl (lv_at hl 0 rfl) ?_
  refine lv_iconst (v := 0) hx hb dX1_clear_13 (by decide) ?_
  refine va_iast hx hb hK hP hD hS 1 0 rfl rfl (by unfold vp_in; decide) dX1_clear_14 (fun H locs hP hD hS => ?_)
  rw [upd_z] at hP hD
  have hP : va_P (dC, dI) vwCl [(h0, .inr (1, [.ref x0, .ref x1, .ref x2, .int 0, .int 0])), (x0, .inl (cI, 6, .inl (fun _ => (0 : Int32)))), (x1, .inl (cI, 6, .inl (fun _ => (0 : Int32)))), (x2, .inl (cI, 6, .inl (fun _ => (0 : Int32))))] H := hP
  have hD : va_D A [(h0, .inr (1, [.ref x0, .ref x1, .ref x2, .int 0, .int 0])), (x0, .inl (cI, 6, .inl (fun _ => (0 : Int32)))), (x1, .inl (cI, 6, .inl (fun _ => (0 : Int32)))), (x2, .inl (cI, 6, .inl (fun _ => (0 : Int32))))] := hD
  refine lv_aload_n hx hb dX1_clear_15 rfl (lv_at hl 1 rfl) ?_
  refine va_get (D := (dC, dI)) (ci := 1) (v := .ref x1) (C := RX1) (T := TX1) (N := 5) hx hb hts hu1 hown hK hP 0 rfl rfl 1 (by decide) (hts (.fieldLink RX1 15 "GrazeBook$Cover" "othersOn" "[I") (by decide +kernel)) (fun _ h9 => h9) rfl dX1_clear_16 ?_
  refine lv_iload_n hx hb dX1_clear_19 rfl (lv_at hl 0 rfl) ?_
  refine lv_iconst (v := 0) hx hb dX1_clear_20 (by decide) ?_
  refine va_iast hx hb hK hP hD hS 2 0 rfl rfl (by unfold vp_in; decide) dX1_clear_21 (fun H locs hP hD hS => ?_)
  rw [upd_z] at hP hD
  have hP : va_P (dC, dI) vwCl [(h0, .inr (1, [.ref x0, .ref x1, .ref x2, .int 0, .int 0])), (x0, .inl (cI, 6, .inl (fun _ => (0 : Int32)))), (x1, .inl (cI, 6, .inl (fun _ => (0 : Int32)))), (x2, .inl (cI, 6, .inl (fun _ => (0 : Int32))))] H := hP
  have hD : va_D A [(h0, .inr (1, [.ref x0, .ref x1, .ref x2, .int 0, .int 0])), (x0, .inl (cI, 6, .inl (fun _ => (0 : Int32)))), (x1, .inl (cI, 6, .inl (fun _ => (0 : Int32)))), (x2, .inl (cI, 6, .inl (fun _ => (0 : Int32))))] := hD
  refine lv_aload_n hx hb dX1_clear_22 rfl (lv_at hl 1 rfl) ?_
  refine va_get (D := (dC, dI)) (ci := 1) (v := .ref x2) (C := RX1) (T := TX1) (N := 5) hx hb hts hu1 hown hK hP 0 rfl rfl 2 (by decide) (hts (.fieldLink RX1 18 "GrazeBook$Cover" "leazesFor" "[I") (by decide +kernel)) (fun _ h9 => h9) rfl dX1_clear_23 ?_
  refine lv_iload_n hx hb dX1_clear_26 rfl (lv_at hl 0 rfl) ?_
  refine lv_iconst (v := 0) hx hb dX1_clear_27 (by decide) ?_
  refine va_iast hx hb hK hP hD hS 3 0 rfl rfl (by unfold vp_in; decide) dX1_clear_28 (fun H locs hP hD hS => ?_)
  rw [upd_z] at hP hD
  have hP : va_P (dC, dI) vwCl [(h0, .inr (1, [.ref x0, .ref x1, .ref x2, .int 0, .int 0])), (x0, .inl (cI, 6, .inl (fun _ => (0 : Int32)))), (x1, .inl (cI, 6, .inl (fun _ => (0 : Int32)))), (x2, .inl (cI, 6, .inl (fun _ => (0 : Int32))))] H := hP
  have hD : va_D A [(h0, .inr (1, [.ref x0, .ref x1, .ref x2, .int 0, .int 0])), (x0, .inl (cI, 6, .inl (fun _ => (0 : Int32)))), (x1, .inl (cI, 6, .inl (fun _ => (0 : Int32)))), (x2, .inl (cI, 6, .inl (fun _ => (0 : Int32))))] := hD
  refine lv_iinc (v := 4) (lv' := [(1, .int 4), (0, .ref h0)]) hx hb dX1_clear_29 hl (k := 0) rfl (by decide) (by decide) rfl (fun ls hl => ?_)
  refine lv_goto (tgt := 2) hx hb dX1_clear_32 (by decide) ?_
  refine lv_iload_n hx hb dX1_clear_2 rfl (lv_at hl 0 rfl) ?_
  refine lv_bipush (v := 6) hx hb dX1_clear_3 (by decide) ?_
  refine lv_icmp_ge (tgt := 35) hx hb dX1_clear_5 (by decide) (fun c_5 => absurd c_5 (by decide)) (fun c_5 => ?_)
  refine lv_aload_n hx hb dX1_clear_8 rfl (lv_at hl 1 rfl) ?_
  refine va_get (D := (dC, dI)) (ci := 1) (v := .ref x0) (C := RX1) (T := TX1) (N := 5) hx hb hts hu1 hown hK hP 0 rfl rfl 0 (by decide) (hts (.fieldLink RX1 9 "GrazeBook$Cover" "sheepOn" "[I") (by decide +kernel)) (fun _ h9 => h9) rfl dX1_clear_9 ?_
  refine lv_iload_n hx hb dX1_clear_12 rfl (lv_at hl 0 rfl) ?_
  refine lv_iconst (v := 0) hx hb dX1_clear_13 (by decide) ?_
  refine va_iast hx hb hK hP hD hS 1 0 rfl rfl (by unfold vp_in; decide) dX1_clear_14 (fun H locs hP hD hS => ?_)
  rw [upd_z] at hP hD
  have hP : va_P (dC, dI) vwCl [(h0, .inr (1, [.ref x0, .ref x1, .ref x2, .int 0, .int 0])), (x0, .inl (cI, 6, .inl (fun _ => (0 : Int32)))), (x1, .inl (cI, 6, .inl (fun _ => (0 : Int32)))), (x2, .inl (cI, 6, .inl (fun _ => (0 : Int32))))] H := hP
  have hD : va_D A [(h0, .inr (1, [.ref x0, .ref x1, .ref x2, .int 0, .int 0])), (x0, .inl (cI, 6, .inl (fun _ => (0 : Int32)))), (x1, .inl (cI, 6, .inl (fun _ => (0 : Int32)))), (x2, .inl (cI, 6, .inl (fun _ => (0 : Int32))))] := hD
  refine lv_aload_n hx hb dX1_clear_15 rfl (lv_at hl 1 rfl) ?_
  refine va_get (D := (dC, dI)) (ci := 1) (v := .ref x1) (C := RX1) (T := TX1) (N := 5) hx hb hts hu1 hown hK hP 0 rfl rfl 1 (by decide) (hts (.fieldLink RX1 15 "GrazeBook$Cover" "othersOn" "[I") (by decide +kernel)) (fun _ h9 => h9) rfl dX1_clear_16 ?_
  refine lv_iload_n hx hb dX1_clear_19 rfl (lv_at hl 0 rfl) ?_
  refine lv_iconst (v := 0) hx hb dX1_clear_20 (by decide) ?_
  refine va_iast hx hb hK hP hD hS 2 0 rfl rfl (by unfold vp_in; decide) dX1_clear_21 (fun H locs hP hD hS => ?_)
  rw [upd_z] at hP hD
  have hP : va_P (dC, dI) vwCl [(h0, .inr (1, [.ref x0, .ref x1, .ref x2, .int 0, .int 0])), (x0, .inl (cI, 6, .inl (fun _ => (0 : Int32)))), (x1, .inl (cI, 6, .inl (fun _ => (0 : Int32)))), (x2, .inl (cI, 6, .inl (fun _ => (0 : Int32))))] H := hP
  have hD : va_D A [(h0, .inr (1, [.ref x0, .ref x1, .ref x2, .int 0, .int 0])), (x0, .inl (cI, 6, .inl (fun _ => (0 : Int32)))), (x1, .inl (cI, 6, .inl (fun _ => (0 : Int32)))), (x2, .inl (cI, 6, .inl (fun _ => (0 : Int32))))] := hD
  refine lv_aload_n hx hb dX1_clear_22 rfl (lv_at hl 1 rfl) ?_
  refine va_get (D := (dC, dI)) (ci := 1) (v := .ref x2) (C := RX1) (T := TX1) (N := 5) hx hb hts hu1 hown hK hP 0 rfl rfl 2 (by decide) (hts (.fieldLink RX1 18 "GrazeBook$Cover" "leazesFor" "[I") (by decide +kernel)) (fun _ h9 => h9) rfl dX1_clear_23 ?_
  refine lv_iload_n hx hb dX1_clear_26 rfl (lv_at hl 0 rfl) ?_
  refine lv_iconst (v := 0) hx hb dX1_clear_27 (by decide) ?_
  refine va_iast hx hb hK hP hD hS 3 0 rfl rfl (by unfold vp_in; decide) dX1_clear_28 (fun H locs hP hD hS => ?_)
  rw [upd_z] at hP hD
  have hP : va_P (dC, dI) vwCl [(h0, .inr (1, [.ref x0, .ref x1, .ref x2, .int 0, .int 0])), (x0, .inl (cI, 6, .inl (fun _ => (0 : Int32)))), (x1, .inl (cI, 6, .inl (fun _ => (0 : Int32)))), (x2, .inl (cI, 6, .inl (fun _ => (0 : Int32))))] H := hP
  have hD : va_D A [(h0, .inr (1, [.ref x0, .ref x1, .ref x2, .int 0, .int 0])), (x0, .inl (cI, 6, .inl (fun _ => (0 : Int32)))), (x1, .inl (cI, 6, .inl (fun _ => (0 : Int32)))), (x2, .inl (cI, 6, .inl (fun _ => (0 : Int32))))] := hD
  refine lv_iinc (v := 5) (lv' := [(1, .int 5), (0, .ref h0)]) hx hb dX1_clear_29 hl (k := 0) rfl (by decide) (by decide) rfl (fun ls hl => ?_)
  refine lv_goto (tgt := 2) hx hb dX1_clear_32 (by decide) ?_
  refine lv_iload_n hx hb dX1_clear_2 rfl (lv_at hl 0 rfl) ?_
  refine lv_bipush (v := 6) hx hb dX1_clear_3 (by decide) ?_
  refine lv_icmp_ge (tgt := 35) hx hb dX1_clear_5 (by decide) (fun c_6 => absurd c_6 (by decide)) (fun c_6 => ?_)
  refine lv_aload_n hx hb dX1_clear_8 rfl (lv_at hl 1 rfl) ?_
  refine va_get (D := (dC, dI)) (ci := 1) (v := .ref x0) (C := RX1) (T := TX1) (N := 5) hx hb hts hu1 hown hK hP 0 rfl rfl 0 (by decide) (hts (.fieldLink RX1 9 "GrazeBook$Cover" "sheepOn" "[I") (by decide +kernel)) (fun _ h9 => h9) rfl dX1_clear_9 ?_
  refine lv_iload_n hx hb dX1_clear_12 rfl (lv_at hl 0 rfl) ?_
  refine lv_iconst (v := 0) hx hb dX1_clear_13 (by decide) ?_
  refine va_iast hx hb hK hP hD hS 1 0 rfl rfl (by unfold vp_in; decide) dX1_clear_14 (fun H locs hP hD hS => ?_)
  rw [upd_z] at hP hD
  have hP : va_P (dC, dI) vwCl [(h0, .inr (1, [.ref x0, .ref x1, .ref x2, .int 0, .int 0])), (x0, .inl (cI, 6, .inl (fun _ => (0 : Int32)))), (x1, .inl (cI, 6, .inl (fun _ => (0 : Int32)))), (x2, .inl (cI, 6, .inl (fun _ => (0 : Int32))))] H := hP
  have hD : va_D A [(h0, .inr (1, [.ref x0, .ref x1, .ref x2, .int 0, .int 0])), (x0, .inl (cI, 6, .inl (fun _ => (0 : Int32)))), (x1, .inl (cI, 6, .inl (fun _ => (0 : Int32)))), (x2, .inl (cI, 6, .inl (fun _ => (0 : Int32))))] := hD
  refine lv_aload_n hx hb dX1_clear_15 rfl (lv_at hl 1 rfl) ?_
  refine va_get (D := (dC, dI)) (ci := 1) (v := .ref x1) (C := RX1) (T := TX1) (N := 5) hx hb hts hu1 hown hK hP 0 rfl rfl 1 (by decide) (hts (.fieldLink RX1 15 "GrazeBook$Cover" "othersOn" "[I") (by decide +kernel)) (fun _ h9 => h9) rfl dX1_clear_16 ?_
  refine lv_iload_n hx hb dX1_clear_19 rfl (lv_at hl 0 rfl) ?_
  refine lv_iconst (v := 0) hx hb dX1_clear_20 (by decide) ?_
  refine va_iast hx hb hK hP hD hS 2 0 rfl rfl (by unfold vp_in; decide) dX1_clear_21 (fun H locs hP hD hS => ?_)
  rw [upd_z] at hP hD
  have hP : va_P (dC, dI) vwCl [(h0, .inr (1, [.ref x0, .ref x1, .ref x2, .int 0, .int 0])), (x0, .inl (cI, 6, .inl (fun _ => (0 : Int32)))), (x1, .inl (cI, 6, .inl (fun _ => (0 : Int32)))), (x2, .inl (cI, 6, .inl (fun _ => (0 : Int32))))] H := hP
  have hD : va_D A [(h0, .inr (1, [.ref x0, .ref x1, .ref x2, .int 0, .int 0])), (x0, .inl (cI, 6, .inl (fun _ => (0 : Int32)))), (x1, .inl (cI, 6, .inl (fun _ => (0 : Int32)))), (x2, .inl (cI, 6, .inl (fun _ => (0 : Int32))))] := hD
  refine lv_aload_n hx hb dX1_clear_22 rfl (lv_at hl 1 rfl) ?_
  refine va_get (D := (dC, dI)) (ci := 1) (v := .ref x2) (C := RX1) (T := TX1) (N := 5) hx hb hts hu1 hown hK hP 0 rfl rfl 2 (by decide) (hts (.fieldLink RX1 18 "GrazeBook$Cover" "leazesFor" "[I") (by decide +kernel)) (fun _ h9 => h9) rfl dX1_clear_23 ?_
  refine lv_iload_n hx hb dX1_clear_26 rfl (lv_at hl 0 rfl) ?_
  refine lv_iconst (v := 0) hx hb dX1_clear_27 (by decide) ?_
  refine va_iast hx hb hK hP hD hS 3 0 rfl rfl (by unfold vp_in; decide) dX1_clear_28 (fun H locs hP hD hS => ?_)
  rw [upd_z] at hP hD
  have hP : va_P (dC, dI) vwCl [(h0, .inr (1, [.ref x0, .ref x1, .ref x2, .int 0, .int 0])), (x0, .inl (cI, 6, .inl (fun _ => (0 : Int32)))), (x1, .inl (cI, 6, .inl (fun _ => (0 : Int32)))), (x2, .inl (cI, 6, .inl (fun _ => (0 : Int32))))] H := hP
  have hD : va_D A [(h0, .inr (1, [.ref x0, .ref x1, .ref x2, .int 0, .int 0])), (x0, .inl (cI, 6, .inl (fun _ => (0 : Int32)))), (x1, .inl (cI, 6, .inl (fun _ => (0 : Int32)))), (x2, .inl (cI, 6, .inl (fun _ => (0 : Int32))))] := hD
  refine lv_iinc (v := 6) (lv' := [(1, .int 6), (0, .ref h0)]) hx hb dX1_clear_29 hl (k := 0) rfl (by decide) (by decide) rfl (fun ls hl => ?_)
  refine lv_goto (tgt := 2) hx hb dX1_clear_32 (by decide) ?_
  refine lv_iload_n hx hb dX1_clear_2 rfl (lv_at hl 0 rfl) ?_
  refine lv_bipush (v := 6) hx hb dX1_clear_3 (by decide) ?_
  refine lv_icmp_ge (tgt := 35) hx hb dX1_clear_5 (by decide) (fun c_7 => ?_) (fun c_7 => absurd (by decide) c_7)
  refine lv_aload_n hx hb dX1_clear_35 rfl (lv_at hl 1 rfl) ?_
  refine lv_iconst (v := 0) hx hb dX1_clear_36 (by decide) ?_
  refine va_put (D := (dC, dI)) (ci := 1) (v := .int 0) (ty := .int) (C := RX1) (T := TX1) (N := 5) hx hb hts hu1 tyX1 tyX1_ok nmX1 hown hK hP hD hS 0 rfl rfl 3 (by decide) (hts (.fieldLink RX1 21 "GrazeBook$Cover" "walks" "I") (by decide +kernel)) (fun _ h9 => h9) rfl (by decide +kernel) rfl rfl (Nat.le_of_ble_eq_true rfl) dX1_clear_37 (fun H locs hP hD hS => ?_)
  have hP : va_P (dC, dI) vwCl [(h0, .inr (1, [.ref x0, .ref x1, .ref x2, .int 0, .int 0])), (x0, .inl (cI, 6, .inl (fun _ => (0 : Int32)))), (x1, .inl (cI, 6, .inl (fun _ => (0 : Int32)))), (x2, .inl (cI, 6, .inl (fun _ => (0 : Int32))))] H := hP
  have hD : va_D A [(h0, .inr (1, [.ref x0, .ref x1, .ref x2, .int 0, .int 0])), (x0, .inl (cI, 6, .inl (fun _ => (0 : Int32)))), (x1, .inl (cI, 6, .inl (fun _ => (0 : Int32)))), (x2, .inl (cI, 6, .inl (fun _ => (0 : Int32))))] := hD
  refine lv_aload_n hx hb dX1_clear_40 rfl (lv_at hl 1 rfl) ?_
  refine lv_iconst (v := 0) hx hb dX1_clear_41 (by decide) ?_
  refine va_put (D := (dC, dI)) (ci := 1) (v := .int 0) (ty := .int) (C := RX1) (T := TX1) (N := 5) hx hb hts hu1 tyX1 tyX1_ok nmX1 hown hK hP hD hS 0 rfl rfl 4 (by decide) (hts (.fieldLink RX1 25 "GrazeBook$Cover" "forAny" "I") (by decide +kernel)) (fun _ h9 => h9) rfl (by decide +kernel) rfl rfl (Nat.le_of_ble_eq_true rfl) dX1_clear_42 (fun H locs hP hD hS => ?_)
  have hP : va_P (dC, dI) vwCl [(h0, .inr (1, [.ref x0, .ref x1, .ref x2, .int 0, .int 0])), (x0, .inl (cI, 6, .inl (fun _ => (0 : Int32)))), (x1, .inl (cI, 6, .inl (fun _ => (0 : Int32)))), (x2, .inl (cI, 6, .inl (fun _ => (0 : Int32))))] H := hP
  have hD : va_D A [(h0, .inr (1, [.ref x0, .ref x1, .ref x2, .int 0, .int 0])), (x0, .inl (cI, 6, .inl (fun _ => (0 : Int32)))), (x1, .inl (cI, 6, .inl (fun _ => (0 : Int32)))), (x2, .inl (cI, 6, .inl (fun _ => (0 : Int32))))] := hD
  have hP9 := hP.sub (ws' := [(h0, .inr (1, [.ref x0, .ref x1, .ref x2, .int 0, .int 0])), (x0, .inl (cI, 6, .inl (fun _ => (0 : Int32)))), (x1, .inl (cI, 6, .inl (fun _ => (0 : Int32)))), (x2, .inl (cI, 6, .inl (fun _ => (0 : Int32))))]) [0, 1, 2, 3] rfl
  have hD9 := hD.sub (ws' := [(h0, .inr (1, [.ref x0, .ref x1, .ref x2, .int 0, .int 0])), (x0, .inl (cI, 6, .inl (fun _ => (0 : Int32)))), (x1, .inl (cI, 6, .inl (fun _ => (0 : Int32)))), (x2, .inl (cI, 6, .inl (fun _ => (0 : Int32))))]) [0, 1, 2, 3] (by decide) rfl
  exact W.vret hx hb hr (fun t ht hW => ⟨⟨(), rfl, trivial, by rw [ht]; exact hP9, va_K.moved hW.alike hK, hD9⟩, hS.F ht⟩) hS.2.2 dX1_clear_45

set_option maxHeartbeats 1000000 in
set_option maxRecDepth 100000 in
theorem c_X1_partsOut (l : Launch) (dC : Nat → ClassId) (dI : Nat → Nat → Nat) (cI cZ cG cP cC cD cQ : ClassId) (h0 : Nat) (x0 : Nat) (x1 : Nat) (x2 : Nat) (sz : Nat)  : Met l yX1_partsOut wsX1_partsOut ({ frames := 0, cells := 0, slots := 0, locals := 0 }) (va_Pc [.ref h0] (fun U => U.heap.size = sz ∧ va_P (dC, dI) vwCl [(h0, .inr (1, [.ref x0, .ref x1, .ref x2, .int 0, .int 0])), (x0, .inl (cI, 6, .inl (fun _ => (0 : Int32)))), (x1, .inl (cI, 6, .inl (fun _ => (0 : Int32)))), (x2, .inl (cI, 6, .inl (fun _ => (0 : Int32))))] U.heap ∧ va_K (dC, dI) vwCl [(cI, .int), (cZ, .boolean), (cG, .object "GrazeBook$Ground"), (cP, .object "GrazeBook$Purse"), (cC, .object "GrazeBook$Claim"), (cD, .object "GrazeBook$Drove"), (cQ, .array .int)] U ∧ va_D (fun _ => True) [(h0, .inr (1, [.ref x0, .ref x1, .ref x2, .int 0, .int 0])), (x0, .inl (cI, 6, .inl (fun _ => (0 : Int32)))), (x1, .inl (cI, 6, .inl (fun _ => (0 : Int32)))), (x2, .inl (cI, 6, .inl (fun _ => (0 : Int32))))])) (va_Qi (fun (r : Int32) (_ : Unit) => r = 0) (fun (_ : Unit) (t : State) => va_P (dC, dI) vwCl [] t.heap ∧ va_K (dC, dI) vwCl [(cI, .int), (cZ, .boolean), (cG, .object "GrazeBook$Ground"), (cP, .object "GrazeBook$Purse"), (cC, .object "GrazeBook$Claim"), (cD, .object "GrazeBook$Drove"), (cQ, .array .int)] t ∧ va_D (va_A [(h0, .inr (1, [.ref x0, .ref x1, .ref x2, .int 0, .int 0])), (x0, .inl (cI, 6, .inl (fun _ => (0 : Int32)))), (x1, .inl (cI, 6, .inl (fun _ => (0 : Int32)))), (x2, .inl (cI, 6, .inl (fun _ => (0 : Int32))))] sz) []) (va_A [(h0, .inr (1, [.ref x0, .ref x1, .ref x2, .int 0, .int 0])), (x0, .inl (cI, 6, .inl (fun _ => (0 : Int32)))), (x1, .inl (cI, 6, .inl (fun _ => (0 : Int32)))), (x2, .inl (cI, 6, .inl (fun _ => (0 : Int32))))] sz)) 0 0 (va_A [(h0, .inr (1, [.ref x0, .ref x1, .ref x2, .int 0, .int 0])), (x0, .inl (cI, 6, .inl (fun _ => (0 : Int32)))), (x1, .inl (cI, 6, .inl (fun _ => (0 : Int32)))), (x2, .inl (cI, 6, .inl (fun _ => (0 : Int32))))] sz) := by
  refine Met.ofW (cc := cX1_partsOut) (maxL := 3) (ret := (some .int)) (by decide) rfl ?_
  intro p e s m args below meth c s₁ B hml hv
  obtain ⟨rfl, hsz, hP, hK, hD0⟩ := hv
  have hx := B.exec
  have hb := B.bytes
  have hr := B.returns
  have hts := atoms_spec (ws := wsX1_partsOut) B.pre
  have hown : s.vm.findClass RX1 = some m.cls := findClass_of_methodNamed B.named
  have hlocks := B.notSynchronized
  have hu1 : ∀ w ∈ u_ws RX1 TX1 5, w ∈ wsX1_partsOut := by decide +kernel
  subst hsz
  have hD := hD0.self (sz := s.heap.size)
  generalize hAe : va_A [(h0, .inr (1, [.ref x0, .ref x1, .ref x2, .int 0, .int 0])), (x0, .inl (cI, 6, .inl (fun _ => (0 : Int32)))), (x1, .inl (cI, 6, .inl (fun _ => (0 : Int32)))), (x2, .inl (cI, 6, .inl (fun _ => (0 : Int32))))] s.heap.size = A at hD ⊢
  have hA : ∀ q : Nat, s.heap.size ≤ q → A q := fun q h => by rw [← hAe]; exact Or.inr h
  have hS : va_S A s.heap s.heap [] := va_S.rf
  have hl := lv_entry ([.ref h0]) (n := 3) (Nat.le_of_ble_eq_true rfl)
  rw [lg_entry_eq]
  generalize (lg_sl ([.ref h0]) ++ List.replicate (3 - (lg_sl ([.ref h0])).length) Slot.unset).toArray = ls at hl ⊢
  have hl : lv_has ls 3 [(0, .ref h0)] := hl
  obtain ⟨H, hH⟩ : ∃ H, H = s.heap := ⟨_, rfl⟩
  have hP : va_P (dC, dI) vwCl [(h0, .inr (1, [.ref x0, .ref x1, .ref x2, .int 0, .int 0])), (x0, .inl (cI, 6, .inl (fun _ => (0 : Int32)))), (x1, .inl (cI, 6, .inl (fun _ => (0 : Int32)))), (x2, .inl (cI, 6, .inl (fun _ => (0 : Int32))))] H := by rw [hH]; exact hP
  have hS : va_S A s.heap H [] := by rw [hH]; exact hS
  show W _ _ _ _ _ _ _ _ _ _ s.heap _ _ _ _ _
  rw [← hH]
  refine lv_iconst (v := 0) hx hb dX1_partsOut_0 (by decide) ?_
  refine lv_istore_n (lv' := [(1, .int 0), (0, .ref h0)]) hx hb dX1_partsOut_1 rfl hl (by decide) rfl (fun ls hl => ?_)
  refine lv_iconst (v := 0) hx hb dX1_partsOut_2 (by decide) ?_
  refine lv_istore_n (lv' := [(2, .int 0), (1, .int 0), (0, .ref h0)]) hx hb dX1_partsOut_3 rfl hl (by decide) rfl (fun ls hl => ?_)
  refine lv_iload_n hx hb dX1_partsOut_4 rfl (lv_at hl 0 rfl) ?_
  refine lv_bipush (v := 6) hx hb dX1_partsOut_5 (by decide) ?_
  refine lv_icmp_ge (tgt := 32) hx hb dX1_partsOut_7 (by decide) (fun c_1 => absurd c_1 (by decide)) (fun c_1 => ?_)
  refine lv_iload_n hx hb dX1_partsOut_10 rfl (lv_at hl 1 rfl) ?_
  refine lv_aload_n hx hb dX1_partsOut_11 rfl (lv_at hl 2 rfl) ?_
  refine va_get (D := (dC, dI)) (ci := 1) (v := .ref x0) (C := RX1) (T := TX1) (N := 5) hx hb hts hu1 hown hK hP 0 rfl rfl 0 (by decide) (hts (.fieldLink RX1 9 "GrazeBook$Cover" "sheepOn" "[I") (by decide +kernel)) (fun _ h9 => h9) rfl dX1_partsOut_12 ?_
  refine lv_iload_n hx hb dX1_partsOut_15 rfl (lv_at hl 0 rfl) ?_
  refine va_iald hx hb hK hP 1 0 rfl rfl (by unfold vp_in; decide) dX1_partsOut_16 ?_
  refine lv_topi (fun z9 ez9 => ?_)
  obtain rfl : z9 = 0 := ez9
  refine lv_aload_n hx hb dX1_partsOut_17 rfl (lv_at hl 2 rfl) ?_
  refine va_get (D := (dC, dI)) (ci := 1) (v := .ref x1) (C := RX1) (T := TX1) (N := 5) hx hb hts hu1 hown hK hP 0 rfl rfl 1 (by decide) (hts (.fieldLink RX1 15 "GrazeBook$Cover" "othersOn" "[I") (by decide +kernel)) (fun _ h9 => h9) rfl dX1_partsOut_18 ?_
  refine lv_iload_n hx hb dX1_partsOut_21 rfl (lv_at hl 0 rfl) ?_
  refine va_iald hx hb hK hP 2 0 rfl rfl (by unfold vp_in; decide) dX1_partsOut_22 ?_
  refine lv_topi (fun z9 ez9 => ?_)
  obtain rfl : z9 = 0 := ez9
  refine lv_iadd hx hb dX1_partsOut_23 ?_
  refine lv_topi (fun v_2 ev_2 => ?_)
  obtain rfl : v_2 = 0 := ev_2.trans (by decide)
  refine lv_iadd hx hb dX1_partsOut_24 ?_
  refine lv_topi (fun v_3 ev_3 => ?_)
  obtain rfl : v_3 = 0 := ev_3.trans (by decide)
  refine lv_istore_n (lv' := [(1, .int 0), (2, .int 0), (0, .ref h0)]) hx hb dX1_partsOut_25 rfl hl (by decide) rfl (fun ls hl => ?_)
  refine lv_iinc (v := 1) (lv' := [(2, .int 1), (1, .int 0), (0, .ref h0)]) hx hb dX1_partsOut_26 hl (k := 1) rfl (by decide) (by decide) rfl (fun ls hl => ?_)
  refine lv_goto (tgt := 4) hx hb dX1_partsOut_29 (by decide) ?_
  refine lv_iload_n hx hb dX1_partsOut_4 rfl (lv_at hl 0 rfl) ?_
  refine lv_bipush (v := 6) hx hb dX1_partsOut_5 (by decide) ?_
  refine lv_icmp_ge (tgt := 32) hx hb dX1_partsOut_7 (by decide) (fun c_4 => absurd c_4 (by decide)) (fun c_4 => ?_)
  refine lv_iload_n hx hb dX1_partsOut_10 rfl (lv_at hl 1 rfl) ?_
  refine lv_aload_n hx hb dX1_partsOut_11 rfl (lv_at hl 2 rfl) ?_
  refine va_get (D := (dC, dI)) (ci := 1) (v := .ref x0) (C := RX1) (T := TX1) (N := 5) hx hb hts hu1 hown hK hP 0 rfl rfl 0 (by decide) (hts (.fieldLink RX1 9 "GrazeBook$Cover" "sheepOn" "[I") (by decide +kernel)) (fun _ h9 => h9) rfl dX1_partsOut_12 ?_
  refine lv_iload_n hx hb dX1_partsOut_15 rfl (lv_at hl 0 rfl) ?_
  refine va_iald hx hb hK hP 1 0 rfl rfl (by unfold vp_in; decide) dX1_partsOut_16 ?_
  refine lv_topi (fun z9 ez9 => ?_)
  obtain rfl : z9 = 0 := ez9
  refine lv_aload_n hx hb dX1_partsOut_17 rfl (lv_at hl 2 rfl) ?_
  refine va_get (D := (dC, dI)) (ci := 1) (v := .ref x1) (C := RX1) (T := TX1) (N := 5) hx hb hts hu1 hown hK hP 0 rfl rfl 1 (by decide) (hts (.fieldLink RX1 15 "GrazeBook$Cover" "othersOn" "[I") (by decide +kernel)) (fun _ h9 => h9) rfl dX1_partsOut_18 ?_
  refine lv_iload_n hx hb dX1_partsOut_21 rfl (lv_at hl 0 rfl) ?_
  refine va_iald hx hb hK hP 2 0 rfl rfl (by unfold vp_in; decide) dX1_partsOut_22 ?_
  refine lv_topi (fun z9 ez9 => ?_)
  obtain rfl : z9 = 0 := ez9
  refine lv_iadd hx hb dX1_partsOut_23 ?_
  refine lv_topi (fun v_5 ev_5 => ?_)
  obtain rfl : v_5 = 0 := ev_5.trans (by decide)
  refine lv_iadd hx hb dX1_partsOut_24 ?_
  refine lv_topi (fun v_6 ev_6 => ?_)
  obtain rfl : v_6 = 0 := ev_6.trans (by decide)
  refine lv_istore_n (lv' := [(1, .int 0), (2, .int 1), (0, .ref h0)]) hx hb dX1_partsOut_25 rfl hl (by decide) rfl (fun ls hl => ?_)
  refine lv_iinc (v := 2) (lv' := [(2, .int 2), (1, .int 0), (0, .ref h0)]) hx hb dX1_partsOut_26 hl (k := 1) rfl (by decide) (by decide) rfl (fun ls hl => ?_)
  refine lv_goto (tgt := 4) hx hb dX1_partsOut_29 (by decide) ?_
  refine lv_iload_n hx hb dX1_partsOut_4 rfl (lv_at hl 0 rfl) ?_
  refine lv_bipush (v := 6) hx hb dX1_partsOut_5 (by decide) ?_
  refine lv_icmp_ge (tgt := 32) hx hb dX1_partsOut_7 (by decide) (fun c_7 => absurd c_7 (by decide)) (fun c_7 => ?_)
  refine lv_iload_n hx hb dX1_partsOut_10 rfl (lv_at hl 1 rfl) ?_
  refine lv_aload_n hx hb dX1_partsOut_11 rfl (lv_at hl 2 rfl) ?_
  refine va_get (D := (dC, dI)) (ci := 1) (v := .ref x0) (C := RX1) (T := TX1) (N := 5) hx hb hts hu1 hown hK hP 0 rfl rfl 0 (by decide) (hts (.fieldLink RX1 9 "GrazeBook$Cover" "sheepOn" "[I") (by decide +kernel)) (fun _ h9 => h9) rfl dX1_partsOut_12 ?_
  refine lv_iload_n hx hb dX1_partsOut_15 rfl (lv_at hl 0 rfl) ?_
  refine va_iald hx hb hK hP 1 0 rfl rfl (by unfold vp_in; decide) dX1_partsOut_16 ?_
  refine lv_topi (fun z9 ez9 => ?_)
  obtain rfl : z9 = 0 := ez9
  refine lv_aload_n hx hb dX1_partsOut_17 rfl (lv_at hl 2 rfl) ?_
  refine va_get (D := (dC, dI)) (ci := 1) (v := .ref x1) (C := RX1) (T := TX1) (N := 5) hx hb hts hu1 hown hK hP 0 rfl rfl 1 (by decide) (hts (.fieldLink RX1 15 "GrazeBook$Cover" "othersOn" "[I") (by decide +kernel)) (fun _ h9 => h9) rfl dX1_partsOut_18 ?_
  refine lv_iload_n hx hb dX1_partsOut_21 rfl (lv_at hl 0 rfl) ?_
  refine va_iald hx hb hK hP 2 0 rfl rfl (by unfold vp_in; decide) dX1_partsOut_22 ?_
  refine lv_topi (fun z9 ez9 => ?_)
  obtain rfl : z9 = 0 := ez9
  refine lv_iadd hx hb dX1_partsOut_23 ?_
  refine lv_topi (fun v_8 ev_8 => ?_)
  obtain rfl : v_8 = 0 := ev_8.trans (by decide)
  refine lv_iadd hx hb dX1_partsOut_24 ?_
  refine lv_topi (fun v_9 ev_9 => ?_)
  obtain rfl : v_9 = 0 := ev_9.trans (by decide)
  refine lv_istore_n (lv' := [(1, .int 0), (2, .int 2), (0, .ref h0)]) hx hb dX1_partsOut_25 rfl hl (by decide) rfl (fun ls hl => ?_)
  refine lv_iinc (v := 3) (lv' := [(2, .int 3), (1, .int 0), (0, .ref h0)]) hx hb dX1_partsOut_26 hl (k := 1) rfl (by decide) (by decide) rfl (fun ls hl => ?_)
  refine lv_goto (tgt := 4) hx hb dX1_partsOut_29 (by decide) ?_
  refine lv_iload_n hx hb dX1_partsOut_4 rfl (lv_at hl 0 rfl) ?_
  refine lv_bipush (v := 6) hx hb dX1_partsOut_5 (by decide) ?_
  refine lv_icmp_ge (tgt := 32) hx hb dX1_partsOut_7 (by decide) (fun c_10 => absurd c_10 (by decide)) (fun c_10 => ?_)
  refine lv_iload_n hx hb dX1_partsOut_10 rfl (lv_at hl 1 rfl) ?_
  refine lv_aload_n hx hb dX1_partsOut_11 rfl (lv_at hl 2 rfl) ?_
  refine va_get (D := (dC, dI)) (ci := 1) (v := .ref x0) (C := RX1) (T := TX1) (N := 5) hx hb hts hu1 hown hK hP 0 rfl rfl 0 (by decide) (hts (.fieldLink RX1 9 "GrazeBook$Cover" "sheepOn" "[I") (by decide +kernel)) (fun _ h9 => h9) rfl dX1_partsOut_12 ?_
  refine lv_iload_n hx hb dX1_partsOut_15 rfl (lv_at hl 0 rfl) ?_
  refine va_iald hx hb hK hP 1 0 rfl rfl (by unfold vp_in; decide) dX1_partsOut_16 ?_
  refine lv_topi (fun z9 ez9 => ?_)
  obtain rfl : z9 = 0 := ez9
  refine lv_aload_n hx hb dX1_partsOut_17 rfl (lv_at hl 2 rfl) ?_
  refine va_get (D := (dC, dI)) (ci := 1) (v := .ref x1) (C := RX1) (T := TX1) (N := 5) hx hb hts hu1 hown hK hP 0 rfl rfl 1 (by decide) (hts (.fieldLink RX1 15 "GrazeBook$Cover" "othersOn" "[I") (by decide +kernel)) (fun _ h9 => h9) rfl dX1_partsOut_18 ?_
  refine lv_iload_n hx hb dX1_partsOut_21 rfl (lv_at hl 0 rfl) ?_
  refine va_iald hx hb hK hP 2 0 rfl rfl (by unfold vp_in; decide) dX1_partsOut_22 ?_
  refine lv_topi (fun z9 ez9 => ?_)
  obtain rfl : z9 = 0 := ez9
  refine lv_iadd hx hb dX1_partsOut_23 ?_
  refine lv_topi (fun v_11 ev_11 => ?_)
  obtain rfl : v_11 = 0 := ev_11.trans (by decide)
  refine lv_iadd hx hb dX1_partsOut_24 ?_
  refine lv_topi (fun v_12 ev_12 => ?_)
  obtain rfl : v_12 = 0 := ev_12.trans (by decide)
  refine lv_istore_n (lv' := [(1, .int 0), (2, .int 3), (0, .ref h0)]) hx hb dX1_partsOut_25 rfl hl (by decide) rfl (fun ls hl => ?_)
  refine lv_iinc (v := 4) (lv' := [(2, .int 4), (1, .int 0), (0, .ref h0)]) hx hb dX1_partsOut_26 hl (k := 1) rfl (by decide) (by decide) rfl (fun ls hl => ?_)
  refine lv_goto (tgt := 4) hx hb dX1_partsOut_29 (by decide) ?_
  refine lv_iload_n hx hb dX1_partsOut_4 rfl (lv_at hl 0 rfl) ?_
  refine lv_bipush (v := 6) hx hb dX1_partsOut_5 (by decide) ?_
  refine lv_icmp_ge (tgt := 32) hx hb dX1_partsOut_7 (by decide) (fun c_13 => absurd c_13 (by decide)) (fun c_13 => ?_)
  refine lv_iload_n hx hb dX1_partsOut_10 rfl (lv_at hl 1 rfl) ?_
  refine lv_aload_n hx hb dX1_partsOut_11 rfl (lv_at hl 2 rfl) ?_
  refine va_get (D := (dC, dI)) (ci := 1) (v := .ref x0) (C := RX1) (T := TX1) (N := 5) hx hb hts hu1 hown hK hP 0 rfl rfl 0 (by decide) (hts (.fieldLink RX1 9 "GrazeBook$Cover" "sheepOn" "[I") (by decide +kernel)) (fun _ h9 => h9) rfl dX1_partsOut_12 ?_
  refine lv_iload_n hx hb dX1_partsOut_15 rfl (lv_at hl 0 rfl) ?_
  refine va_iald hx hb hK hP 1 0 rfl rfl (by unfold vp_in; decide) dX1_partsOut_16 ?_
  refine lv_topi (fun z9 ez9 => ?_)
  obtain rfl : z9 = 0 := ez9
  refine lv_aload_n hx hb dX1_partsOut_17 rfl (lv_at hl 2 rfl) ?_
  refine va_get (D := (dC, dI)) (ci := 1) (v := .ref x1) (C := RX1) (T := TX1) (N := 5) hx hb hts hu1 hown hK hP 0 rfl rfl 1 (by decide) (hts (.fieldLink RX1 15 "GrazeBook$Cover" "othersOn" "[I") (by decide +kernel)) (fun _ h9 => h9) rfl dX1_partsOut_18 ?_
  refine lv_iload_n hx hb dX1_partsOut_21 rfl (lv_at hl 0 rfl) ?_
  refine va_iald hx hb hK hP 2 0 rfl rfl (by unfold vp_in; decide) dX1_partsOut_22 ?_
  refine lv_topi (fun z9 ez9 => ?_)
  obtain rfl : z9 = 0 := ez9
  refine lv_iadd hx hb dX1_partsOut_23 ?_
  refine lv_topi (fun v_14 ev_14 => ?_)
  obtain rfl : v_14 = 0 := ev_14.trans (by decide)
  refine lv_iadd hx hb dX1_partsOut_24 ?_
  refine lv_topi (fun v_15 ev_15 => ?_)
  obtain rfl : v_15 = 0 := ev_15.trans (by decide)
  refine lv_istore_n (lv' := [(1, .int 0), (2, .int 4), (0, .ref h0)]) hx hb dX1_partsOut_25 rfl hl (by decide) rfl (fun ls hl => ?_)
  refine lv_iinc (v := 5) (lv' := [(2, .int 5), (1, .int 0), (0, .ref h0)]) hx hb dX1_partsOut_26 hl (k := 1) rfl (by decide) (by decide) rfl (fun ls hl => ?_)
  refine lv_goto (tgt := 4) hx hb dX1_partsOut_29 (by decide) ?_
  refine lv_iload_n hx hb dX1_partsOut_4 rfl (lv_at hl 0 rfl) ?_
  refine lv_bipush (v := 6) hx hb dX1_partsOut_5 (by decide) ?_
  refine lv_icmp_ge (tgt := 32) hx hb dX1_partsOut_7 (by decide) (fun c_16 => absurd c_16 (by decide)) (fun c_16 => ?_)
  refine lv_iload_n hx hb dX1_partsOut_10 rfl (lv_at hl 1 rfl) ?_
  refine lv_aload_n hx hb dX1_partsOut_11 rfl (lv_at hl 2 rfl) ?_
  refine va_get (D := (dC, dI)) (ci := 1) (v := .ref x0) (C := RX1) (T := TX1) (N := 5) hx hb hts hu1 hown hK hP 0 rfl rfl 0 (by decide) (hts (.fieldLink RX1 9 "GrazeBook$Cover" "sheepOn" "[I") (by decide +kernel)) (fun _ h9 => h9) rfl dX1_partsOut_12 ?_
  refine lv_iload_n hx hb dX1_partsOut_15 rfl (lv_at hl 0 rfl) ?_
  refine va_iald hx hb hK hP 1 0 rfl rfl (by unfold vp_in; decide) dX1_partsOut_16 ?_
  refine lv_topi (fun z9 ez9 => ?_)
  obtain rfl : z9 = 0 := ez9
  refine lv_aload_n hx hb dX1_partsOut_17 rfl (lv_at hl 2 rfl) ?_
  refine va_get (D := (dC, dI)) (ci := 1) (v := .ref x1) (C := RX1) (T := TX1) (N := 5) hx hb hts hu1 hown hK hP 0 rfl rfl 1 (by decide) (hts (.fieldLink RX1 15 "GrazeBook$Cover" "othersOn" "[I") (by decide +kernel)) (fun _ h9 => h9) rfl dX1_partsOut_18 ?_
  refine lv_iload_n hx hb dX1_partsOut_21 rfl (lv_at hl 0 rfl) ?_
  refine va_iald hx hb hK hP 2 0 rfl rfl (by unfold vp_in; decide) dX1_partsOut_22 ?_
  refine lv_topi (fun z9 ez9 => ?_)
  obtain rfl : z9 = 0 := ez9
  refine lv_iadd hx hb dX1_partsOut_23 ?_
  refine lv_topi (fun v_17 ev_17 => ?_)
  obtain rfl : v_17 = 0 := ev_17.trans (by decide)
  refine lv_iadd hx hb dX1_partsOut_24 ?_
  refine lv_topi (fun v_18 ev_18 => ?_)
  obtain rfl : v_18 = 0 := ev_18.trans (by decide)
  refine lv_istore_n (lv' := [(1, .int 0), (2, .int 5), (0, .ref h0)]) hx hb dX1_partsOut_25 rfl hl (by decide) rfl (fun ls hl => ?_)
  refine lv_iinc (v := 6) (lv' := [(2, .int 6), (1, .int 0), (0, .ref h0)]) hx hb dX1_partsOut_26 hl (k := 1) rfl (by decide) (by decide) rfl (fun ls hl => ?_)
  refine lv_goto (tgt := 4) hx hb dX1_partsOut_29 (by decide) ?_
  refine lv_iload_n hx hb dX1_partsOut_4 rfl (lv_at hl 0 rfl) ?_
  refine lv_bipush (v := 6) hx hb dX1_partsOut_5 (by decide) ?_
  refine lv_icmp_ge (tgt := 32) hx hb dX1_partsOut_7 (by decide) (fun c_19 => ?_) (fun c_19 => absurd (by decide) c_19)
  refine lv_iload_n hx hb dX1_partsOut_32 rfl (lv_at hl 1 rfl) ?_
  have hP9 := hP.sub (ws' := []) [] rfl
  have hD9 := hD.sub (ws' := []) [] (by decide) rfl
  exact W.iret (v := 0) hx hb hr (fun t ht hW => ⟨⟨0, (), rfl, rfl, by rw [ht]; exact hP9, va_K.moved hW.alike hK, hD9⟩, hS.F ht⟩) hS.2.2 dX1_partsOut_33

set_option maxHeartbeats 1000000 in
set_option maxRecDepth 100000 in
theorem c_X1_partsHeld (l : Launch) (dC : Nat → ClassId) (dI : Nat → Nat → Nat) (cI cZ cG cP cC cD cQ : ClassId) (h0 : Nat) (x0 : Nat) (x1 : Nat) (x2 : Nat) (sz : Nat)  : Met l yX1_partsHeld wsX1_partsHeld ({ frames := 0, cells := 0, slots := 0, locals := 0 }) (va_Pc [.ref h0] (fun U => U.heap.size = sz ∧ va_P (dC, dI) vwCl [(h0, .inr (1, [.ref x0, .ref x1, .ref x2, .int 0, .int 0])), (x0, .inl (cI, 6, .inl (fun _ => (0 : Int32)))), (x1, .inl (cI, 6, .inl (fun _ => (0 : Int32)))), (x2, .inl (cI, 6, .inl (fun _ => (0 : Int32))))] U.heap ∧ va_K (dC, dI) vwCl [(cI, .int), (cZ, .boolean), (cG, .object "GrazeBook$Ground"), (cP, .object "GrazeBook$Purse"), (cC, .object "GrazeBook$Claim"), (cD, .object "GrazeBook$Drove"), (cQ, .array .int)] U ∧ va_D (fun _ => True) [(h0, .inr (1, [.ref x0, .ref x1, .ref x2, .int 0, .int 0])), (x0, .inl (cI, 6, .inl (fun _ => (0 : Int32)))), (x1, .inl (cI, 6, .inl (fun _ => (0 : Int32)))), (x2, .inl (cI, 6, .inl (fun _ => (0 : Int32))))])) (va_Qi (fun (r : Int32) (_ : Unit) => r = 0) (fun (_ : Unit) (t : State) => va_P (dC, dI) vwCl [] t.heap ∧ va_K (dC, dI) vwCl [(cI, .int), (cZ, .boolean), (cG, .object "GrazeBook$Ground"), (cP, .object "GrazeBook$Purse"), (cC, .object "GrazeBook$Claim"), (cD, .object "GrazeBook$Drove"), (cQ, .array .int)] t ∧ va_D (va_A [(h0, .inr (1, [.ref x0, .ref x1, .ref x2, .int 0, .int 0])), (x0, .inl (cI, 6, .inl (fun _ => (0 : Int32)))), (x1, .inl (cI, 6, .inl (fun _ => (0 : Int32)))), (x2, .inl (cI, 6, .inl (fun _ => (0 : Int32))))] sz) []) (va_A [(h0, .inr (1, [.ref x0, .ref x1, .ref x2, .int 0, .int 0])), (x0, .inl (cI, 6, .inl (fun _ => (0 : Int32)))), (x1, .inl (cI, 6, .inl (fun _ => (0 : Int32)))), (x2, .inl (cI, 6, .inl (fun _ => (0 : Int32))))] sz)) 0 0 (va_A [(h0, .inr (1, [.ref x0, .ref x1, .ref x2, .int 0, .int 0])), (x0, .inl (cI, 6, .inl (fun _ => (0 : Int32)))), (x1, .inl (cI, 6, .inl (fun _ => (0 : Int32)))), (x2, .inl (cI, 6, .inl (fun _ => (0 : Int32))))] sz) := by
  refine Met.ofW (cc := cX1_partsHeld) (maxL := 3) (ret := (some .int)) (by decide) rfl ?_
  intro p e s m args below meth c s₁ B hml hv
  obtain ⟨rfl, hsz, hP, hK, hD0⟩ := hv
  have hx := B.exec
  have hb := B.bytes
  have hr := B.returns
  have hts := atoms_spec (ws := wsX1_partsHeld) B.pre
  have hown : s.vm.findClass RX1 = some m.cls := findClass_of_methodNamed B.named
  have hlocks := B.notSynchronized
  have hu1 : ∀ w ∈ u_ws RX1 TX1 5, w ∈ wsX1_partsHeld := by decide +kernel
  subst hsz
  have hD := hD0.self (sz := s.heap.size)
  generalize hAe : va_A [(h0, .inr (1, [.ref x0, .ref x1, .ref x2, .int 0, .int 0])), (x0, .inl (cI, 6, .inl (fun _ => (0 : Int32)))), (x1, .inl (cI, 6, .inl (fun _ => (0 : Int32)))), (x2, .inl (cI, 6, .inl (fun _ => (0 : Int32))))] s.heap.size = A at hD ⊢
  have hA : ∀ q : Nat, s.heap.size ≤ q → A q := fun q h => by rw [← hAe]; exact Or.inr h
  have hS : va_S A s.heap s.heap [] := va_S.rf
  have hl := lv_entry ([.ref h0]) (n := 3) (Nat.le_of_ble_eq_true rfl)
  rw [lg_entry_eq]
  generalize (lg_sl ([.ref h0]) ++ List.replicate (3 - (lg_sl ([.ref h0])).length) Slot.unset).toArray = ls at hl ⊢
  have hl : lv_has ls 3 [(0, .ref h0)] := hl
  obtain ⟨H, hH⟩ : ∃ H, H = s.heap := ⟨_, rfl⟩
  have hP : va_P (dC, dI) vwCl [(h0, .inr (1, [.ref x0, .ref x1, .ref x2, .int 0, .int 0])), (x0, .inl (cI, 6, .inl (fun _ => (0 : Int32)))), (x1, .inl (cI, 6, .inl (fun _ => (0 : Int32)))), (x2, .inl (cI, 6, .inl (fun _ => (0 : Int32))))] H := by rw [hH]; exact hP
  have hS : va_S A s.heap H [] := by rw [hH]; exact hS
  show W _ _ _ _ _ _ _ _ _ _ s.heap _ _ _ _ _
  rw [← hH]
  refine lv_aload_n hx hb dX1_partsHeld_0 rfl (lv_at hl 0 rfl) ?_
  refine va_get (D := (dC, dI)) (ci := 1) (v := .int 0) (C := RX1) (T := TX1) (N := 5) hx hb hts hu1 hown hK hP 0 rfl rfl 3 (by decide) (hts (.fieldLink RX1 21 "GrazeBook$Cover" "walks" "I") (by decide +kernel)) (fun _ h9 => h9) rfl dX1_partsHeld_1 ?_
  refine lv_aload_n hx hb dX1_partsHeld_4 rfl (lv_at hl 0 rfl) ?_
  refine va_get (D := (dC, dI)) (ci := 1) (v := .int 0) (C := RX1) (T := TX1) (N := 5) hx hb hts hu1 hown hK hP 0 rfl rfl 4 (by decide) (hts (.fieldLink RX1 25 "GrazeBook$Cover" "forAny" "I") (by decide +kernel)) (fun _ h9 => h9) rfl dX1_partsHeld_5 ?_
  refine lv_iadd hx hb dX1_partsHeld_8 ?_
  refine lv_topi (fun v_1 ev_1 => ?_)
  obtain rfl : v_1 = 0 := ev_1.trans (by decide)
  refine lv_istore_n (lv' := [(1, .int 0), (0, .ref h0)]) hx hb dX1_partsHeld_9 rfl hl (by decide) rfl (fun ls hl => ?_)
  refine lv_iconst (v := 0) hx hb dX1_partsHeld_10 (by decide) ?_
  refine lv_istore_n (lv' := [(2, .int 0), (1, .int 0), (0, .ref h0)]) hx hb dX1_partsHeld_11 rfl hl (by decide) rfl (fun ls hl => ?_)
  refine lv_iload_n hx hb dX1_partsHeld_12 rfl (lv_at hl 0 rfl) ?_
  refine lv_bipush (v := 6) hx hb dX1_partsHeld_13 (by decide) ?_
  refine lv_icmp_ge (tgt := 33) hx hb dX1_partsHeld_15 (by decide) (fun c_2 => absurd c_2 (by decide)) (fun c_2 => ?_)
  refine lv_iload_n hx hb dX1_partsHeld_18 rfl (lv_at hl 1 rfl) ?_
  refine lv_aload_n hx hb dX1_partsHeld_19 rfl (lv_at hl 2 rfl) ?_
  refine va_get (D := (dC, dI)) (ci := 1) (v := .ref x2) (C := RX1) (T := TX1) (N := 5) hx hb hts hu1 hown hK hP 0 rfl rfl 2 (by decide) (hts (.fieldLink RX1 18 "GrazeBook$Cover" "leazesFor" "[I") (by decide +kernel)) (fun _ h9 => h9) rfl dX1_partsHeld_20 ?_
  refine lv_iload_n hx hb dX1_partsHeld_23 rfl (lv_at hl 0 rfl) ?_
  refine va_iald hx hb hK hP 3 0 rfl rfl (by unfold vp_in; decide) dX1_partsHeld_24 ?_
  refine lv_topi (fun z9 ez9 => ?_)
  obtain rfl : z9 = 0 := ez9
  refine lv_iadd hx hb dX1_partsHeld_25 ?_
  refine lv_topi (fun v_3 ev_3 => ?_)
  obtain rfl : v_3 = 0 := ev_3.trans (by decide)
  refine lv_istore_n (lv' := [(1, .int 0), (2, .int 0), (0, .ref h0)]) hx hb dX1_partsHeld_26 rfl hl (by decide) rfl (fun ls hl => ?_)
  refine lv_iinc (v := 1) (lv' := [(2, .int 1), (1, .int 0), (0, .ref h0)]) hx hb dX1_partsHeld_27 hl (k := 1) rfl (by decide) (by decide) rfl (fun ls hl => ?_)
  refine lv_goto (tgt := 12) hx hb dX1_partsHeld_30 (by decide) ?_
  refine lv_iload_n hx hb dX1_partsHeld_12 rfl (lv_at hl 0 rfl) ?_
  refine lv_bipush (v := 6) hx hb dX1_partsHeld_13 (by decide) ?_
  refine lv_icmp_ge (tgt := 33) hx hb dX1_partsHeld_15 (by decide) (fun c_4 => absurd c_4 (by decide)) (fun c_4 => ?_)
  refine lv_iload_n hx hb dX1_partsHeld_18 rfl (lv_at hl 1 rfl) ?_
  refine lv_aload_n hx hb dX1_partsHeld_19 rfl (lv_at hl 2 rfl) ?_
  refine va_get (D := (dC, dI)) (ci := 1) (v := .ref x2) (C := RX1) (T := TX1) (N := 5) hx hb hts hu1 hown hK hP 0 rfl rfl 2 (by decide) (hts (.fieldLink RX1 18 "GrazeBook$Cover" "leazesFor" "[I") (by decide +kernel)) (fun _ h9 => h9) rfl dX1_partsHeld_20 ?_
  refine lv_iload_n hx hb dX1_partsHeld_23 rfl (lv_at hl 0 rfl) ?_
  refine va_iald hx hb hK hP 3 0 rfl rfl (by unfold vp_in; decide) dX1_partsHeld_24 ?_
  refine lv_topi (fun z9 ez9 => ?_)
  obtain rfl : z9 = 0 := ez9
  refine lv_iadd hx hb dX1_partsHeld_25 ?_
  refine lv_topi (fun v_5 ev_5 => ?_)
  obtain rfl : v_5 = 0 := ev_5.trans (by decide)
  refine lv_istore_n (lv' := [(1, .int 0), (2, .int 1), (0, .ref h0)]) hx hb dX1_partsHeld_26 rfl hl (by decide) rfl (fun ls hl => ?_)
  refine lv_iinc (v := 2) (lv' := [(2, .int 2), (1, .int 0), (0, .ref h0)]) hx hb dX1_partsHeld_27 hl (k := 1) rfl (by decide) (by decide) rfl (fun ls hl => ?_)
  refine lv_goto (tgt := 12) hx hb dX1_partsHeld_30 (by decide) ?_
  refine lv_iload_n hx hb dX1_partsHeld_12 rfl (lv_at hl 0 rfl) ?_
  refine lv_bipush (v := 6) hx hb dX1_partsHeld_13 (by decide) ?_
  refine lv_icmp_ge (tgt := 33) hx hb dX1_partsHeld_15 (by decide) (fun c_6 => absurd c_6 (by decide)) (fun c_6 => ?_)
  refine lv_iload_n hx hb dX1_partsHeld_18 rfl (lv_at hl 1 rfl) ?_
  refine lv_aload_n hx hb dX1_partsHeld_19 rfl (lv_at hl 2 rfl) ?_
  refine va_get (D := (dC, dI)) (ci := 1) (v := .ref x2) (C := RX1) (T := TX1) (N := 5) hx hb hts hu1 hown hK hP 0 rfl rfl 2 (by decide) (hts (.fieldLink RX1 18 "GrazeBook$Cover" "leazesFor" "[I") (by decide +kernel)) (fun _ h9 => h9) rfl dX1_partsHeld_20 ?_
  refine lv_iload_n hx hb dX1_partsHeld_23 rfl (lv_at hl 0 rfl) ?_
  refine va_iald hx hb hK hP 3 0 rfl rfl (by unfold vp_in; decide) dX1_partsHeld_24 ?_
  refine lv_topi (fun z9 ez9 => ?_)
  obtain rfl : z9 = 0 := ez9
  refine lv_iadd hx hb dX1_partsHeld_25 ?_
  refine lv_topi (fun v_7 ev_7 => ?_)
  obtain rfl : v_7 = 0 := ev_7.trans (by decide)
  refine lv_istore_n (lv' := [(1, .int 0), (2, .int 2), (0, .ref h0)]) hx hb dX1_partsHeld_26 rfl hl (by decide) rfl (fun ls hl => ?_)
  refine lv_iinc (v := 3) (lv' := [(2, .int 3), (1, .int 0), (0, .ref h0)]) hx hb dX1_partsHeld_27 hl (k := 1) rfl (by decide) (by decide) rfl (fun ls hl => ?_)
  refine lv_goto (tgt := 12) hx hb dX1_partsHeld_30 (by decide) ?_
  refine lv_iload_n hx hb dX1_partsHeld_12 rfl (lv_at hl 0 rfl) ?_
  refine lv_bipush (v := 6) hx hb dX1_partsHeld_13 (by decide) ?_
  refine lv_icmp_ge (tgt := 33) hx hb dX1_partsHeld_15 (by decide) (fun c_8 => absurd c_8 (by decide)) (fun c_8 => ?_)
  refine lv_iload_n hx hb dX1_partsHeld_18 rfl (lv_at hl 1 rfl) ?_
  refine lv_aload_n hx hb dX1_partsHeld_19 rfl (lv_at hl 2 rfl) ?_
  refine va_get (D := (dC, dI)) (ci := 1) (v := .ref x2) (C := RX1) (T := TX1) (N := 5) hx hb hts hu1 hown hK hP 0 rfl rfl 2 (by decide) (hts (.fieldLink RX1 18 "GrazeBook$Cover" "leazesFor" "[I") (by decide +kernel)) (fun _ h9 => h9) rfl dX1_partsHeld_20 ?_
  refine lv_iload_n hx hb dX1_partsHeld_23 rfl (lv_at hl 0 rfl) ?_
  refine va_iald hx hb hK hP 3 0 rfl rfl (by unfold vp_in; decide) dX1_partsHeld_24 ?_
  refine lv_topi (fun z9 ez9 => ?_)
  obtain rfl : z9 = 0 := ez9
  refine lv_iadd hx hb dX1_partsHeld_25 ?_
  refine lv_topi (fun v_9 ev_9 => ?_)
  obtain rfl : v_9 = 0 := ev_9.trans (by decide)
  refine lv_istore_n (lv' := [(1, .int 0), (2, .int 3), (0, .ref h0)]) hx hb dX1_partsHeld_26 rfl hl (by decide) rfl (fun ls hl => ?_)
  refine lv_iinc (v := 4) (lv' := [(2, .int 4), (1, .int 0), (0, .ref h0)]) hx hb dX1_partsHeld_27 hl (k := 1) rfl (by decide) (by decide) rfl (fun ls hl => ?_)
  refine lv_goto (tgt := 12) hx hb dX1_partsHeld_30 (by decide) ?_
  refine lv_iload_n hx hb dX1_partsHeld_12 rfl (lv_at hl 0 rfl) ?_
  refine lv_bipush (v := 6) hx hb dX1_partsHeld_13 (by decide) ?_
  refine lv_icmp_ge (tgt := 33) hx hb dX1_partsHeld_15 (by decide) (fun c_10 => absurd c_10 (by decide)) (fun c_10 => ?_)
  refine lv_iload_n hx hb dX1_partsHeld_18 rfl (lv_at hl 1 rfl) ?_
  refine lv_aload_n hx hb dX1_partsHeld_19 rfl (lv_at hl 2 rfl) ?_
  refine va_get (D := (dC, dI)) (ci := 1) (v := .ref x2) (C := RX1) (T := TX1) (N := 5) hx hb hts hu1 hown hK hP 0 rfl rfl 2 (by decide) (hts (.fieldLink RX1 18 "GrazeBook$Cover" "leazesFor" "[I") (by decide +kernel)) (fun _ h9 => h9) rfl dX1_partsHeld_20 ?_
  refine lv_iload_n hx hb dX1_partsHeld_23 rfl (lv_at hl 0 rfl) ?_
  refine va_iald hx hb hK hP 3 0 rfl rfl (by unfold vp_in; decide) dX1_partsHeld_24 ?_
  refine lv_topi (fun z9 ez9 => ?_)
  obtain rfl : z9 = 0 := ez9
  refine lv_iadd hx hb dX1_partsHeld_25 ?_
  refine lv_topi (fun v_11 ev_11 => ?_)
  obtain rfl : v_11 = 0 := ev_11.trans (by decide)
  refine lv_istore_n (lv' := [(1, .int 0), (2, .int 4), (0, .ref h0)]) hx hb dX1_partsHeld_26 rfl hl (by decide) rfl (fun ls hl => ?_)
  refine lv_iinc (v := 5) (lv' := [(2, .int 5), (1, .int 0), (0, .ref h0)]) hx hb dX1_partsHeld_27 hl (k := 1) rfl (by decide) (by decide) rfl (fun ls hl => ?_)
  refine lv_goto (tgt := 12) hx hb dX1_partsHeld_30 (by decide) ?_
  refine lv_iload_n hx hb dX1_partsHeld_12 rfl (lv_at hl 0 rfl) ?_
  refine lv_bipush (v := 6) hx hb dX1_partsHeld_13 (by decide) ?_
  refine lv_icmp_ge (tgt := 33) hx hb dX1_partsHeld_15 (by decide) (fun c_12 => absurd c_12 (by decide)) (fun c_12 => ?_)
  refine lv_iload_n hx hb dX1_partsHeld_18 rfl (lv_at hl 1 rfl) ?_
  refine lv_aload_n hx hb dX1_partsHeld_19 rfl (lv_at hl 2 rfl) ?_
  refine va_get (D := (dC, dI)) (ci := 1) (v := .ref x2) (C := RX1) (T := TX1) (N := 5) hx hb hts hu1 hown hK hP 0 rfl rfl 2 (by decide) (hts (.fieldLink RX1 18 "GrazeBook$Cover" "leazesFor" "[I") (by decide +kernel)) (fun _ h9 => h9) rfl dX1_partsHeld_20 ?_
  refine lv_iload_n hx hb dX1_partsHeld_23 rfl (lv_at hl 0 rfl) ?_
  refine va_iald hx hb hK hP 3 0 rfl rfl (by unfold vp_in; decide) dX1_partsHeld_24 ?_
  refine lv_topi (fun z9 ez9 => ?_)
  obtain rfl : z9 = 0 := ez9
  refine lv_iadd hx hb dX1_partsHeld_25 ?_
  refine lv_topi (fun v_13 ev_13 => ?_)
  obtain rfl : v_13 = 0 := ev_13.trans (by decide)
  refine lv_istore_n (lv' := [(1, .int 0), (2, .int 5), (0, .ref h0)]) hx hb dX1_partsHeld_26 rfl hl (by decide) rfl (fun ls hl => ?_)
  refine lv_iinc (v := 6) (lv' := [(2, .int 6), (1, .int 0), (0, .ref h0)]) hx hb dX1_partsHeld_27 hl (k := 1) rfl (by decide) (by decide) rfl (fun ls hl => ?_)
  refine lv_goto (tgt := 12) hx hb dX1_partsHeld_30 (by decide) ?_
  refine lv_iload_n hx hb dX1_partsHeld_12 rfl (lv_at hl 0 rfl) ?_
  refine lv_bipush (v := 6) hx hb dX1_partsHeld_13 (by decide) ?_
  refine lv_icmp_ge (tgt := 33) hx hb dX1_partsHeld_15 (by decide) (fun c_14 => ?_) (fun c_14 => absurd (by decide) c_14)
  refine lv_iload_n hx hb dX1_partsHeld_33 rfl (lv_at hl 1 rfl) ?_
  have hP9 := hP.sub (ws' := []) [] rfl
  have hD9 := hD.sub (ws' := []) [] (by decide) rfl
  exact W.iret (v := 0) hx hb hr (fun t ht hW => ⟨⟨0, (), rfl, rfl, by rw [ht]; exact hP9, va_K.moved hW.alike hK, hD9⟩, hS.F ht⟩) hS.2.2 dX1_partsHeld_34

set_option maxHeartbeats 1000000 in
set_option maxRecDepth 100000 in
theorem c_X8_coverOf (l : Launch) (dC : Nat → ClassId) (dI : Nat → Nat → Nat) (cI cZ cG cP cC cD cQ : ClassId) (h0 : Nat) (k0 : Nat) (k1 : Nat) (k2 : Nat) (k3 : Nat) (k4 : Nat) (k5 : Nat) (k6 : Nat) (k7 : Nat) (k8 : Nat) (k9 : Nat) (k10 : Nat) (x0 : Nat) (x1 : Nat) (x2 : Nat) (p0 : Int32) (sz : Nat)  : Met l yX8_coverOf wsX8_coverOf ({ frames := 1, cells := 0, slots := 0, locals := 21 }) (va_Pc [.ref h0, .int p0] (fun U => U.heap.size = sz ∧ va_P (dC, dI) vwCl [(h0, .inr (8, [.ref k0, .ref k1, .ref k2, .ref k3, .ref k4, .ref k5, .ref k6, .ref k7, .ref k8, .ref k9, .ref k10, .int 0, .int 0, .int 0, .int 0, .int 0, .int 0, .int 0, .int 0])), (k7, .inr (1, [.ref x0, .ref x1, .ref x2, .int 0, .int 0])), (x0, .inl (cI, 6, .inl (fun _ => (0 : Int32)))), (x1, .inl (cI, 6, .inl (fun _ => (0 : Int32)))), (x2, .inl (cI, 6, .inl (fun _ => (0 : Int32))))] U.heap ∧ va_K (dC, dI) vwCl [(cI, .int), (cZ, .boolean), (cG, .object "GrazeBook$Ground"), (cP, .object "GrazeBook$Purse"), (cC, .object "GrazeBook$Claim"), (cD, .object "GrazeBook$Drove"), (cQ, .array .int)] U ∧ va_D (fun _ => True) [(h0, .inr (8, [.ref k0, .ref k1, .ref k2, .ref k3, .ref k4, .ref k5, .ref k6, .ref k7, .ref k8, .ref k9, .ref k10, .int 0, .int 0, .int 0, .int 0, .int 0, .int 0, .int 0, .int 0])), (k7, .inr (1, [.ref x0, .ref x1, .ref x2, .int 0, .int 0])), (x0, .inl (cI, 6, .inl (fun _ => (0 : Int32)))), (x1, .inl (cI, 6, .inl (fun _ => (0 : Int32)))), (x2, .inl (cI, 6, .inl (fun _ => (0 : Int32))))])) (va_Qr (fun _ : Unit => True) (fun (_ : Unit) (a9 : Nat) (t : State) => a9 = k7 ∧ va_P (dC, dI) vwCl [(h0, .inr (8, [.ref k0, .ref k1, .ref k2, .ref k3, .ref k4, .ref k5, .ref k6, .ref k7, .ref k8, .ref k9, .ref k10, .int 0, .int 0, .int 0, .int 0, .int 0, .int 0, .int 0, .int 0])), (k7, .inr (1, [.ref x0, .ref x1, .ref x2, .int 0, .int 0])), (x0, .inl (cI, 6, .inl (fun _ => (0 : Int32)))), (x1, .inl (cI, 6, .inl (fun _ => (0 : Int32)))), (x2, .inl (cI, 6, .inl (fun _ => (0 : Int32))))] t.heap ∧ va_K (dC, dI) vwCl [(cI, .int), (cZ, .boolean), (cG, .object "GrazeBook$Ground"), (cP, .object "GrazeBook$Purse"), (cC, .object "GrazeBook$Claim"), (cD, .object "GrazeBook$Drove"), (cQ, .array .int)] t ∧ va_D (va_A [(h0, .inr (8, [.ref k0, .ref k1, .ref k2, .ref k3, .ref k4, .ref k5, .ref k6, .ref k7, .ref k8, .ref k9, .ref k10, .int 0, .int 0, .int 0, .int 0, .int 0, .int 0, .int 0, .int 0])), (k7, .inr (1, [.ref x0, .ref x1, .ref x2, .int 0, .int 0])), (x0, .inl (cI, 6, .inl (fun _ => (0 : Int32)))), (x1, .inl (cI, 6, .inl (fun _ => (0 : Int32)))), (x2, .inl (cI, 6, .inl (fun _ => (0 : Int32))))] sz) [(h0, .inr (8, [.ref k0, .ref k1, .ref k2, .ref k3, .ref k4, .ref k5, .ref k6, .ref k7, .ref k8, .ref k9, .ref k10, .int 0, .int 0, .int 0, .int 0, .int 0, .int 0, .int 0, .int 0])), (k7, .inr (1, [.ref x0, .ref x1, .ref x2, .int 0, .int 0])), (x0, .inl (cI, 6, .inl (fun _ => (0 : Int32)))), (x1, .inl (cI, 6, .inl (fun _ => (0 : Int32)))), (x2, .inl (cI, 6, .inl (fun _ => (0 : Int32))))]) (va_A [(h0, .inr (8, [.ref k0, .ref k1, .ref k2, .ref k3, .ref k4, .ref k5, .ref k6, .ref k7, .ref k8, .ref k9, .ref k10, .int 0, .int 0, .int 0, .int 0, .int 0, .int 0, .int 0, .int 0])), (k7, .inr (1, [.ref x0, .ref x1, .ref x2, .int 0, .int 0])), (x0, .inl (cI, 6, .inl (fun _ => (0 : Int32)))), (x1, .inl (cI, 6, .inl (fun _ => (0 : Int32)))), (x2, .inl (cI, 6, .inl (fun _ => (0 : Int32))))] sz)) 0 0 (va_A [(h0, .inr (8, [.ref k0, .ref k1, .ref k2, .ref k3, .ref k4, .ref k5, .ref k6, .ref k7, .ref k8, .ref k9, .ref k10, .int 0, .int 0, .int 0, .int 0, .int 0, .int 0, .int 0, .int 0])), (k7, .inr (1, [.ref x0, .ref x1, .ref x2, .int 0, .int 0])), (x0, .inl (cI, 6, .inl (fun _ => (0 : Int32)))), (x1, .inl (cI, 6, .inl (fun _ => (0 : Int32)))), (x2, .inl (cI, 6, .inl (fun _ => (0 : Int32))))] sz) := by
  refine Met.ofW (cc := cX8_coverOf) (maxL := 3) (ret := (some (.object "GrazeBook$Cover"))) (by decide) rfl ?_
  intro p e s m args below meth c s₁ B hml hv
  obtain ⟨rfl, hsz, hP, hK, hD0⟩ := hv
  have hx := B.exec
  have hb := B.bytes
  have hr := B.returns
  have hts := atoms_spec (ws := wsX8_coverOf) B.pre
  have hown : s.vm.findClass RX8 = some m.cls := findClass_of_methodNamed B.named
  have hlocks := B.notSynchronized
  have hu8 : ∀ w ∈ u_ws RX8 TX8 19, w ∈ wsX8_coverOf := by decide +kernel
  subst hsz
  have hD := hD0.self (sz := s.heap.size)
  generalize hAe : va_A [(h0, .inr (8, [.ref k0, .ref k1, .ref k2, .ref k3, .ref k4, .ref k5, .ref k6, .ref k7, .ref k8, .ref k9, .ref k10, .int 0, .int 0, .int 0, .int 0, .int 0, .int 0, .int 0, .int 0])), (k7, .inr (1, [.ref x0, .ref x1, .ref x2, .int 0, .int 0])), (x0, .inl (cI, 6, .inl (fun _ => (0 : Int32)))), (x1, .inl (cI, 6, .inl (fun _ => (0 : Int32)))), (x2, .inl (cI, 6, .inl (fun _ => (0 : Int32))))] s.heap.size = A at hD ⊢
  have hA : ∀ q : Nat, s.heap.size ≤ q → A q := fun q h => by rw [← hAe]; exact Or.inr h
  have hS : va_S A s.heap s.heap [] := va_S.rf
  have hl := lv_entry ([.ref h0, .int p0]) (n := 3) (Nat.le_of_ble_eq_true rfl)
  rw [lg_entry_eq]
  generalize (lg_sl ([.ref h0, .int p0]) ++ List.replicate (3 - (lg_sl ([.ref h0, .int p0])).length) Slot.unset).toArray = ls at hl ⊢
  have hl : lv_has ls 3 [(0, .ref h0), (1, .int p0)] := hl
  obtain ⟨H, hH⟩ : ∃ H, H = s.heap := ⟨_, rfl⟩
  have hP : va_P (dC, dI) vwCl [(h0, .inr (8, [.ref k0, .ref k1, .ref k2, .ref k3, .ref k4, .ref k5, .ref k6, .ref k7, .ref k8, .ref k9, .ref k10, .int 0, .int 0, .int 0, .int 0, .int 0, .int 0, .int 0, .int 0])), (k7, .inr (1, [.ref x0, .ref x1, .ref x2, .int 0, .int 0])), (x0, .inl (cI, 6, .inl (fun _ => (0 : Int32)))), (x1, .inl (cI, 6, .inl (fun _ => (0 : Int32)))), (x2, .inl (cI, 6, .inl (fun _ => (0 : Int32))))] H := by rw [hH]; exact hP
  have hS : va_S A s.heap H [] := by rw [hH]; exact hS
  show W _ _ _ _ _ _ _ _ _ _ s.heap _ _ _ _ _
  rw [← hH]
  refine lv_aload_n hx hb dX8_coverOf_0 rfl (lv_at hl 0 rfl) ?_
  refine va_get (D := (dC, dI)) (ci := 8) (v := .ref k7) (C := RX8) (T := TX8) (N := 19) hx hb hts hu8 hown hK hP 0 rfl rfl 7 (by decide) (hts (.fieldLink RX8 54 "GrazeBook" "cover" "LGrazeBook$Cover;") (by decide +kernel)) (fun _ h9 => h9) rfl dX8_coverOf_1 ?_
  have hPc := hP.sub (ws' := [(k7, .inr (1, [.ref x0, .ref x1, .ref x2, .int 0, .int 0])), (x0, .inl (cI, 6, .inl (fun _ => (0 : Int32)))), (x1, .inl (cI, 6, .inl (fun _ => (0 : Int32)))), (x2, .inl (cI, 6, .inl (fun _ => (0 : Int32))))]) [1, 2, 3, 4] rfl
  have hDc := hD.sub (ws' := [(k7, .inr (1, [.ref x0, .ref x1, .ref x2, .int 0, .int 0])), (x0, .inl (cI, 6, .inl (fun _ => (0 : Int32)))), (x1, .inl (cI, 6, .inl (fun _ => (0 : Int32)))), (x2, .inl (cI, 6, .inl (fun _ => (0 : Int32))))]) [1, 2, 3, 4] (by decide) rfl
  have hFc := va_free (wc := [(k7, .inr (1, [.ref x0, .ref x1, .ref x2, .int 0, .int 0])), (x0, .inl (cI, 6, .inl (fun _ => (0 : Int32)))), (x1, .inl (cI, 6, .inl (fun _ => (0 : Int32)))), (x2, .inl (cI, 6, .inl (fun _ => (0 : Int32))))]) hD hS hA [1, 2, 3, 4] rfl
  refine va_callv (va_runV (As := []) (rest := []) ⟨hx, hb, hml, hown, hts⟩ (c_X1_clear l dC dI cI cZ cG cP cC cD cQ k7 x0 x1 x2 H.size ) (cwV 0 hts gX8_coverOf_X1_clear rfl rfl rfl (by decide +kernel) ⟨Nat.le_of_ble_eq_true rfl, Nat.le_of_ble_eq_true rfl⟩) ⟨fun a U g mk q => by obtain ⟨q0, q1, qP, qK, qD⟩ := q; exact ⟨q0, q1, qP, va_K.moved (u := U) (U := U.calling g mk a) (Vm.Alike.refl U.vm) qK, qD⟩, va_recv hK hPc (ci := 1) (q0 := 0) rfl rfl, fun U hU hW => ⟨rfl, by rw [hU], by rw [hU]; exact hPc, va_K.moved hW.alike hK, hDc.weaken (fun _ _ _ _ => trivial)⟩⟩ rfl rfl hl.1 rfl (lv_room (Nat.le_of_ble_eq_true rfl)) dX8_coverOf_4 ⟨Nat.le_of_ble_eq_true rfl, Nat.le_of_ble_eq_true rfl⟩) hS (fun q _ h => hFc q h) hFc (fun u t H1 locs ht hvm hw hB hz1 hk1 hS => ?_)
  obtain ⟨hP1, hK1, hD1⟩ := hB
  rw [ht] at hP1
  obtain ⟨hP, hD⟩ := va_join (wr := [(h0, .inr (8, [.ref k0, .ref k1, .ref k2, .ref k3, .ref k4, .ref k5, .ref k6, .ref k7, .ref k8, .ref k9, .ref k10, .int 0, .int 0, .int 0, .int 0, .int 0, .int 0, .int 0, .int 0]))]) (w1 := [(k7, .inr (1, [.ref x0, .ref x1, .ref x2, .int 0, .int 0])), (x0, .inl (cI, 6, .inl (fun _ => (0 : Int32)))), (x1, .inl (cI, 6, .inl (fun _ => (0 : Int32)))), (x2, .inl (cI, 6, .inl (fun _ => (0 : Int32))))]) hP hD [1, 2, 3, 4] [0] rfl rfl (by decide) (by decide) hk1 hFc hP1 hD1
  generalize H1 = H at hP hS ⊢
  have hP : va_P (dC, dI) vwCl [(h0, .inr (8, [.ref k0, .ref k1, .ref k2, .ref k3, .ref k4, .ref k5, .ref k6, .ref k7, .ref k8, .ref k9, .ref k10, .int 0, .int 0, .int 0, .int 0, .int 0, .int 0, .int 0, .int 0])), (k7, .inr (1, [.ref x0, .ref x1, .ref x2, .int 0, .int 0])), (x0, .inl (cI, 6, .inl (fun _ => (0 : Int32)))), (x1, .inl (cI, 6, .inl (fun _ => (0 : Int32)))), (x2, .inl (cI, 6, .inl (fun _ => (0 : Int32))))] H := hP
  have hD : va_D A [(h0, .inr (8, [.ref k0, .ref k1, .ref k2, .ref k3, .ref k4, .ref k5, .ref k6, .ref k7, .ref k8, .ref k9, .ref k10, .int 0, .int 0, .int 0, .int 0, .int 0, .int 0, .int 0, .int 0])), (k7, .inr (1, [.ref x0, .ref x1, .ref x2, .int 0, .int 0])), (x0, .inl (cI, 6, .inl (fun _ => (0 : Int32)))), (x1, .inl (cI, 6, .inl (fun _ => (0 : Int32)))), (x2, .inl (cI, 6, .inl (fun _ => (0 : Int32))))] := hD
  refine lv_iconst (v := 0) hx hb dX8_coverOf_7 (by decide) ?_
  refine lv_istore_n (lv' := [(2, .int 0), (0, .ref h0), (1, .int p0)]) hx hb dX8_coverOf_8 rfl hl (by decide) rfl (fun ls hl => ?_)
  refine lv_iload_n hx hb dX8_coverOf_9 rfl (lv_at hl 0 rfl) ?_
  refine lv_aload_n hx hb dX8_coverOf_10 rfl (lv_at hl 1 rfl) ?_
  refine va_get (D := (dC, dI)) (ci := 8) (v := .int 0) (C := RX8) (T := TX8) (N := 19) hx hb hts hu8 hown hK hP 0 rfl rfl 15 (by decide) (hts (.fieldLink RX8 88 "GrazeBook" "herdCount" "I") (by decide +kernel)) (fun _ h9 => h9) rfl dX8_coverOf_11 ?_
  refine lv_icmp_ge (tgt := 49) hx hb dX8_coverOf_14 (by decide) (fun c_2 => ?_) (fun c_2 => absurd (by decide) c_2)
  refine lv_iconst (v := 0) hx hb dX8_coverOf_49 (by decide) ?_
  refine lv_istore_n (lv' := [(2, .int 0), (0, .ref h0), (1, .int p0)]) hx hb dX8_coverOf_50 rfl hl (by decide) rfl (fun ls hl => ?_)
  refine lv_iload_n hx hb dX8_coverOf_51 rfl (lv_at hl 0 rfl) ?_
  refine lv_aload_n hx hb dX8_coverOf_52 rfl (lv_at hl 1 rfl) ?_
  refine va_get (D := (dC, dI)) (ci := 8) (v := .int 0) (C := RX8) (T := TX8) (N := 19) hx hb hts hu8 hown hK hP 0 rfl rfl 14 (by decide) (hts (.fieldLink RX8 85 "GrazeBook" "rightCount" "I") (by decide +kernel)) (fun _ h9 => h9) rfl dX8_coverOf_53 ?_
  refine lv_icmp_ge (tgt := 97) hx hb dX8_coverOf_56 (by decide) (fun c_3 => ?_) (fun c_3 => absurd (by decide) c_3)
  refine lv_aload_n hx hb dX8_coverOf_97 rfl (lv_at hl 1 rfl) ?_
  refine va_get (D := (dC, dI)) (ci := 8) (v := .ref k7) (C := RX8) (T := TX8) (N := 19) hx hb hts hu8 hown hK hP 0 rfl rfl 7 (by decide) (hts (.fieldLink RX8 54 "GrazeBook" "cover" "LGrazeBook$Cover;") (by decide +kernel)) (fun _ h9 => h9) rfl dX8_coverOf_98 ?_
  have hP9 := hP.sub (ws' := [(h0, .inr (8, [.ref k0, .ref k1, .ref k2, .ref k3, .ref k4, .ref k5, .ref k6, .ref k7, .ref k8, .ref k9, .ref k10, .int 0, .int 0, .int 0, .int 0, .int 0, .int 0, .int 0, .int 0])), (k7, .inr (1, [.ref x0, .ref x1, .ref x2, .int 0, .int 0])), (x0, .inl (cI, 6, .inl (fun _ => (0 : Int32)))), (x1, .inl (cI, 6, .inl (fun _ => (0 : Int32)))), (x2, .inl (cI, 6, .inl (fun _ => (0 : Int32))))]) [0, 1, 2, 3, 4] rfl
  have hD9 := hD.sub (ws' := [(h0, .inr (8, [.ref k0, .ref k1, .ref k2, .ref k3, .ref k4, .ref k5, .ref k6, .ref k7, .ref k8, .ref k9, .ref k10, .int 0, .int 0, .int 0, .int 0, .int 0, .int 0, .int 0, .int 0])), (k7, .inr (1, [.ref x0, .ref x1, .ref x2, .int 0, .int 0])), (x0, .inl (cI, 6, .inl (fun _ => (0 : Int32)))), (x1, .inl (cI, 6, .inl (fun _ => (0 : Int32)))), (x2, .inl (cI, 6, .inl (fun _ => (0 : Int32))))]) [0, 1, 2, 3, 4] (by decide) rfl
  exact W.aret hx hb hr (Or.inl ⟨_, rfl⟩) (Or.inr ⟨_, rfl⟩) (fun t ht hW => ⟨⟨(), k7, rfl, trivial, rfl, by rw [ht]; exact hP9, va_K.moved hW.alike hK, hD9⟩, hS.F ht⟩) hS.2.2 dX8_coverOf_101

set_option maxHeartbeats 1000000 in
set_option maxRecDepth 100000 in
theorem c_X8_rightsInForce (l : Launch) (dC : Nat → ClassId) (dI : Nat → Nat → Nat) (cI cZ cG cP cC cD cQ : ClassId) (h0 : Nat) (k0 : Nat) (k1 : Nat) (k2 : Nat) (k3 : Nat) (k4 : Nat) (k5 : Nat) (k6 : Nat) (k7 : Nat) (k8 : Nat) (k9 : Nat) (k10 : Nat) (sz : Nat)  : Met l yX8_rightsInForce wsX8_rightsInForce ({ frames := 0, cells := 0, slots := 0, locals := 0 }) (va_Pc [.ref h0] (fun U => U.heap.size = sz ∧ va_P (dC, dI) vwCl [(h0, .inr (8, [.ref k0, .ref k1, .ref k2, .ref k3, .ref k4, .ref k5, .ref k6, .ref k7, .ref k8, .ref k9, .ref k10, .int 0, .int 0, .int 0, .int 0, .int 0, .int 0, .int 0, .int 0]))] U.heap ∧ va_K (dC, dI) vwCl [(cI, .int), (cZ, .boolean), (cG, .object "GrazeBook$Ground"), (cP, .object "GrazeBook$Purse"), (cC, .object "GrazeBook$Claim"), (cD, .object "GrazeBook$Drove"), (cQ, .array .int)] U ∧ va_D (fun _ => True) [(h0, .inr (8, [.ref k0, .ref k1, .ref k2, .ref k3, .ref k4, .ref k5, .ref k6, .ref k7, .ref k8, .ref k9, .ref k10, .int 0, .int 0, .int 0, .int 0, .int 0, .int 0, .int 0, .int 0]))])) (va_Qi (fun (r : Int32) (_ : Unit) => r = 0) (fun (_ : Unit) (t : State) => va_P (dC, dI) vwCl [] t.heap ∧ va_K (dC, dI) vwCl [(cI, .int), (cZ, .boolean), (cG, .object "GrazeBook$Ground"), (cP, .object "GrazeBook$Purse"), (cC, .object "GrazeBook$Claim"), (cD, .object "GrazeBook$Drove"), (cQ, .array .int)] t ∧ va_D (va_A [(h0, .inr (8, [.ref k0, .ref k1, .ref k2, .ref k3, .ref k4, .ref k5, .ref k6, .ref k7, .ref k8, .ref k9, .ref k10, .int 0, .int 0, .int 0, .int 0, .int 0, .int 0, .int 0, .int 0]))] sz) []) (va_A [(h0, .inr (8, [.ref k0, .ref k1, .ref k2, .ref k3, .ref k4, .ref k5, .ref k6, .ref k7, .ref k8, .ref k9, .ref k10, .int 0, .int 0, .int 0, .int 0, .int 0, .int 0, .int 0, .int 0]))] sz)) 0 0 (va_A [(h0, .inr (8, [.ref k0, .ref k1, .ref k2, .ref k3, .ref k4, .ref k5, .ref k6, .ref k7, .ref k8, .ref k9, .ref k10, .int 0, .int 0, .int 0, .int 0, .int 0, .int 0, .int 0, .int 0]))] sz) := by
  refine Met.ofW (cc := cX8_rightsInForce) (maxL := 3) (ret := (some .int)) (by decide) rfl ?_
  intro p e s m args below meth c s₁ B hml hv
  obtain ⟨rfl, hsz, hP, hK, hD0⟩ := hv
  have hx := B.exec
  have hb := B.bytes
  have hr := B.returns
  have hts := atoms_spec (ws := wsX8_rightsInForce) B.pre
  have hown : s.vm.findClass RX8 = some m.cls := findClass_of_methodNamed B.named
  have hlocks := B.notSynchronized
  have hu8 : ∀ w ∈ u_ws RX8 TX8 19, w ∈ wsX8_rightsInForce := by decide +kernel
  subst hsz
  have hD := hD0.self (sz := s.heap.size)
  generalize hAe : va_A [(h0, .inr (8, [.ref k0, .ref k1, .ref k2, .ref k3, .ref k4, .ref k5, .ref k6, .ref k7, .ref k8, .ref k9, .ref k10, .int 0, .int 0, .int 0, .int 0, .int 0, .int 0, .int 0, .int 0]))] s.heap.size = A at hD ⊢
  have hA : ∀ q : Nat, s.heap.size ≤ q → A q := fun q h => by rw [← hAe]; exact Or.inr h
  have hS : va_S A s.heap s.heap [] := va_S.rf
  have hl := lv_entry ([.ref h0]) (n := 3) (Nat.le_of_ble_eq_true rfl)
  rw [lg_entry_eq]
  generalize (lg_sl ([.ref h0]) ++ List.replicate (3 - (lg_sl ([.ref h0])).length) Slot.unset).toArray = ls at hl ⊢
  have hl : lv_has ls 3 [(0, .ref h0)] := hl
  obtain ⟨H, hH⟩ : ∃ H, H = s.heap := ⟨_, rfl⟩
  have hP : va_P (dC, dI) vwCl [(h0, .inr (8, [.ref k0, .ref k1, .ref k2, .ref k3, .ref k4, .ref k5, .ref k6, .ref k7, .ref k8, .ref k9, .ref k10, .int 0, .int 0, .int 0, .int 0, .int 0, .int 0, .int 0, .int 0]))] H := by rw [hH]; exact hP
  have hS : va_S A s.heap H [] := by rw [hH]; exact hS
  show W _ _ _ _ _ _ _ _ _ _ s.heap _ _ _ _ _
  rw [← hH]
  refine lv_iconst (v := 0) hx hb dX8_rightsInForce_0 (by decide) ?_
  refine lv_istore_n (lv' := [(1, .int 0), (0, .ref h0)]) hx hb dX8_rightsInForce_1 rfl hl (by decide) rfl (fun ls hl => ?_)
  refine lv_iconst (v := 0) hx hb dX8_rightsInForce_2 (by decide) ?_
  refine lv_istore_n (lv' := [(2, .int 0), (1, .int 0), (0, .ref h0)]) hx hb dX8_rightsInForce_3 rfl hl (by decide) rfl (fun ls hl => ?_)
  refine lv_iload_n hx hb dX8_rightsInForce_4 rfl (lv_at hl 0 rfl) ?_
  refine lv_aload_n hx hb dX8_rightsInForce_5 rfl (lv_at hl 2 rfl) ?_
  refine va_get (D := (dC, dI)) (ci := 8) (v := .int 0) (C := RX8) (T := TX8) (N := 19) hx hb hts hu8 hown hK hP 0 rfl rfl 14 (by decide) (hts (.fieldLink RX8 85 "GrazeBook" "rightCount" "I") (by decide +kernel)) (fun _ h9 => h9) rfl dX8_rightsInForce_6 ?_
  refine lv_icmp_ge (tgt := 37) hx hb dX8_rightsInForce_9 (by decide) (fun c_1 => ?_) (fun c_1 => absurd (by decide) c_1)
  refine lv_iload_n hx hb dX8_rightsInForce_37 rfl (lv_at hl 1 rfl) ?_
  have hP9 := hP.sub (ws' := []) [] rfl
  have hD9 := hD.sub (ws' := []) [] (by decide) rfl
  exact W.iret (v := 0) hx hb hr (fun t ht hW => ⟨⟨0, (), rfl, rfl, by rw [ht]; exact hP9, va_K.moved hW.alike hK, hD9⟩, hS.F ht⟩) hS.2.2 dX8_rightsInForce_38

set_option maxHeartbeats 1000000 in
set_option maxRecDepth 100000 in
theorem c_X8_herdsNotLost (l : Launch) (dC : Nat → ClassId) (dI : Nat → Nat → Nat) (cI cZ cG cP cC cD cQ : ClassId) (h0 : Nat) (k0 : Nat) (k1 : Nat) (k2 : Nat) (k3 : Nat) (k4 : Nat) (k5 : Nat) (k6 : Nat) (k7 : Nat) (k8 : Nat) (k9 : Nat) (k10 : Nat) (sz : Nat)  : Met l yX8_herdsNotLost wsX8_herdsNotLost ({ frames := 0, cells := 0, slots := 0, locals := 0 }) (va_Pc [.ref h0] (fun U => U.heap.size = sz ∧ va_P (dC, dI) vwCl [(h0, .inr (8, [.ref k0, .ref k1, .ref k2, .ref k3, .ref k4, .ref k5, .ref k6, .ref k7, .ref k8, .ref k9, .ref k10, .int 0, .int 0, .int 0, .int 0, .int 0, .int 0, .int 0, .int 0]))] U.heap ∧ va_K (dC, dI) vwCl [(cI, .int), (cZ, .boolean), (cG, .object "GrazeBook$Ground"), (cP, .object "GrazeBook$Purse"), (cC, .object "GrazeBook$Claim"), (cD, .object "GrazeBook$Drove"), (cQ, .array .int)] U ∧ va_D (fun _ => True) [(h0, .inr (8, [.ref k0, .ref k1, .ref k2, .ref k3, .ref k4, .ref k5, .ref k6, .ref k7, .ref k8, .ref k9, .ref k10, .int 0, .int 0, .int 0, .int 0, .int 0, .int 0, .int 0, .int 0]))])) (va_Qi (fun (r : Int32) (_ : Unit) => r = 0) (fun (_ : Unit) (t : State) => va_P (dC, dI) vwCl [] t.heap ∧ va_K (dC, dI) vwCl [(cI, .int), (cZ, .boolean), (cG, .object "GrazeBook$Ground"), (cP, .object "GrazeBook$Purse"), (cC, .object "GrazeBook$Claim"), (cD, .object "GrazeBook$Drove"), (cQ, .array .int)] t ∧ va_D (va_A [(h0, .inr (8, [.ref k0, .ref k1, .ref k2, .ref k3, .ref k4, .ref k5, .ref k6, .ref k7, .ref k8, .ref k9, .ref k10, .int 0, .int 0, .int 0, .int 0, .int 0, .int 0, .int 0, .int 0]))] sz) []) (va_A [(h0, .inr (8, [.ref k0, .ref k1, .ref k2, .ref k3, .ref k4, .ref k5, .ref k6, .ref k7, .ref k8, .ref k9, .ref k10, .int 0, .int 0, .int 0, .int 0, .int 0, .int 0, .int 0, .int 0]))] sz)) 0 0 (va_A [(h0, .inr (8, [.ref k0, .ref k1, .ref k2, .ref k3, .ref k4, .ref k5, .ref k6, .ref k7, .ref k8, .ref k9, .ref k10, .int 0, .int 0, .int 0, .int 0, .int 0, .int 0, .int 0, .int 0]))] sz) := by
  refine Met.ofW (cc := cX8_herdsNotLost) (maxL := 3) (ret := (some .int)) (by decide) rfl ?_
  intro p e s m args below meth c s₁ B hml hv
  obtain ⟨rfl, hsz, hP, hK, hD0⟩ := hv
  have hx := B.exec
  have hb := B.bytes
  have hr := B.returns
  have hts := atoms_spec (ws := wsX8_herdsNotLost) B.pre
  have hown : s.vm.findClass RX8 = some m.cls := findClass_of_methodNamed B.named
  have hlocks := B.notSynchronized
  have hu8 : ∀ w ∈ u_ws RX8 TX8 19, w ∈ wsX8_herdsNotLost := by decide +kernel
  subst hsz
  have hD := hD0.self (sz := s.heap.size)
  generalize hAe : va_A [(h0, .inr (8, [.ref k0, .ref k1, .ref k2, .ref k3, .ref k4, .ref k5, .ref k6, .ref k7, .ref k8, .ref k9, .ref k10, .int 0, .int 0, .int 0, .int 0, .int 0, .int 0, .int 0, .int 0]))] s.heap.size = A at hD ⊢
  have hA : ∀ q : Nat, s.heap.size ≤ q → A q := fun q h => by rw [← hAe]; exact Or.inr h
  have hS : va_S A s.heap s.heap [] := va_S.rf
  have hl := lv_entry ([.ref h0]) (n := 3) (Nat.le_of_ble_eq_true rfl)
  rw [lg_entry_eq]
  generalize (lg_sl ([.ref h0]) ++ List.replicate (3 - (lg_sl ([.ref h0])).length) Slot.unset).toArray = ls at hl ⊢
  have hl : lv_has ls 3 [(0, .ref h0)] := hl
  obtain ⟨H, hH⟩ : ∃ H, H = s.heap := ⟨_, rfl⟩
  have hP : va_P (dC, dI) vwCl [(h0, .inr (8, [.ref k0, .ref k1, .ref k2, .ref k3, .ref k4, .ref k5, .ref k6, .ref k7, .ref k8, .ref k9, .ref k10, .int 0, .int 0, .int 0, .int 0, .int 0, .int 0, .int 0, .int 0]))] H := by rw [hH]; exact hP
  have hS : va_S A s.heap H [] := by rw [hH]; exact hS
  show W _ _ _ _ _ _ _ _ _ _ s.heap _ _ _ _ _
  rw [← hH]
  refine lv_iconst (v := 0) hx hb dX8_herdsNotLost_0 (by decide) ?_
  refine lv_istore_n (lv' := [(1, .int 0), (0, .ref h0)]) hx hb dX8_herdsNotLost_1 rfl hl (by decide) rfl (fun ls hl => ?_)
  refine lv_iconst (v := 0) hx hb dX8_herdsNotLost_2 (by decide) ?_
  refine lv_istore_n (lv' := [(2, .int 0), (1, .int 0), (0, .ref h0)]) hx hb dX8_herdsNotLost_3 rfl hl (by decide) rfl (fun ls hl => ?_)
  refine lv_iload_n hx hb dX8_herdsNotLost_4 rfl (lv_at hl 0 rfl) ?_
  refine lv_aload_n hx hb dX8_herdsNotLost_5 rfl (lv_at hl 2 rfl) ?_
  refine va_get (D := (dC, dI)) (ci := 8) (v := .int 0) (C := RX8) (T := TX8) (N := 19) hx hb hts hu8 hown hK hP 0 rfl rfl 15 (by decide) (hts (.fieldLink RX8 88 "GrazeBook" "herdCount" "I") (by decide +kernel)) (fun _ h9 => h9) rfl dX8_herdsNotLost_6 ?_
  refine lv_icmp_ge (tgt := 34) hx hb dX8_herdsNotLost_9 (by decide) (fun c_1 => ?_) (fun c_1 => absurd (by decide) c_1)
  refine lv_iload_n hx hb dX8_herdsNotLost_34 rfl (lv_at hl 1 rfl) ?_
  have hP9 := hP.sub (ws' := []) [] rfl
  have hD9 := hD.sub (ws' := []) [] (by decide) rfl
  exact W.iret (v := 0) hx hb hr (fun t ht hW => ⟨⟨0, (), rfl, rfl, by rw [ht]; exact hP9, va_K.moved hW.alike hK, hD9⟩, hS.F ht⟩) hS.2.2 dX8_herdsNotLost_35

set_option maxHeartbeats 1000000 in
set_option maxRecDepth 100000 in
theorem c_X8_allGrass (l : Launch) (dC : Nat → ClassId) (dI : Nat → Nat → Nat) (cI cZ cG cP cC cD cQ : ClassId) (h0 : Nat) (k0 : Nat) (k1 : Nat) (k2 : Nat) (k3 : Nat) (k4 : Nat) (k5 : Nat) (k6 : Nat) (k7 : Nat) (k8 : Nat) (k9 : Nat) (k10 : Nat) (sz : Nat)  : Met l yX8_allGrass wsX8_allGrass ({ frames := 0, cells := 0, slots := 0, locals := 0 }) (va_Pc [.ref h0] (fun U => U.heap.size = sz ∧ va_P (dC, dI) vwCl [(h0, .inr (8, [.ref k0, .ref k1, .ref k2, .ref k3, .ref k4, .ref k5, .ref k6, .ref k7, .ref k8, .ref k9, .ref k10, .int 0, .int 0, .int 0, .int 0, .int 0, .int 0, .int 0, .int 0]))] U.heap ∧ va_K (dC, dI) vwCl [(cI, .int), (cZ, .boolean), (cG, .object "GrazeBook$Ground"), (cP, .object "GrazeBook$Purse"), (cC, .object "GrazeBook$Claim"), (cD, .object "GrazeBook$Drove"), (cQ, .array .int)] U ∧ va_D (fun _ => True) [(h0, .inr (8, [.ref k0, .ref k1, .ref k2, .ref k3, .ref k4, .ref k5, .ref k6, .ref k7, .ref k8, .ref k9, .ref k10, .int 0, .int 0, .int 0, .int 0, .int 0, .int 0, .int 0, .int 0]))])) (va_Qi (fun (r : Int32) (_ : Unit) => r = 0) (fun (_ : Unit) (t : State) => va_P (dC, dI) vwCl [] t.heap ∧ va_K (dC, dI) vwCl [(cI, .int), (cZ, .boolean), (cG, .object "GrazeBook$Ground"), (cP, .object "GrazeBook$Purse"), (cC, .object "GrazeBook$Claim"), (cD, .object "GrazeBook$Drove"), (cQ, .array .int)] t ∧ va_D (va_A [(h0, .inr (8, [.ref k0, .ref k1, .ref k2, .ref k3, .ref k4, .ref k5, .ref k6, .ref k7, .ref k8, .ref k9, .ref k10, .int 0, .int 0, .int 0, .int 0, .int 0, .int 0, .int 0, .int 0]))] sz) []) (va_A [(h0, .inr (8, [.ref k0, .ref k1, .ref k2, .ref k3, .ref k4, .ref k5, .ref k6, .ref k7, .ref k8, .ref k9, .ref k10, .int 0, .int 0, .int 0, .int 0, .int 0, .int 0, .int 0, .int 0]))] sz)) 0 0 (va_A [(h0, .inr (8, [.ref k0, .ref k1, .ref k2, .ref k3, .ref k4, .ref k5, .ref k6, .ref k7, .ref k8, .ref k9, .ref k10, .int 0, .int 0, .int 0, .int 0, .int 0, .int 0, .int 0, .int 0]))] sz) := by
  refine Met.ofW (cc := cX8_allGrass) (maxL := 3) (ret := (some .int)) (by decide) rfl ?_
  intro p e s m args below meth c s₁ B hml hv
  obtain ⟨rfl, hsz, hP, hK, hD0⟩ := hv
  have hx := B.exec
  have hb := B.bytes
  have hr := B.returns
  have hts := atoms_spec (ws := wsX8_allGrass) B.pre
  have hown : s.vm.findClass RX8 = some m.cls := findClass_of_methodNamed B.named
  have hlocks := B.notSynchronized
  have hu8 : ∀ w ∈ u_ws RX8 TX8 19, w ∈ wsX8_allGrass := by decide +kernel
  subst hsz
  have hD := hD0.self (sz := s.heap.size)
  generalize hAe : va_A [(h0, .inr (8, [.ref k0, .ref k1, .ref k2, .ref k3, .ref k4, .ref k5, .ref k6, .ref k7, .ref k8, .ref k9, .ref k10, .int 0, .int 0, .int 0, .int 0, .int 0, .int 0, .int 0, .int 0]))] s.heap.size = A at hD ⊢
  have hA : ∀ q : Nat, s.heap.size ≤ q → A q := fun q h => by rw [← hAe]; exact Or.inr h
  have hS : va_S A s.heap s.heap [] := va_S.rf
  have hl := lv_entry ([.ref h0]) (n := 3) (Nat.le_of_ble_eq_true rfl)
  rw [lg_entry_eq]
  generalize (lg_sl ([.ref h0]) ++ List.replicate (3 - (lg_sl ([.ref h0])).length) Slot.unset).toArray = ls at hl ⊢
  have hl : lv_has ls 3 [(0, .ref h0)] := hl
  obtain ⟨H, hH⟩ : ∃ H, H = s.heap := ⟨_, rfl⟩
  have hP : va_P (dC, dI) vwCl [(h0, .inr (8, [.ref k0, .ref k1, .ref k2, .ref k3, .ref k4, .ref k5, .ref k6, .ref k7, .ref k8, .ref k9, .ref k10, .int 0, .int 0, .int 0, .int 0, .int 0, .int 0, .int 0, .int 0]))] H := by rw [hH]; exact hP
  have hS : va_S A s.heap H [] := by rw [hH]; exact hS
  show W _ _ _ _ _ _ _ _ _ _ s.heap _ _ _ _ _
  rw [← hH]
  refine lv_iconst (v := 0) hx hb dX8_allGrass_0 (by decide) ?_
  refine lv_istore_n (lv' := [(1, .int 0), (0, .ref h0)]) hx hb dX8_allGrass_1 rfl hl (by decide) rfl (fun ls hl => ?_)
  refine lv_iconst (v := 0) hx hb dX8_allGrass_2 (by decide) ?_
  refine lv_istore_n (lv' := [(2, .int 0), (1, .int 0), (0, .ref h0)]) hx hb dX8_allGrass_3 rfl hl (by decide) rfl (fun ls hl => ?_)
  refine lv_iload_n hx hb dX8_allGrass_4 rfl (lv_at hl 0 rfl) ?_
  refine lv_aload_n hx hb dX8_allGrass_5 rfl (lv_at hl 2 rfl) ?_
  refine va_get (D := (dC, dI)) (ci := 8) (v := .int 0) (C := RX8) (T := TX8) (N := 19) hx hb hts hu8 hown hK hP 0 rfl rfl 11 (by decide) (hts (.fieldLink RX8 75 "GrazeBook" "pieceCount" "I") (by decide +kernel)) (fun _ h9 => h9) rfl dX8_allGrass_6 ?_
  refine lv_icmp_ge (tgt := 30) hx hb dX8_allGrass_9 (by decide) (fun c_1 => ?_) (fun c_1 => absurd (by decide) c_1)
  refine lv_iload_n hx hb dX8_allGrass_30 rfl (lv_at hl 1 rfl) ?_
  have hP9 := hP.sub (ws' := []) [] rfl
  have hD9 := hD.sub (ws' := []) [] (by decide) rfl
  exact W.iret (v := 0) hx hb hr (fun t ht hW => ⟨⟨0, (), rfl, rfl, by rw [ht]; exact hP9, va_K.moved hW.alike hK, hD9⟩, hS.F ht⟩) hS.2.2 dX8_allGrass_31

set_option maxHeartbeats 1000000 in
set_option maxRecDepth 100000 in
theorem c_X8_allHunger (l : Launch) (dC : Nat → ClassId) (dI : Nat → Nat → Nat) (cI cZ cG cP cC cD cQ : ClassId) (h0 : Nat) (k0 : Nat) (k1 : Nat) (k2 : Nat) (k3 : Nat) (k4 : Nat) (k5 : Nat) (k6 : Nat) (k7 : Nat) (k8 : Nat) (k9 : Nat) (k10 : Nat) (sz : Nat)  : Met l yX8_allHunger wsX8_allHunger ({ frames := 0, cells := 0, slots := 0, locals := 0 }) (va_Pc [.ref h0] (fun U => U.heap.size = sz ∧ va_P (dC, dI) vwCl [(h0, .inr (8, [.ref k0, .ref k1, .ref k2, .ref k3, .ref k4, .ref k5, .ref k6, .ref k7, .ref k8, .ref k9, .ref k10, .int 0, .int 0, .int 0, .int 0, .int 0, .int 0, .int 0, .int 0]))] U.heap ∧ va_K (dC, dI) vwCl [(cI, .int), (cZ, .boolean), (cG, .object "GrazeBook$Ground"), (cP, .object "GrazeBook$Purse"), (cC, .object "GrazeBook$Claim"), (cD, .object "GrazeBook$Drove"), (cQ, .array .int)] U ∧ va_D (fun _ => True) [(h0, .inr (8, [.ref k0, .ref k1, .ref k2, .ref k3, .ref k4, .ref k5, .ref k6, .ref k7, .ref k8, .ref k9, .ref k10, .int 0, .int 0, .int 0, .int 0, .int 0, .int 0, .int 0, .int 0]))])) (va_Qi (fun (r : Int32) (_ : Unit) => r = 0) (fun (_ : Unit) (t : State) => va_P (dC, dI) vwCl [] t.heap ∧ va_K (dC, dI) vwCl [(cI, .int), (cZ, .boolean), (cG, .object "GrazeBook$Ground"), (cP, .object "GrazeBook$Purse"), (cC, .object "GrazeBook$Claim"), (cD, .object "GrazeBook$Drove"), (cQ, .array .int)] t ∧ va_D (va_A [(h0, .inr (8, [.ref k0, .ref k1, .ref k2, .ref k3, .ref k4, .ref k5, .ref k6, .ref k7, .ref k8, .ref k9, .ref k10, .int 0, .int 0, .int 0, .int 0, .int 0, .int 0, .int 0, .int 0]))] sz) []) (va_A [(h0, .inr (8, [.ref k0, .ref k1, .ref k2, .ref k3, .ref k4, .ref k5, .ref k6, .ref k7, .ref k8, .ref k9, .ref k10, .int 0, .int 0, .int 0, .int 0, .int 0, .int 0, .int 0, .int 0]))] sz)) 0 0 (va_A [(h0, .inr (8, [.ref k0, .ref k1, .ref k2, .ref k3, .ref k4, .ref k5, .ref k6, .ref k7, .ref k8, .ref k9, .ref k10, .int 0, .int 0, .int 0, .int 0, .int 0, .int 0, .int 0, .int 0]))] sz) := by
  refine Met.ofW (cc := cX8_allHunger) (maxL := 3) (ret := (some .int)) (by decide) rfl ?_
  intro p e s m args below meth c s₁ B hml hv
  obtain ⟨rfl, hsz, hP, hK, hD0⟩ := hv
  have hx := B.exec
  have hb := B.bytes
  have hr := B.returns
  have hts := atoms_spec (ws := wsX8_allHunger) B.pre
  have hown : s.vm.findClass RX8 = some m.cls := findClass_of_methodNamed B.named
  have hlocks := B.notSynchronized
  have hu8 : ∀ w ∈ u_ws RX8 TX8 19, w ∈ wsX8_allHunger := by decide +kernel
  subst hsz
  have hD := hD0.self (sz := s.heap.size)
  generalize hAe : va_A [(h0, .inr (8, [.ref k0, .ref k1, .ref k2, .ref k3, .ref k4, .ref k5, .ref k6, .ref k7, .ref k8, .ref k9, .ref k10, .int 0, .int 0, .int 0, .int 0, .int 0, .int 0, .int 0, .int 0]))] s.heap.size = A at hD ⊢
  have hA : ∀ q : Nat, s.heap.size ≤ q → A q := fun q h => by rw [← hAe]; exact Or.inr h
  have hS : va_S A s.heap s.heap [] := va_S.rf
  have hl := lv_entry ([.ref h0]) (n := 3) (Nat.le_of_ble_eq_true rfl)
  rw [lg_entry_eq]
  generalize (lg_sl ([.ref h0]) ++ List.replicate (3 - (lg_sl ([.ref h0])).length) Slot.unset).toArray = ls at hl ⊢
  have hl : lv_has ls 3 [(0, .ref h0)] := hl
  obtain ⟨H, hH⟩ : ∃ H, H = s.heap := ⟨_, rfl⟩
  have hP : va_P (dC, dI) vwCl [(h0, .inr (8, [.ref k0, .ref k1, .ref k2, .ref k3, .ref k4, .ref k5, .ref k6, .ref k7, .ref k8, .ref k9, .ref k10, .int 0, .int 0, .int 0, .int 0, .int 0, .int 0, .int 0, .int 0]))] H := by rw [hH]; exact hP
  have hS : va_S A s.heap H [] := by rw [hH]; exact hS
  show W _ _ _ _ _ _ _ _ _ _ s.heap _ _ _ _ _
  rw [← hH]
  refine lv_iconst (v := 0) hx hb dX8_allHunger_0 (by decide) ?_
  refine lv_istore_n (lv' := [(1, .int 0), (0, .ref h0)]) hx hb dX8_allHunger_1 rfl hl (by decide) rfl (fun ls hl => ?_)
  refine lv_iconst (v := 0) hx hb dX8_allHunger_2 (by decide) ?_
  refine lv_istore_n (lv' := [(2, .int 0), (1, .int 0), (0, .ref h0)]) hx hb dX8_allHunger_3 rfl hl (by decide) rfl (fun ls hl => ?_)
  refine lv_iload_n hx hb dX8_allHunger_4 rfl (lv_at hl 0 rfl) ?_
  refine lv_aload_n hx hb dX8_allHunger_5 rfl (lv_at hl 2 rfl) ?_
  refine va_get (D := (dC, dI)) (ci := 8) (v := .int 0) (C := RX8) (T := TX8) (N := 19) hx hb hts hu8 hown hK hP 0 rfl rfl 15 (by decide) (hts (.fieldLink RX8 88 "GrazeBook" "herdCount" "I") (by decide +kernel)) (fun _ h9 => h9) rfl dX8_allHunger_6 ?_
  refine lv_icmp_ge (tgt := 30) hx hb dX8_allHunger_9 (by decide) (fun c_1 => ?_) (fun c_1 => absurd (by decide) c_1)
  refine lv_iload_n hx hb dX8_allHunger_30 rfl (lv_at hl 1 rfl) ?_
  have hP9 := hP.sub (ws' := []) [] rfl
  have hD9 := hD.sub (ws' := []) [] (by decide) rfl
  exact W.iret (v := 0) hx hb hr (fun t ht hW => ⟨⟨0, (), rfl, rfl, by rw [ht]; exact hP9, va_K.moved hW.alike hK, hD9⟩, hS.F ht⟩) hS.2.2 dX8_allHunger_31

set_option maxHeartbeats 1000000 in
set_option maxRecDepth 100000 in
theorem c_X8_allEaten (l : Launch) (dC : Nat → ClassId) (dI : Nat → Nat → Nat) (cI cZ cG cP cC cD cQ : ClassId) (h0 : Nat) (k0 : Nat) (k1 : Nat) (k2 : Nat) (k3 : Nat) (k4 : Nat) (k5 : Nat) (k6 : Nat) (k7 : Nat) (k8 : Nat) (k9 : Nat) (k10 : Nat) (sz : Nat)  : Met l yX8_allEaten wsX8_allEaten ({ frames := 0, cells := 0, slots := 0, locals := 0 }) (va_Pc [.ref h0] (fun U => U.heap.size = sz ∧ va_P (dC, dI) vwCl [(h0, .inr (8, [.ref k0, .ref k1, .ref k2, .ref k3, .ref k4, .ref k5, .ref k6, .ref k7, .ref k8, .ref k9, .ref k10, .int 0, .int 0, .int 0, .int 0, .int 0, .int 0, .int 0, .int 0]))] U.heap ∧ va_K (dC, dI) vwCl [(cI, .int), (cZ, .boolean), (cG, .object "GrazeBook$Ground"), (cP, .object "GrazeBook$Purse"), (cC, .object "GrazeBook$Claim"), (cD, .object "GrazeBook$Drove"), (cQ, .array .int)] U ∧ va_D (fun _ => True) [(h0, .inr (8, [.ref k0, .ref k1, .ref k2, .ref k3, .ref k4, .ref k5, .ref k6, .ref k7, .ref k8, .ref k9, .ref k10, .int 0, .int 0, .int 0, .int 0, .int 0, .int 0, .int 0, .int 0]))])) (va_Qi (fun (r : Int32) (_ : Unit) => r = 0) (fun (_ : Unit) (t : State) => va_P (dC, dI) vwCl [] t.heap ∧ va_K (dC, dI) vwCl [(cI, .int), (cZ, .boolean), (cG, .object "GrazeBook$Ground"), (cP, .object "GrazeBook$Purse"), (cC, .object "GrazeBook$Claim"), (cD, .object "GrazeBook$Drove"), (cQ, .array .int)] t ∧ va_D (va_A [(h0, .inr (8, [.ref k0, .ref k1, .ref k2, .ref k3, .ref k4, .ref k5, .ref k6, .ref k7, .ref k8, .ref k9, .ref k10, .int 0, .int 0, .int 0, .int 0, .int 0, .int 0, .int 0, .int 0]))] sz) []) (va_A [(h0, .inr (8, [.ref k0, .ref k1, .ref k2, .ref k3, .ref k4, .ref k5, .ref k6, .ref k7, .ref k8, .ref k9, .ref k10, .int 0, .int 0, .int 0, .int 0, .int 0, .int 0, .int 0, .int 0]))] sz)) 0 0 (va_A [(h0, .inr (8, [.ref k0, .ref k1, .ref k2, .ref k3, .ref k4, .ref k5, .ref k6, .ref k7, .ref k8, .ref k9, .ref k10, .int 0, .int 0, .int 0, .int 0, .int 0, .int 0, .int 0, .int 0]))] sz) := by
  refine Met.ofW (cc := cX8_allEaten) (maxL := 3) (ret := (some .int)) (by decide) rfl ?_
  intro p e s m args below meth c s₁ B hml hv
  obtain ⟨rfl, hsz, hP, hK, hD0⟩ := hv
  have hx := B.exec
  have hb := B.bytes
  have hr := B.returns
  have hts := atoms_spec (ws := wsX8_allEaten) B.pre
  have hown : s.vm.findClass RX8 = some m.cls := findClass_of_methodNamed B.named
  have hlocks := B.notSynchronized
  have hu8 : ∀ w ∈ u_ws RX8 TX8 19, w ∈ wsX8_allEaten := by decide +kernel
  subst hsz
  have hD := hD0.self (sz := s.heap.size)
  generalize hAe : va_A [(h0, .inr (8, [.ref k0, .ref k1, .ref k2, .ref k3, .ref k4, .ref k5, .ref k6, .ref k7, .ref k8, .ref k9, .ref k10, .int 0, .int 0, .int 0, .int 0, .int 0, .int 0, .int 0, .int 0]))] s.heap.size = A at hD ⊢
  have hA : ∀ q : Nat, s.heap.size ≤ q → A q := fun q h => by rw [← hAe]; exact Or.inr h
  have hS : va_S A s.heap s.heap [] := va_S.rf
  have hl := lv_entry ([.ref h0]) (n := 3) (Nat.le_of_ble_eq_true rfl)
  rw [lg_entry_eq]
  generalize (lg_sl ([.ref h0]) ++ List.replicate (3 - (lg_sl ([.ref h0])).length) Slot.unset).toArray = ls at hl ⊢
  have hl : lv_has ls 3 [(0, .ref h0)] := hl
  obtain ⟨H, hH⟩ : ∃ H, H = s.heap := ⟨_, rfl⟩
  have hP : va_P (dC, dI) vwCl [(h0, .inr (8, [.ref k0, .ref k1, .ref k2, .ref k3, .ref k4, .ref k5, .ref k6, .ref k7, .ref k8, .ref k9, .ref k10, .int 0, .int 0, .int 0, .int 0, .int 0, .int 0, .int 0, .int 0]))] H := by rw [hH]; exact hP
  have hS : va_S A s.heap H [] := by rw [hH]; exact hS
  show W _ _ _ _ _ _ _ _ _ _ s.heap _ _ _ _ _
  rw [← hH]
  refine lv_iconst (v := 0) hx hb dX8_allEaten_0 (by decide) ?_
  refine lv_istore_n (lv' := [(1, .int 0), (0, .ref h0)]) hx hb dX8_allEaten_1 rfl hl (by decide) rfl (fun ls hl => ?_)
  refine lv_iconst (v := 0) hx hb dX8_allEaten_2 (by decide) ?_
  refine lv_istore_n (lv' := [(2, .int 0), (1, .int 0), (0, .ref h0)]) hx hb dX8_allEaten_3 rfl hl (by decide) rfl (fun ls hl => ?_)
  refine lv_iload_n hx hb dX8_allEaten_4 rfl (lv_at hl 0 rfl) ?_
  refine lv_aload_n hx hb dX8_allEaten_5 rfl (lv_at hl 2 rfl) ?_
  refine va_get (D := (dC, dI)) (ci := 8) (v := .int 0) (C := RX8) (T := TX8) (N := 19) hx hb hts hu8 hown hK hP 0 rfl rfl 11 (by decide) (hts (.fieldLink RX8 75 "GrazeBook" "pieceCount" "I") (by decide +kernel)) (fun _ h9 => h9) rfl dX8_allEaten_6 ?_
  refine lv_icmp_ge (tgt := 30) hx hb dX8_allEaten_9 (by decide) (fun c_1 => ?_) (fun c_1 => absurd (by decide) c_1)
  refine lv_iload_n hx hb dX8_allEaten_30 rfl (lv_at hl 1 rfl) ?_
  have hP9 := hP.sub (ws' := []) [] rfl
  have hD9 := hD.sub (ws' := []) [] (by decide) rfl
  exact W.iret (v := 0) hx hb hr (fun t ht hW => ⟨⟨0, (), rfl, rfl, by rw [ht]; exact hP9, va_K.moved hW.alike hK, hD9⟩, hS.F ht⟩) hS.2.2 dX8_allEaten_31
