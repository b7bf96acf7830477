set_option maxRecDepth 20000 in
theorem mw_oi : (Cond.code ({ cls := "java/lang/Object", name := "<init>", desc := "()V" } : Jvm.MethodName) object_method_1_code (1 : Nat) (Option.none : Option Jvm.ClassFile.FieldType)) ∈ WS := ws_t1 (List.mem_of_getElem? (i := 20) rfl) rfl
set_option maxHeartbeats 1000000 in
set_option maxRecDepth 100000 in
theorem k_X4_init (l : Launch) (D : va_G) (ca : Nat → ClassId) (q : Nat) (a1 : Int32) (a2 : Int32) (a3 : Int32) (a4 : Int32) (sz : Nat) (hn4 : narrow .boolean (.int a4) = .int a4) (hf4 : fits .boolean (.int a4) = true) : Met l yX4_init wsX4_init ({ frames := 1, cells := 0, slots := 0, locals := 12 }) (va_Pc [.ref q, .int a1, .int a2, .int a3, .int a4] (pw_pre D ca [(q, .inr (4, [.int (0 : Int32), .int (0 : Int32), .int (0 : Int32), .int (0 : Int32), .int (0 : Int32), .int (0 : Int32)]))] sz)) (va_Qv (fun _ : Unit => True) (fun (_ : Unit) (t : State) => pw_post D ca [(q, .inr (4, [.int (0 : Int32), .int (0 : Int32), .int (0 : Int32), .int (0 : Int32), .int (0 : Int32), .int (0 : Int32)]))] sz [(q, .inr (4, [.int a2, .int a3, .int a4, .int a1, .int (-1 : Int32), .int (0 : Int32)]))] t) (va_A [(q, .inr (4, [.int (0 : Int32), .int (0 : Int32), .int (0 : Int32), .int (0 : Int32), .int (0 : Int32), .int (0 : Int32)]))] sz)) 0 0 (va_A [(q, .inr (4, [.int (0 : Int32), .int (0 : Int32), .int (0 : Int32), .int (0 : Int32), .int (0 : Int32), .int (0 : Int32)]))] sz) := by
  refine Met.ofW (cc := cX4_init) (maxL := 5) (ret := none) (by decide) rfl ?_
  intro p e s m args below meth c s₁ B hml hv
  obtain ⟨rfl, hsz, hP, hK, hD0⟩ := hv
  have hx := B.exec
  have hb := B.bytes
  have hr := B.returns
  have hts := atoms_spec (ws := wsX4_init) B.pre
  have hown : s.vm.findClass RX4 = some m.cls := findClass_of_methodNamed B.named
  have hlocks := B.notSynchronized
  have hin : meth.name = "<init>" := (name_of_methodNamed B.named B.method).1
  have hu4 : ∀ w ∈ u_ws RX4 TX4 6, w ∈ wsX4_init := fun w h => List.mem_cons_of_mem _ (uw4 w h)
  subst hsz
  have hD := hD0.self (sz := s.heap.size)
  obtain ⟨A, hAe⟩ : ∃ A, A = va_A [(q, .inr (4, [.int (0 : Int32), .int (0 : Int32), .int (0 : Int32), .int (0 : Int32), .int (0 : Int32), .int (0 : Int32)]))] s.heap.size := ⟨_, rfl⟩
  rw [← hAe] at hD ⊢
  have hA : ∀ q : Nat, s.heap.size ≤ q → A q := fun q h => by rw [hAe]; exact Or.inr h
  have hS : va_S A s.heap s.heap [] := va_S.rf
  have hl := lv_entry ([.ref q, .int a1, .int a2, .int a3, .int a4]) (n := 5) (Nat.le_of_ble_eq_true rfl)
  rw [lg_entry_eq]
  generalize (lg_sl ([.ref q, .int a1, .int a2, .int a3, .int a4]) ++ List.replicate (5 - (lg_sl ([.ref q, .int a1, .int a2, .int a3, .int a4])).length) Slot.unset).toArray = ls at hl ⊢
  have hl : lv_has ls 5 [(0, .ref q), (1, .int a1), (2, .int a2), (3, .int a3), (4, .int a4)] := hl
  obtain ⟨H, hH⟩ : ∃ H, H = s.heap := ⟨_, rfl⟩
  have hP : va_P D vwCl [(q, .inr (4, [.int (0 : Int32), .int (0 : Int32), .int (0 : Int32), .int (0 : Int32), .int (0 : Int32), .int (0 : Int32)]))] H := by rw [hH]; exact hP
  have hS : va_S A s.heap H [] := by rw [hH]; exact hS
  obtain ⟨QQ, hQ⟩ : ∃ Q9, Q9 = MQ below (va_Qv (fun _ : Unit => True) (fun (_ : Unit) (t : State) => pw_post D ca [(q, .inr (4, [.int (0 : Int32), .int (0 : Int32), .int (0 : Int32), .int (0 : Int32), .int (0 : Int32), .int (0 : Int32)]))] s.heap.size [(q, .inr (4, [.int a2, .int a3, .int a4, .int a1, .int (-1 : Int32), .int (0 : Int32)]))] t) A) ([.ref q, .int a1, .int a2, .int a3, .int a4] : List Value).toArray s 0 0 A := ⟨_, rfl⟩
  rw [← hQ]
  show W _ _ _ _ _ _ _ _ _ _ s.heap _ _ _ _ _
  rw [← hH]
  refine lv_aload_n hx hb dX4_init_0 rfl (lv_at hl 0 rfl) ?_
  refine W.objInit hx hb hown (hts (.methodLink RX4 1 objectInit) (List.mem_cons_of_mem _ mw_281)) (hts (.instanceMethod objectInit) (List.mem_cons_of_mem _ mw_76)) (hts _ (List.mem_cons_of_mem _ mw_oi)) rfl (by rw [hml]; exact hl.1) rfl dX4_init_1 (Nat.le_of_ble_eq_true rfl) (Nat.le_of_ble_eq_true rfl) ?_
  refine W.eq (g2 := F0 m 4 ls []) rfl ?_
  refine lv_aload_n hx hb dX4_init_4 rfl (lv_at hl 0 rfl) ?_
  refine lv_iconst (v := (-1 : Int32)) hx hb dX4_init_5 (by decide) ?_
  refine va_put (D := D) (ci := 4) (v := .int (-1 : Int32)) (ty := .int) (C := RX4) (T := TX4) (N := 6) hx hb hts hu4 tyX4 tyX4_ok nmX4 hown hK hP hD hS 0 rfl rfl 4 (by decide) (hts (.fieldLink RX4 7 "GrazeBook$Ground" "rest" "I") (List.mem_cons_of_mem _ mw_291)) (fun _ h9 => h9) rfl (by decide +kernel) rfl rfl (Nat.le_of_ble_eq_true rfl) dX4_init_6 (fun H locs hP hD hS => ?_)
  have hP : va_P D vwCl [(q, .inr (4, [.int (0 : Int32), .int (0 : Int32), .int (0 : Int32), .int (0 : Int32), .int (-1 : Int32), .int (0 : Int32)]))] H := hP
  have hD : va_D A [(q, .inr (4, [.int (0 : Int32), .int (0 : Int32), .int (0 : Int32), .int (0 : Int32), .int (-1 : Int32), .int (0 : Int32)]))] := hD
  refine lv_aload_n hx hb dX4_init_9 rfl (lv_at hl 0 rfl) ?_
  refine lv_iconst (v := (0 : Int32)) hx hb dX4_init_10 (by decide) ?_
  refine va_put (D := D) (ci := 4) (v := .int (0 : Int32)) (ty := .int) (C := RX4) (T := TX4) (N := 6) hx hb hts hu4 tyX4 tyX4_ok nmX4 hown hK hP hD hS 0 rfl rfl 5 (by decide) (hts (.fieldLink RX4 13 "GrazeBook$Ground" "eaten" "I") (List.mem_cons_of_mem _ mw_293)) (fun _ h9 => h9) rfl (by decide +kernel) rfl rfl (Nat.le_of_ble_eq_true rfl) dX4_init_11 (fun H locs hP hD hS => ?_)
  have hP : va_P D vwCl [(q, .inr (4, [.int (0 : Int32), .int (0 : Int32), .int (0 : Int32), .int (0 : Int32), .int (-1 : Int32), .int (0 : Int32)]))] H := hP
  have hD : va_D A [(q, .inr (4, [.int (0 : Int32), .int (0 : Int32), .int (0 : Int32), .int (0 : Int32), .int (-1 : Int32), .int (0 : Int32)]))] := hD
  refine lv_aload_n hx hb dX4_init_14 rfl (lv_at hl 0 rfl) ?_
  refine lv_iload_n hx hb dX4_init_15 rfl (lv_at hl 1 rfl) ?_
  refine va_put (D := D) (ci := 4) (v := .int a1) (ty := .int) (C := RX4) (T := TX4) (N := 6) hx hb hts hu4 tyX4 tyX4_ok nmX4 hown hK hP hD hS 0 rfl rfl 3 (by decide) (hts (.fieldLink RX4 16 "GrazeBook$Ground" "grass" "I") (List.mem_cons_of_mem _ mw_289)) (fun _ h9 => h9) rfl (by decide +kernel) rfl rfl (Nat.le_of_ble_eq_true rfl) dX4_init_16 (fun H locs hP hD hS => ?_)
  have hP : va_P D vwCl [(q, .inr (4, [.int (0 : Int32), .int (0 : Int32), .int (0 : Int32), .int a1, .int (-1 : Int32), .int (0 : Int32)]))] H := hP
  have hD : va_D A [(q, .inr (4, [.int (0 : Int32), .int (0 : Int32), .int (0 : Int32), .int a1, .int (-1 : Int32), .int (0 : Int32)]))] := hD
  refine lv_aload_n hx hb dX4_init_19 rfl (lv_at hl 0 rfl) ?_
  refine lv_iload_n hx hb dX4_init_20 rfl (lv_at hl 2 rfl) ?_
  refine va_putF (D := D) (ci := 4) (v := .int a2) (ty := .int) (C := RX4) (T := TX4) (N := 6) hx hb hts hu4 tyX4 tyX4_ok nmX4 hown hK hP hD hS 0 rfl rfl 0 (by decide) (hts (.fieldLink RX4 19 "GrazeBook$Ground" "full" "I") (List.mem_cons_of_mem _ mw_282)) (fun _ h9 => h9) rfl hin rfl (by decide +kernel) rfl rfl (Nat.le_of_ble_eq_true rfl) dX4_init_21 (fun H locs hP hD hS => ?_)
  have hP : va_P D vwCl [(q, .inr (4, [.int a2, .int (0 : Int32), .int (0 : Int32), .int a1, .int (-1 : Int32), .int (0 : Int32)]))] H := hP
  have hD : va_D A [(q, .inr (4, [.int a2, .int (0 : Int32), .int (0 : Int32), .int a1, .int (-1 : Int32), .int (0 : Int32)]))] := hD
  refine lv_aload_n hx hb dX4_init_24 rfl (lv_at hl 0 rfl) ?_
  refine lv_iload_n hx hb dX4_init_25 rfl (lv_at hl 3 rfl) ?_
  refine va_putF (D := D) (ci := 4) (v := .int a3) (ty := .int) (C := RX4) (T := TX4) (N := 6) hx hb hts hu4 tyX4 tyX4_ok nmX4 hown hK hP hD hS 0 rfl rfl 1 (by decide) (hts (.fieldLink RX4 22 "GrazeBook$Ground" "bears" "I") (List.mem_cons_of_mem _ mw_285)) (fun _ h9 => h9) rfl hin rfl (by decide +kernel) rfl rfl (Nat.le_of_ble_eq_true rfl) dX4_init_26 (fun H locs hP hD hS => ?_)
  have hP : va_P D vwCl [(q, .inr (4, [.int a2, .int a3, .int (0 : Int32), .int a1, .int (-1 : Int32), .int (0 : Int32)]))] H := hP
  have hD : va_D A [(q, .inr (4, [.int a2, .int a3, .int (0 : Int32), .int a1, .int (-1 : Int32), .int (0 : Int32)]))] := hD
  refine lv_aload_n hx hb dX4_init_29 rfl (lv_at hl 0 rfl) ?_
  refine lv_iload hx hb dX4_init_30 (lv_at hl 4 rfl) ?_
  refine va_putF (D := D) (ci := 4) (v := .int a4) (ty := .boolean) (C := RX4) (T := TX4) (N := 6) hx hb hts hu4 tyX4 tyX4_ok nmX4 hown hK hP hD hS 0 rfl rfl 2 (by decide) (hts (.fieldLink RX4 25 "GrazeBook$Ground" "water" "Z") (List.mem_cons_of_mem _ mw_287)) (fun _ h9 => h9) rfl hin rfl (by decide +kernel) hn4 hf4 (Nat.le_of_ble_eq_true rfl) dX4_init_32 (fun H locs hP hD hS => ?_)
  have hP : va_P D vwCl [(q, .inr (4, [.int a2, .int a3, .int a4, .int a1, .int (-1 : Int32), .int (0 : Int32)]))] H := hP
  have hD : va_D A [(q, .inr (4, [.int a2, .int a3, .int a4, .int a1, .int (-1 : Int32), .int (0 : Int32)]))] := hD
  rw [hQ]
  exact W.vret hx hb hr (fun t ht hW => ⟨⟨(), rfl, trivial, ⟨by rw [ht]; exact hP, va_K.moved hW.alike hK, by rw [← hAe]; exact hD⟩⟩, hS.F ht⟩) hS.2.2 dX4_init_35

set_option maxHeartbeats 1000000 in
set_option maxRecDepth 100000 in
theorem k_X5_init (l : Launch) (D : va_G) (ca : Nat → ClassId) (q : Nat) (a1 : Int32) (sz : Nat)  : Met l yX5_init wsX5_init ({ frames := 1, cells := 0, slots := 0, locals := 12 }) (va_Pc [.ref q, .int a1] (pw_pre D ca [(q, .inr (5, [.int (0 : Int32), .int (0 : Int32)]))] sz)) (va_Qv (fun _ : Unit => True) (fun (_ : Unit) (t : State) => pw_post D ca [(q, .inr (5, [.int (0 : Int32), .int (0 : Int32)]))] sz [(q, .inr (5, [.int a1, .int (0 : Int32)]))] t) (va_A [(q, .inr (5, [.int (0 : Int32), .int (0 : Int32)]))] sz)) 0 0 (va_A [(q, .inr (5, [.int (0 : Int32), .int (0 : Int32)]))] sz) := by
  refine Met.ofW (cc := cX5_init) (maxL := 2) (ret := none) (by decide) rfl ?_
  intro p e s m args below meth c s₁ B hml hv
  obtain ⟨rfl, hsz, hP, hK, hD0⟩ := hv
  have hx := B.exec
  have hb := B.bytes
  have hr := B.returns
  have hts := atoms_spec (ws := wsX5_init) B.pre
  have hown : s.vm.findClass RX5 = some m.cls := findClass_of_methodNamed B.named
  have hlocks := B.notSynchronized
  have hin : meth.name = "<init>" := (name_of_methodNamed B.named B.method).1
  have hu5 : ∀ w ∈ u_ws RX5 TX5 2, w ∈ wsX5_init := fun w h => List.mem_cons_of_mem _ (uw5 w h)
  subst hsz
  have hD := hD0.self (sz := s.heap.size)
  obtain ⟨A, hAe⟩ : ∃ A, A = va_A [(q, .inr (5, [.int (0 : Int32), .int (0 : Int32)]))] s.heap.size := ⟨_, rfl⟩
  rw [← hAe] at hD ⊢
  have hA : ∀ q : Nat, s.heap.size ≤ q → A q := fun q h => by rw [hAe]; exact Or.inr h
  have hS : va_S A s.heap s.heap [] := va_S.rf
  have hl := lv_entry ([.ref q, .int a1]) (n := 2) (Nat.le_of_ble_eq_true rfl)
  rw [lg_entry_eq]
  generalize (lg_sl ([.ref q, .int a1]) ++ List.replicate (2 - (lg_sl ([.ref q, .int a1])).length) Slot.unset).toArray = ls at hl ⊢
  have hl : lv_has ls 2 [(0, .ref q), (1, .int a1)] := hl
  obtain ⟨H, hH⟩ : ∃ H, H = s.heap := ⟨_, rfl⟩
  have hP : va_P D vwCl [(q, .inr (5, [.int (0 : Int32), .int (0 : Int32)]))] H := by rw [hH]; exact hP
  have hS : va_S A s.heap H [] := by rw [hH]; exact hS
  obtain ⟨QQ, hQ⟩ : ∃ Q9, Q9 = MQ below (va_Qv (fun _ : Unit => True) (fun (_ : Unit) (t : State) => pw_post D ca [(q, .inr (5, [.int (0 : Int32), .int (0 : Int32)]))] s.heap.size [(q, .inr (5, [.int a1, .int (0 : Int32)]))] t) A) ([.ref q, .int a1] : List Value).toArray s 0 0 A := ⟨_, rfl⟩
  rw [← hQ]
  show W _ _ _ _ _ _ _ _ _ _ s.heap _ _ _ _ _
  rw [← hH]
  refine lv_aload_n hx hb dX5_init_0 rfl (lv_at hl 0 rfl) ?_
  refine W.objInit hx hb hown (hts (.methodLink RX5 1 objectInit) (List.mem_cons_of_mem _ mw_86)) (hts (.instanceMethod objectInit) (List.mem_cons_of_mem _ mw_76)) (hts _ (List.mem_cons_of_mem _ mw_oi)) rfl (by rw [hml]; exact hl.1) rfl dX5_init_1 (Nat.le_of_ble_eq_true rfl) (Nat.le_of_ble_eq_true rfl) ?_
  refine W.eq (g2 := F0 m 4 ls []) rfl ?_
  refine lv_aload_n hx hb dX5_init_4 rfl (lv_at hl 0 rfl) ?_
  refine lv_iconst (v := (0 : Int32)) hx hb dX5_init_5 (by decide) ?_
  refine va_put (D := D) (ci := 5) (v := .int (0 : Int32)) (ty := .int) (C := RX5) (T := TX5) (N := 2) hx hb hts hu5 tyX5 tyX5_ok nmX5 hown hK hP hD hS 0 rfl rfl 1 (by decide) (hts (.fieldLink RX5 7 "GrazeBook$Purse" "hay" "I") (List.mem_cons_of_mem _ mw_89)) (fun _ h9 => h9) rfl (by decide +kernel) rfl rfl (Nat.le_of_ble_eq_true rfl) dX5_init_6 (fun H locs hP hD hS => ?_)
  have hP : va_P D vwCl [(q, .inr (5, [.int (0 : Int32), .int (0 : Int32)]))] H := hP
  have hD : va_D A [(q, .inr (5, [.int (0 : Int32), .int (0 : Int32)]))] := hD
  refine lv_aload_n hx hb dX5_init_9 rfl (lv_at hl 0 rfl) ?_
  refine lv_iload_n hx hb dX5_init_10 rfl (lv_at hl 1 rfl) ?_
  refine va_put (D := D) (ci := 5) (v := .int a1) (ty := .int) (C := RX5) (T := TX5) (N := 2) hx hb hts hu5 tyX5 tyX5_ok nmX5 hown hK hP hD hS 0 rfl rfl 0 (by decide) (hts (.fieldLink RX5 13 "GrazeBook$Purse" "coins" "I") (List.mem_cons_of_mem _ mw_87)) (fun _ h9 => h9) rfl (by decide +kernel) rfl rfl (Nat.le_of_ble_eq_true rfl) dX5_init_11 (fun H locs hP hD hS => ?_)
  have hP : va_P D vwCl [(q, .inr (5, [.int a1, .int (0 : Int32)]))] H := hP
  have hD : va_D A [(q, .inr (5, [.int a1, .int (0 : Int32)]))] := hD
  rw [hQ]
  exact W.vret hx hb hr (fun t ht hW => ⟨⟨(), rfl, trivial, ⟨by rw [ht]; exact hP, va_K.moved hW.alike hK, by rw [← hAe]; exact hD⟩⟩, hS.F ht⟩) hS.2.2 dX5_init_14

set_option maxHeartbeats 1000000 in
set_option maxRecDepth 100000 in
theorem k_X0_init (l : Launch) (D : va_G) (ca : Nat → ClassId) (q : Nat) (a1 : Int32) (a2 : Int32) (a3 : Int32) (a4 : Int32) (a5 : Int32) (a6 : Int32) (a7 : Int32) (sz : Nat)  : Met l yX0_init wsX0_init ({ frames := 1, cells := 0, slots := 0, locals := 12 }) (va_Pc [.ref q, .int a1, .int a2, .int a3, .int a4, .int a5, .int a6, .int a7] (pw_pre D ca [(q, .inr (0, [.int (0 : Int32), .int (0 : Int32), .int (0 : Int32), .int (0 : Int32), .int (0 : Int32), .int (0 : Int32), .int (0 : Int32), .int (0 : Int32), .int (0 : Int32)]))] sz)) (va_Qv (fun _ : Unit => True) (fun (_ : Unit) (t : State) => pw_post D ca [(q, .inr (0, [.int (0 : Int32), .int (0 : Int32), .int (0 : Int32), .int (0 : Int32), .int (0 : Int32), .int (0 : Int32), .int (0 : Int32), .int (0 : Int32), .int (0 : Int32)]))] sz [(q, .inr (0, [.int a1, .int a3, .int a4, .int a5, .int a6, .int a7, .int a2, .int (-9 : Int32), .int (0 : Int32)]))] t) (va_A [(q, .inr (0, [.int (0 : Int32), .int (0 : Int32), .int (0 : Int32), .int (0 : Int32), .int (0 : Int32), .int (0 : Int32), .int (0 : Int32), .int (0 : Int32), .int (0 : Int32)]))] sz)) 0 0 (va_A [(q, .inr (0, [.int (0 : Int32), .int (0 : Int32), .int (0 : Int32), .int (0 : Int32), .int (0 : Int32), .int (0 : Int32), .int (0 : Int32), .int (0 : Int32), .int (0 : Int32)]))] sz) := by
  refine Met.ofW (cc := cX0_init) (maxL := 8) (ret := none) (by decide) rfl ?_
  intro p e s m args below meth c s₁ B hml hv
  obtain ⟨rfl, hsz, hP, hK, hD0⟩ := hv
  have hx := B.exec
  have hb := B.bytes
  have hr := B.returns
  have hts := atoms_spec (ws := wsX0_init) B.pre
  have hown : s.vm.findClass RX0 = some m.cls := findClass_of_methodNamed B.named
  have hlocks := B.notSynchronized
  have hin : meth.name = "<init>" := (name_of_methodNamed B.named B.method).1
  have hu0 : ∀ w ∈ u_ws RX0 TX0 9, w ∈ wsX0_init := fun w h => List.mem_cons_of_mem _ (uw0 w h)
  subst hsz
  have hD := hD0.self (sz := s.heap.size)
  obtain ⟨A, hAe⟩ : ∃ A, A = va_A [(q, .inr (0, [.int (0 : Int32), .int (0 : Int32), .int (0 : Int32), .int (0 : Int32), .int (0 : Int32), .int (0 : Int32), .int (0 : Int32), .int (0 : Int32), .int (0 : Int32)]))] s.heap.size := ⟨_, rfl⟩
  rw [← hAe] at hD ⊢
  have hA : ∀ q : Nat, s.heap.size ≤ q → A q := fun q h => by rw [hAe]; exact Or.inr h
  have hS : va_S A s.heap s.heap [] := va_S.rf
  have hl := lv_entry ([.ref q, .int a1, .int a2, .int a3, .int a4, .int a5, .int a6, .int a7]) (n := 8) (Nat.le_of_ble_eq_true rfl)
  rw [lg_entry_eq]
  generalize (lg_sl ([.ref q, .int a1, .int a2, .int a3, .int a4, .int a5, .int a6, .int a7]) ++ List.replicate (8 - (lg_sl ([.ref q, .int a1, .int a2, .int a3, .int a4, .int a5, .int a6, .int a7])).length) Slot.unset).toArray = ls at hl ⊢
  have hl : lv_has ls 8 [(0, .ref q), (1, .int a1), (2, .int a2), (3, .int a3), (4, .int a4), (5, .int a5), (6, .int a6), (7, .int a7)] := hl
  obtain ⟨H, hH⟩ : ∃ H, H = s.heap := ⟨_, rfl⟩
  have hP : va_P D vwCl [(q, .inr (0, [.int (0 : Int32), .int (0 : Int32), .int (0 : Int32), .int (0 : Int32), .int (0 : Int32), .int (0 : Int32), .int (0 : Int32), .int (0 : Int32), .int (0 : Int32)]))] H := by rw [hH]; exact hP
  have hS : va_S A s.heap H [] := by rw [hH]; exact hS
  obtain ⟨QQ, hQ⟩ : ∃ Q9, Q9 = MQ below (va_Qv (fun _ : Unit => True) (fun (_ : Unit) (t : State) => pw_post D ca [(q, .inr (0, [.int (0 : Int32), .int (0 : Int32), .int (0 : Int32), .int (0 : Int32), .int (0 : Int32), .int (0 : Int32), .int (0 : Int32), .int (0 : Int32), .int (0 : Int32)]))] s.heap.size [(q, .inr (0, [.int a1, .int a3, .int a4, .int a5, .int a6, .int a7, .int a2, .int (-9 : Int32), .int (0 : Int32)]))] t) A) ([.ref q, .int a1, .int a2, .int a3, .int a4, .int a5, .int a6, .int a7] : List Value).toArray s 0 0 A := ⟨_, rfl⟩
  rw [← hQ]
  show W _ _ _ _ _ _ _ _ _ _ s.heap _ _ _ _ _
  rw [← hH]
  refine lv_aload_n hx hb dX0_init_0 rfl (lv_at hl 0 rfl) ?_
  refine W.objInit hx hb hown (hts (.methodLink RX0 3 objectInit) (List.mem_cons_of_mem _ mw_356)) (hts (.instanceMethod objectInit) (List.mem_cons_of_mem _ mw_76)) (hts _ (List.mem_cons_of_mem _ mw_oi)) rfl (by rw [hml]; exact hl.1) rfl dX0_init_1 (Nat.le_of_ble_eq_true rfl) (Nat.le_of_ble_eq_true rfl) ?_
  refine W.eq (g2 := F0 m 4 ls []) rfl ?_
  refine lv_aload_n hx hb dX0_init_4 rfl (lv_at hl 0 rfl) ?_
  refine lv_bipush (v := (-9 : Int32)) hx hb dX0_init_5 (by decide) ?_
  refine va_put (D := D) (ci := 0) (v := .int (-9 : Int32)) (ty := .int) (C := RX0) (T := TX0) (N := 9) hx hb hts hu0 tyX0 tyX0_ok nmX0 hown hK hP hD hS 0 rfl rfl 7 (by decide) (hts (.fieldLink RX0 9 "GrazeBook$Claim" "usedOn" "I") (List.mem_cons_of_mem _ mw_372)) (fun _ h9 => h9) rfl (by decide +kernel) rfl rfl (Nat.le_of_ble_eq_true rfl) dX0_init_7 (fun H locs hP hD hS => ?_)
  have hP : va_P D vwCl [(q, .inr (0, [.int (0 : Int32), .int (0 : Int32), .int (0 : Int32), .int (0 : Int32), .int (0 : Int32), .int (0 : Int32), .int (0 : Int32), .int (-9 : Int32), .int (0 : Int32)]))] H := hP
  have hD : va_D A [(q, .inr (0, [.int (0 : Int32), .int (0 : Int32), .int (0 : Int32), .int (0 : Int32), .int (0 : Int32), .int (0 : Int32), .int (0 : Int32), .int (-9 : Int32), .int (0 : Int32)]))] := hD
  refine lv_aload_n hx hb dX0_init_10 rfl (lv_at hl 0 rfl) ?_
  refine lv_iconst (v := (0 : Int32)) hx hb dX0_init_11 (by decide) ?_
  refine va_put (D := D) (ci := 0) (v := .int (0 : Int32)) (ty := .boolean) (C := RX0) (T := TX0) (N := 9) hx hb hts hu0 tyX0 tyX0_ok nmX0 hown hK hP hD hS 0 rfl rfl 8 (by decide) (hts (.fieldLink RX0 15 "GrazeBook$Claim" "gone" "Z") (List.mem_cons_of_mem _ mw_374)) (fun _ h9 => h9) rfl (by decide +kernel) rfl rfl (Nat.le_of_ble_eq_true rfl) dX0_init_12 (fun H locs hP hD hS => ?_)
  have hP : va_P D vwCl [(q, .inr (0, [.int (0 : Int32), .int (0 : Int32), .int (0 : Int32), .int (0 : Int32), .int (0 : Int32), .int (0 : Int32), .int (0 : Int32), .int (-9 : Int32), .int (0 : Int32)]))] H := hP
  have hD : va_D A [(q, .inr (0, [.int (0 : Int32), .int (0 : Int32), .int (0 : Int32), .int (0 : Int32), .int (0 : Int32), .int (0 : Int32), .int (0 : Int32), .int (-9 : Int32), .int (0 : Int32)]))] := hD
  refine lv_aload_n hx hb dX0_init_15 rfl (lv_at hl 0 rfl) ?_
  refine lv_iload_n hx hb dX0_init_16 rfl (lv_at hl 1 rfl) ?_
  refine va_putF (D := D) (ci := 0) (v := .int a1) (ty := .int) (C := RX0) (T := TX0) (N := 9) hx hb hts hu0 tyX0 tyX0_ok nmX0 hown hK hP hD hS 0 rfl rfl 0 (by decide) (hts (.fieldLink RX0 19 "GrazeBook$Claim" "kind" "I") (List.mem_cons_of_mem _ mw_357)) (fun _ h9 => h9) rfl hin rfl (by decide +kernel) rfl rfl (Nat.le_of_ble_eq_true rfl) dX0_init_17 (fun H locs hP hD hS => ?_)
  have hP : va_P D vwCl [(q, .inr (0, [.int a1, .int (0 : Int32), .int (0 : Int32), .int (0 : Int32), .int (0 : Int32), .int (0 : Int32), .int (0 : Int32), .int (-9 : Int32), .int (0 : Int32)]))] H := hP
  have hD : va_D A [(q, .inr (0, [.int a1, .int (0 : Int32), .int (0 : Int32), .int (0 : Int32), .int (0 : Int32), .int (0 : Int32), .int (0 : Int32), .int (-9 : Int32), .int (0 : Int32)]))] := hD
  refine lv_aload_n hx hb dX0_init_20 rfl (lv_at hl 0 rfl) ?_
  refine lv_iload_n hx hb dX0_init_21 rfl (lv_at hl 2 rfl) ?_
  refine va_put (D := D) (ci := 0) (v := .int a2) (ty := .int) (C := RX0) (T := TX0) (N := 9) hx hb hts hu0 tyX0 tyX0_ok nmX0 hown hK hP hD hS 0 rfl rfl 6 (by decide) (hts (.fieldLink RX0 22 "GrazeBook$Claim" "who" "I") (List.mem_cons_of_mem _ mw_370)) (fun _ h9 => h9) rfl (by decide +kernel) rfl rfl (Nat.le_of_ble_eq_true rfl) dX0_init_22 (fun H locs hP hD hS => ?_)
  have hP : va_P D vwCl [(q, .inr (0, [.int a1, .int (0 : Int32), .int (0 : Int32), .int (0 : Int32), .int (0 : Int32), .int (0 : Int32), .int a2, .int (-9 : Int32), .int (0 : Int32)]))] H := hP
  have hD : va_D A [(q, .inr (0, [.int a1, .int (0 : Int32), .int (0 : Int32), .int (0 : Int32), .int (0 : Int32), .int (0 : Int32), .int a2, .int (-9 : Int32), .int (0 : Int32)]))] := hD
  refine lv_aload_n hx hb dX0_init_25 rfl (lv_at hl 0 rfl) ?_
  refine lv_iload_n hx hb dX0_init_26 rfl (lv_at hl 3 rfl) ?_
  refine va_putF (D := D) (ci := 0) (v := .int a3) (ty := .int) (C := RX0) (T := TX0) (N := 9) hx hb hts hu0 tyX0 tyX0_ok nmX0 hown hK hP hD hS 0 rfl rfl 1 (by decide) (hts (.fieldLink RX0 25 "GrazeBook$Claim" "parts" "I") (List.mem_cons_of_mem _ mw_360)) (fun _ h9 => h9) rfl hin rfl (by decide +kernel) rfl rfl (Nat.le_of_ble_eq_true rfl) dX0_init_27 (fun H locs hP hD hS => ?_)
  have hP : va_P D vwCl [(q, .inr (0, [.int a1, .int a3, .int (0 : Int32), .int (0 : Int32), .int (0 : Int32), .int (0 : Int32), .int a2, .int (-9 : Int32), .int (0 : Int32)]))] H := hP
  have hD : va_D A [(q, .inr (0, [.int a1, .int a3, .int (0 : Int32), .int (0 : Int32), .int (0 : Int32), .int (0 : Int32), .int a2, .int (-9 : Int32), .int (0 : Int32)]))] := hD
  refine lv_aload_n hx hb dX0_init_30 rfl (lv_at hl 0 rfl) ?_
  refine lv_iload hx hb dX0_init_31 (lv_at hl 4 rfl) ?_
  refine va_putF (D := D) (ci := 0) (v := .int a4) (ty := .int) (C := RX0) (T := TX0) (N := 9) hx hb hts hu0 tyX0 tyX0_ok nmX0 hown hK hP hD hS 0 rfl rfl 2 (by decide) (hts (.fieldLink RX0 28 "GrazeBook$Claim" "first" "I") (List.mem_cons_of_mem _ mw_362)) (fun _ h9 => h9) rfl hin rfl (by decide +kernel) rfl rfl (Nat.le_of_ble_eq_true rfl) dX0_init_33 (fun H locs hP hD hS => ?_)
  have hP : va_P D vwCl [(q, .inr (0, [.int a1, .int a3, .int a4, .int (0 : Int32), .int (0 : Int32), .int (0 : Int32), .int a2, .int (-9 : Int32), .int (0 : Int32)]))] H := hP
  have hD : va_D A [(q, .inr (0, [.int a1, .int a3, .int a4, .int (0 : Int32), .int (0 : Int32), .int (0 : Int32), .int a2, .int (-9 : Int32), .int (0 : Int32)]))] := hD
  refine lv_aload_n hx hb dX0_init_36 rfl (lv_at hl 0 rfl) ?_
  refine lv_iload hx hb dX0_init_37 (lv_at hl 5 rfl) ?_
  refine va_putF (D := D) (ci := 0) (v := .int a5) (ty := .int) (C := RX0) (T := TX0) (N := 9) hx hb hts hu0 tyX0 tyX0_ok nmX0 hown hK hP hD hS 0 rfl rfl 3 (by decide) (hts (.fieldLink RX0 31 "GrazeBook$Claim" "last" "I") (List.mem_cons_of_mem _ mw_364)) (fun _ h9 => h9) rfl hin rfl (by decide +kernel) rfl rfl (Nat.le_of_ble_eq_true rfl) dX0_init_39 (fun H locs hP hD hS => ?_)
  have hP : va_P D vwCl [(q, .inr (0, [.int a1, .int a3, .int a4, .int a5, .int (0 : Int32), .int (0 : Int32), .int a2, .int (-9 : Int32), .int (0 : Int32)]))] H := hP
  have hD : va_D A [(q, .inr (0, [.int a1, .int a3, .int a4, .int a5, .int (0 : Int32), .int (0 : Int32), .int a2, .int (-9 : Int32), .int (0 : Int32)]))] := hD
  refine lv_aload_n hx hb dX0_init_42 rfl (lv_at hl 0 rfl) ?_
  refine lv_iload hx hb dX0_init_43 (lv_at hl 6 rfl) ?_
  refine va_putF (D := D) (ci := 0) (v := .int a6) (ty := .int) (C := RX0) (T := TX0) (N := 9) hx hb hts hu0 tyX0 tyX0_ok nmX0 hown hK hP hD hS 0 rfl rfl 4 (by decide) (hts (.fieldLink RX0 34 "GrazeBook$Claim" "piece" "I") (List.mem_cons_of_mem _ mw_366)) (fun _ h9 => h9) rfl hin rfl (by decide +kernel) rfl rfl (Nat.le_of_ble_eq_true rfl) dX0_init_45 (fun H locs hP hD hS => ?_)
  have hP : va_P D vwCl [(q, .inr (0, [.int a1, .int a3, .int a4, .int a5, .int a6, .int (0 : Int32), .int a2, .int (-9 : Int32), .int (0 : Int32)]))] H := hP
  have hD : va_D A [(q, .inr (0, [.int a1, .int a3, .int a4, .int a5, .int a6, .int (0 : Int32), .int a2, .int (-9 : Int32), .int (0 : Int32)]))] := hD
  refine lv_aload_n hx hb dX0_init_48 rfl (lv_at hl 0 rfl) ?_
  refine lv_iload hx hb dX0_init_49 (lv_at hl 7 rfl) ?_
  refine va_putF (D := D) (ci := 0) (v := .int a7) (ty := .int) (C := RX0) (T := TX0) (N := 9) hx hb hts hu0 tyX0 tyX0_ok nmX0 hown hK hP hD hS 0 rfl rfl 5 (by decide) (hts (.fieldLink RX0 37 "GrazeBook$Claim" "source" "I") (List.mem_cons_of_mem _ mw_368)) (fun _ h9 => h9) rfl hin rfl (by decide +kernel) rfl rfl (Nat.le_of_ble_eq_true rfl) dX0_init_51 (fun H locs hP hD hS => ?_)
  have hP : va_P D vwCl [(q, .inr (0, [.int a1, .int a3, .int a4, .int a5, .int a6, .int a7, .int a2, .int (-9 : Int32), .int (0 : Int32)]))] H := hP
  have hD : va_D A [(q, .inr (0, [.int a1, .int a3, .int a4, .int a5, .int a6, .int a7, .int a2, .int (-9 : Int32), .int (0 : Int32)]))] := hD
  rw [hQ]
  exact W.vret hx hb hr (fun t ht hW => ⟨⟨(), rfl, trivial, ⟨by rw [ht]; exact hP, va_K.moved hW.alike hK, by rw [← hAe]; exact hD⟩⟩, hS.F ht⟩) hS.2.2 dX0_init_54

set_option maxHeartbeats 1000000 in
set_option maxRecDepth 100000 in
theorem k_X2_init (l : Launch) (D : va_G) (ca : Nat → ClassId) (q : Nat) (a1 : Int32) (a2 : Int32) (a3 : Int32) (sz : Nat)  : Met l yX2_init wsX2_init ({ frames := 1, cells := 0, slots := 0, locals := 12 }) (va_Pc [.ref q, .int a1, .int a2, .int a3] (pw_pre D ca [(q, .inr (2, [.int (0 : Int32), .int (0 : Int32), .int (0 : Int32), .int (0 : Int32), .int (0 : Int32), .int (0 : Int32), .int (0 : Int32), .int (0 : Int32)]))] sz)) (va_Qv (fun _ : Unit => True) (fun (_ : Unit) (t : State) => pw_post D ca [(q, .inr (2, [.int (0 : Int32), .int (0 : Int32), .int (0 : Int32), .int (0 : Int32), .int (0 : Int32), .int (0 : Int32), .int (0 : Int32), .int (0 : Int32)]))] sz [(q, .inr (2, [.int a1, .int a2, .int a3, .int (-1 : Int32), .int (0 : Int32), .int (0 : Int32), .int (0 : Int32), .int (0 : Int32)]))] t) (va_A [(q, .inr (2, [.int (0 : Int32), .int (0 : Int32), .int (0 : Int32), .int (0 : Int32), .int (0 : Int32), .int (0 : Int32), .int (0 : Int32), .int (0 : Int32)]))] sz)) 0 0 (va_A [(q, .inr (2, [.int (0 : Int32), .int (0 : Int32), .int (0 : Int32), .int (0 : Int32), .int (0 : Int32), .int (0 : Int32), .int (0 : Int32), .int (0 : Int32)]))] sz) := by
  refine Met.ofW (cc := cX2_init) (maxL := 4) (ret := none) (by decide) rfl ?_
  intro p e s m args below meth c s₁ B hml hv
  obtain ⟨rfl, hsz, hP, hK, hD0⟩ := hv
  have hx := B.exec
  have hb := B.bytes
  have hr := B.returns
  have hts := atoms_spec (ws := wsX2_init) B.pre
  have hown : s.vm.findClass RX2 = some m.cls := findClass_of_methodNamed B.named
  have hlocks := B.notSynchronized
  have hin : meth.name = "<init>" := (name_of_methodNamed B.named B.method).1
  have hu2 : ∀ w ∈ u_ws RX2 TX2 8, w ∈ wsX2_init := fun w h => List.mem_cons_of_mem _ (uw2 w h)
  subst hsz
  have hD := hD0.self (sz := s.heap.size)
  obtain ⟨A, hAe⟩ : ∃ A, A = va_A [(q, .inr (2, [.int (0 : Int32), .int (0 : Int32), .int (0 : Int32), .int (0 : Int32), .int (0 : Int32), .int (0 : Int32), .int (0 : Int32), .int (0 : Int32)]))] s.heap.size := ⟨_, rfl⟩
  rw [← hAe] at hD ⊢
  have hA : ∀ q : Nat, s.heap.size ≤ q → A q := fun q h => by rw [hAe]; exact Or.inr h
  have hS : va_S A s.heap s.heap [] := va_S.rf
  have hl := lv_entry ([.ref q, .int a1, .int a2, .int a3]) (n := 4) (Nat.le_of_ble_eq_true rfl)
  rw [lg_entry_eq]
  generalize (lg_sl ([.ref q, .int a1, .int a2, .int a3]) ++ List.replicate (4 - (lg_sl ([.ref q, .int a1, .int a2, .int a3])).length) Slot.unset).toArray = ls at hl ⊢
  have hl : lv_has ls 4 [(0, .ref q), (1, .int a1), (2, .int a2), (3, .int a3)] := hl
  obtain ⟨H, hH⟩ : ∃ H, H = s.heap := ⟨_, rfl⟩
  have hP : va_P D vwCl [(q, .inr (2, [.int (0 : Int32), .int (0 : Int32), .int (0 : Int32), .int (0 : Int32), .int (0 : Int32), .int (0 : Int32), .int (0 : Int32), .int (0 : Int32)]))] H := by rw [hH]; exact hP
  have hS : va_S A s.heap H [] := by rw [hH]; exact hS
  obtain ⟨QQ, hQ⟩ : ∃ Q9, Q9 = MQ below (va_Qv (fun _ : Unit => True) (fun (_ : Unit) (t : State) => pw_post D ca [(q, .inr (2, [.int (0 : Int32), .int (0 : Int32), .int (0 : Int32), .int (0 : Int32), .int (0 : Int32), .int (0 : Int32), .int (0 : Int32), .int (0 : Int32)]))] s.heap.size [(q, .inr (2, [.int a1, .int a2, .int a3, .int (-1 : Int32), .int (0 : Int32), .int (0 : Int32), .int (0 : Int32), .int (0 : Int32)]))] t) A) ([.ref q, .int a1, .int a2, .int a3] : List Value).toArray s 0 0 A := ⟨_, rfl⟩
  rw [← hQ]
  show W _ _ _ _ _ _ _ _ _ _ s.heap _ _ _ _ _
  rw [← hH]
  refine lv_aload_n hx hb dX2_init_0 rfl (lv_at hl 0 rfl) ?_
  refine W.objInit hx hb hown (hts (.methodLink RX2 3 objectInit) (List.mem_cons_of_mem _ mw_439)) (hts (.instanceMethod objectInit) (List.mem_cons_of_mem _ mw_76)) (hts _ (List.mem_cons_of_mem _ mw_oi)) rfl (by rw [hml]; exact hl.1) rfl dX2_init_1 (Nat.le_of_ble_eq_true rfl) (Nat.le_of_ble_eq_true rfl) ?_
  refine W.eq (g2 := F0 m 4 ls []) rfl ?_
  refine lv_aload_n hx hb dX2_init_4 rfl (lv_at hl 0 rfl) ?_
  refine lv_iconst (v := (-1 : Int32)) hx hb dX2_init_5 (by decide) ?_
  refine va_put (D := D) (ci := 2) (v := .int (-1 : Int32)) (ty := .int) (C := RX2) (T := TX2) (N := 8) hx hb hts hu2 tyX2 tyX2_ok nmX2 hown hK hP hD hS 0 rfl rfl 3 (by decide) (hts (.fieldLink RX2 9 "GrazeBook$Drove" "piece" "I") (List.mem_cons_of_mem _ mw_448)) (fun _ h9 => h9) rfl (by decide +kernel) rfl rfl (Nat.le_of_ble_eq_true rfl) dX2_init_6 (fun H locs hP hD hS => ?_)
  have hP : va_P D vwCl [(q, .inr (2, [.int (0 : Int32), .int (0 : Int32), .int (0 : Int32), .int (-1 : Int32), .int (0 : Int32), .int (0 : Int32), .int (0 : Int32), .int (0 : Int32)]))] H := hP
  have hD : va_D A [(q, .inr (2, [.int (0 : Int32), .int (0 : Int32), .int (0 : Int32), .int (-1 : Int32), .int (0 : Int32), .int (0 : Int32), .int (0 : Int32), .int (0 : Int32)]))] := hD
  refine lv_aload_n hx hb dX2_init_9 rfl (lv_at hl 0 rfl) ?_
  refine lv_iconst (v := (0 : Int32)) hx hb dX2_init_10 (by decide) ?_
  refine va_put (D := D) (ci := 2) (v := .int (0 : Int32)) (ty := .int) (C := RX2) (T := TX2) (N := 8) hx hb hts hu2 tyX2 tyX2_ok nmX2 hown hK hP hD hS 0 rfl rfl 4 (by decide) (hts (.fieldLink RX2 15 "GrazeBook$Drove" "order" "I") (List.mem_cons_of_mem _ mw_452)) (fun _ h9 => h9) rfl (by decide +kernel) rfl rfl (Nat.le_of_ble_eq_true rfl) dX2_init_11 (fun H locs hP hD hS => ?_)
  have hP : va_P D vwCl [(q, .inr (2, [.int (0 : Int32), .int (0 : Int32), .int (0 : Int32), .int (-1 : Int32), .int (0 : Int32), .int (0 : Int32), .int (0 : Int32), .int (0 : Int32)]))] H := hP
  have hD : va_D A [(q, .inr (2, [.int (0 : Int32), .int (0 : Int32), .int (0 : Int32), .int (-1 : Int32), .int (0 : Int32), .int (0 : Int32), .int (0 : Int32), .int (0 : Int32)]))] := hD
  refine lv_aload_n hx hb dX2_init_14 rfl (lv_at hl 0 rfl) ?_
  refine lv_iconst (v := (0 : Int32)) hx hb dX2_init_15 (by decide) ?_
  refine va_put (D := D) (ci := 2) (v := .int (0 : Int32)) (ty := .int) (C := RX2) (T := TX2) (N := 8) hx hb hts hu2 tyX2 tyX2_ok nmX2 hown hK hP hD hS 0 rfl rfl 5 (by decide) (hts (.fieldLink RX2 18 "GrazeBook$Drove" "hunger" "I") (List.mem_cons_of_mem _ mw_454)) (fun _ h9 => h9) rfl (by decide +kernel) rfl rfl (Nat.le_of_ble_eq_true rfl) dX2_init_16 (fun H locs hP hD hS => ?_)
  have hP : va_P D vwCl [(q, .inr (2, [.int (0 : Int32), .int (0 : Int32), .int (0 : Int32), .int (-1 : Int32), .int (0 : Int32), .int (0 : Int32), .int (0 : Int32), .int (0 : Int32)]))] H := hP
  have hD : va_D A [(q, .inr (2, [.int (0 : Int32), .int (0 : Int32), .int (0 : Int32), .int (-1 : Int32), .int (0 : Int32), .int (0 : Int32), .int (0 : Int32), .int (0 : Int32)]))] := hD
  refine lv_aload_n hx hb dX2_init_19 rfl (lv_at hl 0 rfl) ?_
  refine lv_iconst (v := (0 : Int32)) hx hb dX2_init_20 (by decide) ?_
  refine va_put (D := D) (ci := 2) (v := .int (0 : Int32)) (ty := .int) (C := RX2) (T := TX2) (N := 8) hx hb hts hu2 tyX2 tyX2_ok nmX2 hown hK hP hD hS 0 rfl rfl 6 (by decide) (hts (.fieldLink RX2 21 "GrazeBook$Drove" "state" "I") (List.mem_cons_of_mem _ mw_456)) (fun _ h9 => h9) rfl (by decide +kernel) rfl rfl (Nat.le_of_ble_eq_true rfl) dX2_init_21 (fun H locs hP hD hS => ?_)
  have hP : va_P D vwCl [(q, .inr (2, [.int (0 : Int32), .int (0 : Int32), .int (0 : Int32), .int (-1 : Int32), .int (0 : Int32), .int (0 : Int32), .int (0 : Int32), .int (0 : Int32)]))] H := hP
  have hD : va_D A [(q, .inr (2, [.int (0 : Int32), .int (0 : Int32), .int (0 : Int32), .int (-1 : Int32), .int (0 : Int32), .int (0 : Int32), .int (0 : Int32), .int (0 : Int32)]))] := hD
  refine lv_aload_n hx hb dX2_init_24 rfl (lv_at hl 0 rfl) ?_
  refine lv_iconst (v := (0 : Int32)) hx hb dX2_init_25 (by decide) ?_
  refine va_put (D := D) (ci := 2) (v := .int (0 : Int32)) (ty := .int) (C := RX2) (T := TX2) (N := 8) hx hb hts hu2 tyX2 tyX2_ok nmX2 hown hK hP hD hS 0 rfl rfl 7 (by decide) (hts (.fieldLink RX2 24 "GrazeBook$Drove" "poundedOn" "I") (List.mem_cons_of_mem _ mw_458)) (fun _ h9 => h9) rfl (by decide +kernel) rfl rfl (Nat.le_of_ble_eq_true rfl) dX2_init_26 (fun H locs hP hD hS => ?_)
  have hP : va_P D vwCl [(q, .inr (2, [.int (0 : Int32), .int (0 : Int32), .int (0 : Int32), .int (-1 : Int32), .int (0 : Int32), .int (0 : Int32), .int (0 : Int32), .int (0 : Int32)]))] H := hP
  have hD : va_D A [(q, .inr (2, [.int (0 : Int32), .int (0 : Int32), .int (0 : Int32), .int (-1 : Int32), .int (0 : Int32), .int (0 : Int32), .int (0 : Int32), .int (0 : Int32)]))] := hD
  refine lv_aload_n hx hb dX2_init_29 rfl (lv_at hl 0 rfl) ?_
  refine lv_iload_n hx hb dX2_init_30 rfl (lv_at hl 1 rfl) ?_
  refine va_putF (D := D) (ci := 2) (v := .int a1) (ty := .int) (C := RX2) (T := TX2) (N := 8) hx hb hts hu2 tyX2 tyX2_ok nmX2 hown hK hP hD hS 0 rfl rfl 0 (by decide) (hts (.fieldLink RX2 27 "GrazeBook$Drove" "owner" "I") (List.mem_cons_of_mem _ mw_440)) (fun _ h9 => h9) rfl hin rfl (by decide +kernel) rfl rfl (Nat.le_of_ble_eq_true rfl) dX2_init_31 (fun H locs hP hD hS => ?_)
  have hP : va_P D vwCl [(q, .inr (2, [.int a1, .int (0 : Int32), .int (0 : Int32), .int (-1 : Int32), .int (0 : Int32), .int (0 : Int32), .int (0 : Int32), .int (0 : Int32)]))] H := hP
  have hD : va_D A [(q, .inr (2, [.int a1, .int (0 : Int32), .int (0 : Int32), .int (-1 : Int32), .int (0 : Int32), .int (0 : Int32), .int (0 : Int32), .int (0 : Int32)]))] := hD
  refine lv_aload_n hx hb dX2_init_34 rfl (lv_at hl 0 rfl) ?_
  refine lv_iload_n hx hb dX2_init_35 rfl (lv_at hl 2 rfl) ?_
  refine va_putF (D := D) (ci := 2) (v := .int a2) (ty := .int) (C := RX2) (T := TX2) (N := 8) hx hb hts hu2 tyX2 tyX2_ok nmX2 hown hK hP hD hS 0 rfl rfl 1 (by decide) (hts (.fieldLink RX2 30 "GrazeBook$Drove" "sort" "I") (List.mem_cons_of_mem _ mw_442)) (fun _ h9 => h9) rfl hin rfl (by decide +kernel) rfl rfl (Nat.le_of_ble_eq_true rfl) dX2_init_36 (fun H locs hP hD hS => ?_)
  have hP : va_P D vwCl [(q, .inr (2, [.int a1, .int a2, .int (0 : Int32), .int (-1 : Int32), .int (0 : Int32), .int (0 : Int32), .int (0 : Int32), .int (0 : Int32)]))] H := hP
  have hD : va_D A [(q, .inr (2, [.int a1, .int a2, .int (0 : Int32), .int (-1 : Int32), .int (0 : Int32), .int (0 : Int32), .int (0 : Int32), .int (0 : Int32)]))] := hD
  refine lv_aload_n hx hb dX2_init_39 rfl (lv_at hl 0 rfl) ?_
  refine lv_iload_n hx hb dX2_init_40 rfl (lv_at hl 3 rfl) ?_
  refine va_putF (D := D) (ci := 2) (v := .int a3) (ty := .int) (C := RX2) (T := TX2) (N := 8) hx hb hts hu2 tyX2 tyX2_ok nmX2 hown hK hP hD hS 0 rfl rfl 2 (by decide) (hts (.fieldLink RX2 33 "GrazeBook$Drove" "beasts" "I") (List.mem_cons_of_mem _ mw_446)) (fun _ h9 => h9) rfl hin rfl (by decide +kernel) rfl rfl (Nat.le_of_ble_eq_true rfl) dX2_init_41 (fun H locs hP hD hS => ?_)
  have hP : va_P D vwCl [(q, .inr (2, [.int a1, .int a2, .int a3, .int (-1 : Int32), .int (0 : Int32), .int (0 : Int32), .int (0 : Int32), .int (0 : Int32)]))] H := hP
  have hD : va_D A [(q, .inr (2, [.int a1, .int a2, .int a3, .int (-1 : Int32), .int (0 : Int32), .int (0 : Int32), .int (0 : Int32), .int (0 : Int32)]))] := hD
  rw [hQ]
  exact W.vret hx hb hr (fun t ht hW => ⟨⟨(), rfl, trivial, ⟨by rw [ht]; exact hP, va_K.moved hW.alike hK, by rw [← hAe]; exact hD⟩⟩, hS.F ht⟩) hS.2.2 dX2_init_44

