def s_X9_refuse (σ : St) (a1 : Int32) : Int32 × St := (a1, (put σ 0 ((-a1).toNatClampNeg) ((σ 0 ((-a1).toNatClampNeg)) + (1 : Int32))))
theorem fr_s_X9_refuse (σ : St) (a1 : Int32) {f : Nat} (h0 : f ≠ 0) : (s_X9_refuse σ a1 ).2 f = σ f := by
  unfold s_X9_refuse
  all_goals ((try dsimp only) <;> ((repeat' split) <;> (try simp only [put_fr, ne_eq, not_false_eq_true, h0])))
set_option maxHeartbeats 1000000 in
set_option maxRecDepth 100000 in
theorem k_X9_refuse (l : Launch) (D : va_G) (ca : Nat → ClassId) (h : Nat) (ad : Nat → Nat) (σ : St) (a1 : Int32) (sz : Nat) (hI : IR σ) (hc : vp_in (-a1) 7) (R : Int32 × St) (hR : s_X9_refuse σ a1 = R) : Met l yX9_refuse wsX9_refuse ({ frames := 0, cells := 0, slots := 0, locals := 0 }) (va_Pc [.ref h, .int a1] (pw_pre D ca (WM ca h ad σ) sz)) (va_Qi (fun (r : Int32) (_ : Unit) => r = R.1) (fun (_ : Unit) (t : State) => pw_post D ca (WM ca h ad σ) sz (WM ca h ad (R.2)) t ∧ IR R.2) (va_A (WM ca h ad σ) sz)) 0 0 (va_A (WM ca h ad σ) sz) := by
  refine Met.ofW (cc := cX9_refuse) (maxL := 2) (ret := (some .int)) (by decide) rfl ?_
  intro p e s m args below meth c s₁ B hml hv
  obtain ⟨rfl, hsz, hP, hK, hD0⟩ := hv
  have hx := B.exec
  have hb := B.bytes
  have hr := B.returns
  have hts := atoms_spec (ws := wsX9_refuse) B.pre
  have hown : s.vm.findClass RX9 = some m.cls := findClass_of_methodNamed B.named
  have hlocks := B.notSynchronized
  have hu9 : ∀ w ∈ u_ws RX9 TX9 51, w ∈ wsX9_refuse := fun w h => List.mem_cons_of_mem _ (uw9 w h)
  subst hsz
  have hD := hD0.self (sz := s.heap.size)
  obtain ⟨A, hAe⟩ : ∃ A, A = va_A (WM ca h ad σ) s.heap.size := ⟨_, rfl⟩
  rw [← hAe] at hD ⊢
  have hA : ∀ q : Nat, s.heap.size ≤ q → A q := fun q h => by rw [hAe]; exact Or.inr h
  have hS : va_S A s.heap s.heap [] := va_S.rf
  have hl := lv_entry ([.ref h, .int a1]) (n := 2) (Nat.le_of_ble_eq_true rfl)
  rw [lg_entry_eq]
  generalize (lg_sl ([.ref h, .int a1]) ++ List.replicate (2 - (lg_sl ([.ref h, .int a1])).length) Slot.unset).toArray = ls at hl ⊢
  have hl : lv_has ls 2 [(0, .ref h), (1, .int a1)] := hl
  obtain ⟨H, hH⟩ : ∃ H, H = s.heap := ⟨_, rfl⟩
  have hP : va_P D vwCl (WM ca h ad σ) H := by rw [hH]; exact hP
  have hS : va_S A s.heap H [] := by rw [hH]; exact hS
  obtain ⟨QQ, hQ⟩ : ∃ Q9, Q9 = MQ below (va_Qi (fun (r : Int32) (_ : Unit) => r = R.1) (fun (_ : Unit) (t : State) => pw_post D ca (WM ca h ad σ) s.heap.size (WM ca h ad (R.2)) t ∧ IR R.2) A) ([.ref h, .int a1] : List Value).toArray s 0 0 A := ⟨_, rfl⟩
  rw [← hQ]
  show W _ _ _ _ _ _ _ _ _ _ s.heap _ _ _ _ _
  rw [← hH]
  have hR : (a1, (put σ 0 ((-a1).toNatClampNeg) ((σ 0 ((-a1).toNatClampNeg)) + (1 : Int32)))) = R := hR
  refine lv_aload_n hx hb dX9_refuse_0 rfl (lv_at hl 0 rfl) ?_
  refine va_get (D := D) (ci := 9) (v := .ref (ad 0)) (C := RX9) (T := TX9) (N := 51) hx hb hts hu9 hown hK hP 0 wm_0 rfl 0 (by decide) (hts (.fieldLink RX9 7 "GrazeBookModel" "refusals" "[I") (List.mem_cons_of_mem _ mw_783)) (fun _ h9 => h9) rfl dX9_refuse_1 ?_
  refine lv_iload_n hx hb dX9_refuse_4 rfl (lv_at hl 1 rfl) ?_
  refine lv_ineg hx hb dX9_refuse_5 ?_
  refine lv_dup2_11 hx hb dX9_refuse_6 rfl rfl ?_
  refine va_iald_k (k := ((-a1).toNatClampNeg)) (v := (σ 0 ((-a1).toNatClampNeg))) hx hb hK hP 1 0 wm_a0 rfl rfl rfl hc dX9_refuse_7 ?_
  refine lv_iconst (v := (1 : Int32)) hx hb dX9_refuse_8 (by decide) ?_
  refine lv_iadd hx hb dX9_refuse_9 ?_
  refine va_iast_k (k := ((-a1).toNatClampNeg)) hx hb hK hP hD hS 1 0 wm_a0 rfl rfl hc dX9_refuse_10 (fun H locs hP hD hS => ?_)
  rw [wm_s0] at hP hD
  refine lv_iload_n hx hb dX9_refuse_11 rfl (lv_at hl 1 rfl) ?_
  have hI9 : IR (put σ 0 ((-a1).toNatClampNeg) ((σ 0 ((-a1).toNatClampNeg)) + (1 : Int32))) := hI
  subst hR
  rw [hQ]
  exact W.iret (v := a1) hx hb hr (fun t ht hW => ⟨⟨a1, (), rfl, rfl, ⟨by rw [ht]; exact hP, va_K.moved hW.alike hK, by rw [← hAe]; exact hD⟩, hI9⟩, hS.F ht⟩) hS.2.2 dX9_refuse_12

def s_X9_isIn (a1 : Int32) (a2 : Int32) : Int32 := (if a1 < (0 : Int32) then (0 : Int32) else (if a2 ≤ a1 then (0 : Int32) else (1 : Int32)))
set_option maxHeartbeats 1000000 in
set_option maxRecDepth 100000 in
theorem k_X9_isIn (l : Launch) (D : va_G) (ca : Nat → ClassId) (a1 : Int32) (a2 : Int32) (sz : Nat)   (R : Int32) (hR : s_X9_isIn a1 a2 = R) : Met l yX9_isIn wsX9_isIn ({ frames := 0, cells := 0, slots := 0, locals := 0 }) (va_Pc [.int a1, .int a2] (pw_pre D ca [] sz)) (va_Qi (fun (r : Int32) (_ : Unit) => r = R) (fun (_ : Unit) (t : State) => pw_post D ca [] sz [] t) (va_A ([]) sz)) 0 0 (va_A ([]) sz) := by
  refine Met.ofW (cc := cX9_isIn) (maxL := 2) (ret := (some .boolean)) (by decide) rfl ?_
  intro p e s m args below meth c s₁ B hml hv
  obtain ⟨rfl, hsz, hP, hK, hD0⟩ := hv
  have hx := B.exec
  have hb := B.bytes
  have hr := B.returns
  have hts := atoms_spec (ws := wsX9_isIn) B.pre
  have hown : s.vm.findClass RX9 = some m.cls := findClass_of_methodNamed B.named
  have hlocks := B.notSynchronized
  subst hsz
  have hD := hD0.self (sz := s.heap.size)
  obtain ⟨A, hAe⟩ : ∃ A, A = va_A ([]) s.heap.size := ⟨_, rfl⟩
  rw [← hAe] at hD ⊢
  have hA : ∀ q : Nat, s.heap.size ≤ q → A q := fun q h => by rw [hAe]; exact Or.inr h
  have hS : va_S A s.heap s.heap [] := va_S.rf
  have hl := lv_entry ([.int a1, .int a2]) (n := 2) (Nat.le_of_ble_eq_true rfl)
  rw [lg_entry_eq]
  generalize (lg_sl ([.int a1, .int a2]) ++ List.replicate (2 - (lg_sl ([.int a1, .int a2])).length) Slot.unset).toArray = ls at hl ⊢
  have hl : lv_has ls 2 [(0, .int a1), (1, .int a2)] := hl
  obtain ⟨H, hH⟩ : ∃ H, H = s.heap := ⟨_, rfl⟩
  have hP : va_P D vwCl ([]) H := by rw [hH]; exact hP
  have hS : va_S A s.heap H [] := by rw [hH]; exact hS
  obtain ⟨QQ, hQ⟩ : ∃ Q9, Q9 = MQ below (va_Qi (fun (r : Int32) (_ : Unit) => r = R) (fun (_ : Unit) (t : State) => pw_post D ca [] s.heap.size [] t) A) ([.int a1, .int a2] : List Value).toArray s 0 0 A := ⟨_, rfl⟩
  rw [← hQ]
  show W _ _ _ _ _ _ _ _ _ _ s.heap _ _ _ _ _
  rw [← hH]
  have hR : (if a1 < (0 : Int32) then (0 : Int32) else (if a2 ≤ a1 then (0 : Int32) else (1 : Int32))) = R := hR
  refine lv_iload_n hx hb dX9_isIn_0 rfl (lv_at hl 0 rfl) ?_
  refine lv_if_lt (tgt := 13) hx hb dX9_isIn_1 (by decide) (fun c_1 => ?_) (fun c_1 => ?_)
  · have hR := (if_pos c_1).symm.trans hR
    refine lv_iconst (v := (0 : Int32)) hx hb dX9_isIn_13 (by decide) ?_
    subst hR
    rw [hQ]
    exact W.zret (v := (0 : Int32)) hx hb hr rfl (fun t ht hW => ⟨⟨(0 : Int32), (), rfl, rfl, ⟨by rw [ht]; exact hP, va_K.moved hW.alike hK, by rw [← hAe]; exact hD⟩⟩, hS.F ht⟩) hS.2.2 dX9_isIn_14
  · have hR := (if_neg c_1).symm.trans hR
    refine lv_iload_n hx hb dX9_isIn_4 rfl (lv_at hl 0 rfl) ?_
    refine lv_iload_n hx hb dX9_isIn_5 rfl (lv_at hl 1 rfl) ?_
    refine lv_icmp_ge (tgt := 13) hx hb dX9_isIn_6 (by decide) (fun c_2 => ?_) (fun c_2 => ?_)
    · have hR := (if_pos c_2).symm.trans hR
      refine lv_iconst (v := (0 : Int32)) hx hb dX9_isIn_13 (by decide) ?_
      subst hR
      rw [hQ]
      exact W.zret (v := (0 : Int32)) hx hb hr rfl (fun t ht hW => ⟨⟨(0 : Int32), (), rfl, rfl, ⟨by rw [ht]; exact hP, va_K.moved hW.alike hK, by rw [← hAe]; exact hD⟩⟩, hS.F ht⟩) hS.2.2 dX9_isIn_14
    · have hR := (if_neg c_2).symm.trans hR
      refine lv_iconst (v := (1 : Int32)) hx hb dX9_isIn_9 (by decide) ?_
      refine lv_goto (tgt := 14) hx hb dX9_isIn_10 (by decide) ?_
      subst hR
      rw [hQ]
      exact W.zret (v := (1 : Int32)) hx hb hr rfl (fun t ht hW => ⟨⟨(1 : Int32), (), rfl, rfl, ⟨by rw [ht]; exact hP, va_K.moved hW.alike hK, by rw [← hAe]; exact hD⟩⟩, hS.F ht⟩) hS.2.2 dX9_isIn_14

theorem ix_isIn {x n : Int32} {N : Nat} (h : ¬ s_X9_isIn x n = 0) (hn : 0 ≤ n.toInt ∧ n.toInt ≤ (N : Int)) : vp_in x N := by
  unfold s_X9_isIn at h
  rw [vp_in_iff]
  split at h
  · exact absurd rfl h
  · split at h
    · exact absurd rfl h
    · rename_i h1 h2
      rw [Int32.lt_iff_toInt_lt, show (0 : Int32).toInt = 0 from by decide] at h1
      rw [Int32.le_iff_toInt_le] at h2
      omega

def s_X9_partsOfSort (a1 : Int32) : Int32 := (if a1 = (0 : Int32) then (30 : Int32) else (if a1 = (1 : Int32) then (45 : Int32) else (6 : Int32)))
set_option maxHeartbeats 1000000 in
set_option maxRecDepth 100000 in
theorem k_X9_partsOfSort (l : Launch) (D : va_G) (ca : Nat → ClassId) (a1 : Int32) (sz : Nat)   (R : Int32) (hR : s_X9_partsOfSort a1 = R) : Met l yX9_partsOfSort wsX9_partsOfSort ({ frames := 0, cells := 0, slots := 0, locals := 0 }) (va_Pc [.int a1] (pw_pre D ca [] sz)) (va_Qi (fun (r : Int32) (_ : Unit) => r = R) (fun (_ : Unit) (t : State) => pw_post D ca [] sz [] t) (va_A ([]) sz)) 0 0 (va_A ([]) sz) := by
  refine Met.ofW (cc := cX9_partsOfSort) (maxL := 1) (ret := (some .int)) (by decide) rfl ?_
  intro p e s m args below meth c s₁ B hml hv
  obtain ⟨rfl, hsz, hP, hK, hD0⟩ := hv
  have hx := B.exec
  have hb := B.bytes
  have hr := B.returns
  have hts := atoms_spec (ws := wsX9_partsOfSort) B.pre
  have hown : s.vm.findClass RX9 = some m.cls := findClass_of_methodNamed B.named
  have hlocks := B.notSynchronized
  subst hsz
  have hD := hD0.self (sz := s.heap.size)
  obtain ⟨A, hAe⟩ : ∃ A, A = va_A ([]) s.heap.size := ⟨_, rfl⟩
  rw [← hAe] at hD ⊢
  have hA : ∀ q : Nat, s.heap.size ≤ q → A q := fun q h => by rw [hAe]; exact Or.inr h
  have hS : va_S A s.heap s.heap [] := va_S.rf
  have hl := lv_entry ([.int a1]) (n := 1) (Nat.le_of_ble_eq_true rfl)
  rw [lg_entry_eq]
  generalize (lg_sl ([.int a1]) ++ List.replicate (1 - (lg_sl ([.int a1])).length) Slot.unset).toArray = ls at hl ⊢
  have hl : lv_has ls 1 [(0, .int a1)] := hl
  obtain ⟨H, hH⟩ : ∃ H, H = s.heap := ⟨_, rfl⟩
  have hP : va_P D vwCl ([]) H := by rw [hH]; exact hP
  have hS : va_S A s.heap H [] := by rw [hH]; exact hS
  obtain ⟨QQ, hQ⟩ : ∃ Q9, Q9 = MQ below (va_Qi (fun (r : Int32) (_ : Unit) => r = R) (fun (_ : Unit) (t : State) => pw_post D ca [] s.heap.size [] t) A) ([.int a1] : List Value).toArray s 0 0 A := ⟨_, rfl⟩
  rw [← hQ]
  show W _ _ _ _ _ _ _ _ _ _ s.heap _ _ _ _ _
  rw [← hH]
  have hR : (if a1 = (0 : Int32) then (30 : Int32) else (if a1 = (1 : Int32) then (45 : Int32) else (6 : Int32))) = R := hR
  refine lv_iload_n hx hb dX9_partsOfSort_0 rfl (lv_at hl 0 rfl) ?_
  refine lv_if_ne (tgt := 9) hx hb dX9_partsOfSort_1 (by decide) (fun c_1 => ?_) (fun c_1 => ?_)
  · have hR := (if_neg c_1).symm.trans hR
    refine lv_iload_n hx hb dX9_partsOfSort_9 rfl (lv_at hl 0 rfl) ?_
    refine lv_iconst (v := (1 : Int32)) hx hb dX9_partsOfSort_10 (by decide) ?_
    refine lv_icmp_ne (tgt := 19) hx hb dX9_partsOfSort_11 (by decide) (fun c_2 => ?_) (fun c_2 => ?_)
    · have hR := (if_neg c_2).symm.trans hR
      refine lv_bipush (v := (6 : Int32)) hx hb dX9_partsOfSort_19 (by decide) ?_
      subst hR
      rw [hQ]
      exact W.iret (v := (6 : Int32)) hx hb hr (fun t ht hW => ⟨⟨(6 : Int32), (), rfl, rfl, ⟨by rw [ht]; exact hP, va_K.moved hW.alike hK, by rw [← hAe]; exact hD⟩⟩, hS.F ht⟩) hS.2.2 dX9_partsOfSort_21
    · have hR := (if_pos c_2).symm.trans hR
      refine lv_bipush (v := (45 : Int32)) hx hb dX9_partsOfSort_14 (by decide) ?_
      refine lv_goto (tgt := 21) hx hb dX9_partsOfSort_16 (by decide) ?_
      subst hR
      rw [hQ]
      exact W.iret (v := (45 : Int32)) hx hb hr (fun t ht hW => ⟨⟨(45 : Int32), (), rfl, rfl, ⟨by rw [ht]; exact hP, va_K.moved hW.alike hK, by rw [← hAe]; exact hD⟩⟩, hS.F ht⟩) hS.2.2 dX9_partsOfSort_21
  · have hR := (if_pos c_1).symm.trans hR
    refine lv_bipush (v := (30 : Int32)) hx hb dX9_partsOfSort_4 (by decide) ?_
    refine lv_goto (tgt := 21) hx hb dX9_partsOfSort_6 (by decide) ?_
    subst hR
    rw [hQ]
    exact W.iret (v := (30 : Int32)) hx hb hr (fun t ht hW => ⟨⟨(30 : Int32), (), rfl, rfl, ⟨by rw [ht]; exact hP, va_K.moved hW.alike hK, by rw [← hAe]; exact hD⟩⟩, hS.F ht⟩) hS.2.2 dX9_partsOfSort_21

def s_X9_partsOfHerd (σ : St) (a1 : Int32) : Int32 := ((σ 37 (a1.toNatClampNeg)) * (s_X9_partsOfSort (σ 36 (a1.toNatClampNeg))))
set_option maxHeartbeats 1000000 in
set_option maxRecDepth 100000 in
theorem k_X9_partsOfHerd (l : Launch) (D : va_G) (ca : Nat → ClassId) (h : Nat) (ad : Nat → Nat) (σ : St) (a1 : Int32) (sz : Nat) (hI : IR σ) (ha1 : vp_in a1 20) (R : Int32) (hR : s_X9_partsOfHerd σ a1 = R) : Met l yX9_partsOfHerd wsX9_partsOfHerd ({ frames := 1, cells := 0, slots := 0, locals := 20 }) (va_Pc [.ref h, .int a1] (pw_pre D ca (WM ca h ad σ) sz)) (va_Qi (fun (r : Int32) (_ : Unit) => r = R) (fun (_ : Unit) (t : State) => pw_post D ca (WM ca h ad σ) sz (WM ca h ad σ) t) (va_A (WM ca h ad σ) sz)) 0 0 (va_A (WM ca h ad σ) sz) := by
  refine Met.ofW (cc := cX9_partsOfHerd) (maxL := 2) (ret := (some .int)) (by decide) rfl ?_
  intro p e s m args below meth c s₁ B hml hv
  obtain ⟨rfl, hsz, hP, hK, hD0⟩ := hv
  have hx := B.exec
  have hb := B.bytes
  have hr := B.returns
  have hts := atoms_spec (ws := wsX9_partsOfHerd) B.pre
  have hown : s.vm.findClass RX9 = some m.cls := findClass_of_methodNamed B.named
  have hlocks := B.notSynchronized
  have hu9 : ∀ w ∈ u_ws RX9 TX9 51, w ∈ wsX9_partsOfHerd := fun w h => List.mem_cons_of_mem _ (uw9 w h)
  subst hsz
  have hD := hD0.self (sz := s.heap.size)
  obtain ⟨A, hAe⟩ : ∃ A, A = va_A (WM ca h ad σ) s.heap.size := ⟨_, rfl⟩
  rw [← hAe] at hD ⊢
  have hA : ∀ q : Nat, s.heap.size ≤ q → A q := fun q h => by rw [hAe]; exact Or.inr h
  have hS : va_S A s.heap s.heap [] := va_S.rf
  have hl := lv_entry ([.ref h, .int a1]) (n := 2) (Nat.le_of_ble_eq_true rfl)
  rw [lg_entry_eq]
  generalize (lg_sl ([.ref h, .int a1]) ++ List.replicate (2 - (lg_sl ([.ref h, .int a1])).length) Slot.unset).toArray = ls at hl ⊢
  have hl : lv_has ls 2 [(0, .ref h), (1, .int a1)] := hl
  obtain ⟨H, hH⟩ : ∃ H, H = s.heap := ⟨_, rfl⟩
  have hP : va_P D vwCl (WM ca h ad σ) H := by rw [hH]; exact hP
  have hS : va_S A s.heap H [] := by rw [hH]; exact hS
  obtain ⟨QQ, hQ⟩ : ∃ Q9, Q9 = MQ below (va_Qi (fun (r : Int32) (_ : Unit) => r = R) (fun (_ : Unit) (t : State) => pw_post D ca (WM ca h ad σ) s.heap.size (WM ca h ad σ) t) A) ([.ref h, .int a1] : List Value).toArray s 0 0 A := ⟨_, rfl⟩
  rw [← hQ]
  show W _ _ _ _ _ _ _ _ _ _ s.heap _ _ _ _ _
  rw [← hH]
  have hR : ((σ 37 (a1.toNatClampNeg)) * (s_X9_partsOfSort (σ 36 (a1.toNatClampNeg)))) = R := hR
  refine lv_aload_n hx hb dX9_partsOfHerd_0 rfl (lv_at hl 0 rfl) ?_
  refine va_get (D := D) (ci := 9) (v := .ref (ad 37)) (C := RX9) (T := TX9) (N := 51) hx hb hts hu9 hown hK hP 0 wm_0 rfl 37 (by decide) (hts (.fieldLink RX9 86 "GrazeBookModel" "hMany" "[I") (List.mem_cons_of_mem _ mw_820)) (fun _ h9 => h9) rfl dX9_partsOfHerd_1 ?_
  refine lv_iload_n hx hb dX9_partsOfHerd_4 rfl (lv_at hl 1 rfl) ?_
  refine va_iald_k (k := (a1.toNatClampNeg)) (v := (σ 37 (a1.toNatClampNeg))) hx hb hK hP 26 0 wm_a37 rfl rfl rfl ha1 dX9_partsOfHerd_5 ?_
  refine lv_aload_n hx hb dX9_partsOfHerd_6 rfl (lv_at hl 0 rfl) ?_
  refine va_get (D := D) (ci := 9) (v := .ref (ad 36)) (C := RX9) (T := TX9) (N := 51) hx hb hts hu9 hown hK hP 0 wm_0 rfl 36 (by decide) (hts (.fieldLink RX9 83 "GrazeBookModel" "hSort" "[I") (List.mem_cons_of_mem _ mw_819)) (fun _ h9 => h9) rfl dX9_partsOfHerd_7 ?_
  refine lv_iload_n hx hb dX9_partsOfHerd_10 rfl (lv_at hl 1 rfl) ?_
  refine va_iald_k (k := (a1.toNatClampNeg)) (v := (σ 36 (a1.toNatClampNeg))) hx hb hK hP 25 0 wm_a36 rfl rfl rfl ha1 dX9_partsOfHerd_11 ?_
  have hF := pw_free (pn_D (A := A)) hS hA
  refine va_calli (va_runS (As := [.int (σ 36 (a1.toNatClampNeg))]) (rest := [.int (σ 37 (a1.toNatClampNeg))]) ⟨hx, hb, hml, hown, hts⟩ (k_X9_partsOfSort l D ca (σ 36 (a1.toNatClampNeg)) H.size _ rfl) (va_cwS 1 hts gX9_partsOfHerd_X9_partsOfSort rfl rfl rfl (by decide +kernel) ⟨Nat.le_of_ble_eq_true rfl, Nat.le_of_ble_eq_true rfl⟩) ⟨pw_blind, pw_give pn_P hK (pn_D (A := A))⟩ rfl rfl hl.1 rfl (lv_room (Nat.le_of_ble_eq_true rfl)) dX9_partsOfHerd_12 ⟨Nat.le_of_ble_eq_true rfl, Nat.le_of_ble_eq_true rfl⟩) hS (fun q _ h => hF q h) hF (fun r_1 u t H1 locs ht hvm hw hB hz1 hk1 hS => ?_)
  subst hw
  have hP := pn_back hP hk1
  clear hB hk1 hz1 hF
  generalize H1 = H at hP hS ⊢
  refine lv_imul hx hb dX9_partsOfHerd_15 ?_
  subst hR
  rw [hQ]
  exact W.iret (v := ((σ 37 (a1.toNatClampNeg)) * (s_X9_partsOfSort (σ 36 (a1.toNatClampNeg))))) hx hb hr (fun t ht hW => ⟨⟨((σ 37 (a1.toNatClampNeg)) * (s_X9_partsOfSort (σ 36 (a1.toNatClampNeg)))), (), rfl, rfl, ⟨by rw [ht]; exact hP, va_K.moved hW.alike hK, by rw [← hAe]; exact hD⟩⟩, hS.F ht⟩) hS.2.2 dX9_partsOfHerd_16

def s_X9_isOut (σ : St) (a1 : Int32) : Int32 := (if (σ 41 (a1.toNatClampNeg)) = (0 : Int32) then (if (σ 38 (a1.toNatClampNeg)) < (0 : Int32) then (0 : Int32) else (1 : Int32)) else (0 : Int32))
set_option maxHeartbeats 1000000 in
set_option maxRecDepth 100000 in
theorem k_X9_isOut (l : Launch) (D : va_G) (ca : Nat → ClassId) (h : Nat) (ad : Nat → Nat) (σ : St) (a1 : Int32) (sz : Nat) (hI : IR σ) (ha1 : vp_in a1 20) (R : Int32) (hR : s_X9_isOut σ a1 = R) : Met l yX9_isOut wsX9_isOut ({ frames := 0, cells := 0, slots := 0, locals := 0 }) (va_Pc [.ref h, .int a1] (pw_pre D ca (WM ca h ad σ) sz)) (va_Qi (fun (r : Int32) (_ : Unit) => r = R) (fun (_ : Unit) (t : State) => pw_post D ca (WM ca h ad σ) sz (WM ca h ad σ) t) (va_A (WM ca h ad σ) sz)) 0 0 (va_A (WM ca h ad σ) sz) := by
  refine Met.ofW (cc := cX9_isOut) (maxL := 2) (ret := (some .boolean)) (by decide) rfl ?_
  intro p e s m args below meth c s₁ B hml hv
  obtain ⟨rfl, hsz, hP, hK, hD0⟩ := hv
  have hx := B.exec
  have hb := B.bytes
  have hr := B.returns
  have hts := atoms_spec (ws := wsX9_isOut) B.pre
  have hown : s.vm.findClass RX9 = some m.cls := findClass_of_methodNamed B.named
  have hlocks := B.notSynchronized
  have hu9 : ∀ w ∈ u_ws RX9 TX9 51, w ∈ wsX9_isOut := fun w h => List.mem_cons_of_mem _ (uw9 w h)
  subst hsz
  have hD := hD0.self (sz := s.heap.size)
  obtain ⟨A, hAe⟩ : ∃ A, A = va_A (WM ca h ad σ) s.heap.size := ⟨_, rfl⟩
  rw [← hAe] at hD ⊢
  have hA : ∀ q : Nat, s.heap.size ≤ q → A q := fun q h => by rw [hAe]; exact Or.inr h
  have hS : va_S A s.heap s.heap [] := va_S.rf
  have hl := lv_entry ([.ref h, .int a1]) (n := 2) (Nat.le_of_ble_eq_true rfl)
  rw [lg_entry_eq]
  generalize (lg_sl ([.ref h, .int a1]) ++ List.replicate (2 - (lg_sl ([.ref h, .int a1])).length) Slot.unset).toArray = ls at hl ⊢
  have hl : lv_has ls 2 [(0, .ref h), (1, .int a1)] := hl
  obtain ⟨H, hH⟩ : ∃ H, H = s.heap := ⟨_, rfl⟩
  have hP : va_P D vwCl (WM ca h ad σ) H := by rw [hH]; exact hP
  have hS : va_S A s.heap H [] := by rw [hH]; exact hS
  obtain ⟨QQ, hQ⟩ : ∃ Q9, Q9 = MQ below (va_Qi (fun (r : Int32) (_ : Unit) => r = R) (fun (_ : Unit) (t : State) => pw_post D ca (WM ca h ad σ) s.heap.size (WM ca h ad σ) t) A) ([.ref h, .int a1] : List Value).toArray s 0 0 A := ⟨_, rfl⟩
  rw [← hQ]
  show W _ _ _ _ _ _ _ _ _ _ s.heap _ _ _ _ _
  rw [← hH]
  have hR : (if (σ 41 (a1.toNatClampNeg)) = (0 : Int32) then (if (σ 38 (a1.toNatClampNeg)) < (0 : Int32) then (0 : Int32) else (1 : Int32)) else (0 : Int32)) = R := hR
  refine lv_aload_n hx hb dX9_isOut_0 rfl (lv_at hl 0 rfl) ?_
  refine va_get (D := D) (ci := 9) (v := .ref (ad 41)) (C := RX9) (T := TX9) (N := 51) hx hb hts hu9 hown hK hP 0 wm_0 rfl 41 (by decide) (hts (.fieldLink RX9 98 "GrazeBookModel" "hState" "[I") (List.mem_cons_of_mem _ mw_824)) (fun _ h9 => h9) rfl dX9_isOut_1 ?_
  refine lv_iload_n hx hb dX9_isOut_4 rfl (lv_at hl 1 rfl) ?_
  refine va_iald_k (k := (a1.toNatClampNeg)) (v := (σ 41 (a1.toNatClampNeg))) hx hb hK hP 30 0 wm_a41 rfl rfl rfl ha1 dX9_isOut_5 ?_
  refine lv_if_ne (tgt := 22) hx hb dX9_isOut_6 (by decide) (fun c_1 => ?_) (fun c_1 => ?_)
  · have hR := (if_neg c_1).symm.trans hR
    refine lv_iconst (v := (0 : Int32)) hx hb dX9_isOut_22 (by decide) ?_
    subst hR
    rw [hQ]
    exact W.zret (v := (0 : Int32)) hx hb hr rfl (fun t ht hW => ⟨⟨(0 : Int32), (), rfl, rfl, ⟨by rw [ht]; exact hP, va_K.moved hW.alike hK, by rw [← hAe]; exact hD⟩⟩, hS.F ht⟩) hS.2.2 dX9_isOut_23
  · have hR := (if_pos c_1).symm.trans hR
    refine lv_aload_n hx hb dX9_isOut_9 rfl (lv_at hl 0 rfl) ?_
    refine va_get (D := D) (ci := 9) (v := .ref (ad 38)) (C := RX9) (T := TX9) (N := 51) hx hb hts hu9 hown hK hP 0 wm_0 rfl 38 (by decide) (hts (.fieldLink RX9 89 "GrazeBookModel" "hPiece" "[I") (List.mem_cons_of_mem _ mw_821)) (fun _ h9 => h9) rfl dX9_isOut_10 ?_
    refine lv_iload_n hx hb dX9_isOut_13 rfl (lv_at hl 1 rfl) ?_
    refine va_iald_k (k := (a1.toNatClampNeg)) (v := (σ 38 (a1.toNatClampNeg))) hx hb hK hP 27 0 wm_a38 rfl rfl rfl ha1 dX9_isOut_14 ?_
    refine lv_if_lt (tgt := 22) hx hb dX9_isOut_15 (by decide) (fun c_2 => ?_) (fun c_2 => ?_)
    · have hR := (if_pos c_2).symm.trans hR
      refine lv_iconst (v := (0 : Int32)) hx hb dX9_isOut_22 (by decide) ?_
      subst hR
      rw [hQ]
      exact W.zret (v := (0 : Int32)) hx hb hr rfl (fun t ht hW => ⟨⟨(0 : Int32), (), rfl, rfl, ⟨by rw [ht]; exact hP, va_K.moved hW.alike hK, by rw [← hAe]; exact hD⟩⟩, hS.F ht⟩) hS.2.2 dX9_isOut_23
    · have hR := (if_neg c_2).symm.trans hR
      refine lv_iconst (v := (1 : Int32)) hx hb dX9_isOut_18 (by decide) ?_
      refine lv_goto (tgt := 23) hx hb dX9_isOut_19 (by decide) ?_
      subst hR
      rw [hQ]
      exact W.zret (v := (1 : Int32)) hx hb hr rfl (fun t ht hW => ⟨⟨(1 : Int32), (), rfl, rfl, ⟨by rw [ht]; exact hP, va_K.moved hW.alike hK, by rw [← hAe]; exact hD⟩⟩, hS.F ht⟩) hS.2.2 dX9_isOut_23

def s_X9_isInForce (σ : St) (a1 : Int32) : Int32 := (if (σ 33 (a1.toNatClampNeg)) = (0 : Int32) then (if (σ 1 0) < (σ 28 (a1.toNatClampNeg)) then (0 : Int32) else (if (σ 29 (a1.toNatClampNeg)) < (σ 1 0) then (0 : Int32) else (1 : Int32))) else (0 : Int32))
set_option maxHeartbeats 1000000 in
set_option maxRecDepth 100000 in
theorem k_X9_isInForce (l : Launch) (D : va_G) (ca : Nat → ClassId) (h : Nat) (ad : Nat → Nat) (σ : St) (a1 : Int32) (sz : Nat) (hI : IR σ) (ha1 : vp_in a1 60) (R : Int32) (hR : s_X9_isInForce σ a1 = R) : Met l yX9_isInForce wsX9_isInForce ({ frames := 0, cells := 0, slots := 0, locals := 0 }) (va_Pc [.ref h, .int a1] (pw_pre D ca (WM ca h ad σ) sz)) (va_Qi (fun (r : Int32) (_ : Unit) => r = R) (fun (_ : Unit) (t : State) => pw_post D ca (WM ca h ad σ) sz (WM ca h ad σ) t) (va_A (WM ca h ad σ) sz)) 0 0 (va_A (WM ca h ad σ) sz) := by
  refine Met.ofW (cc := cX9_isInForce) (maxL := 2) (ret := (some .boolean)) (by decide) rfl ?_
  intro p e s m args below meth c s₁ B hml hv
  obtain ⟨rfl, hsz, hP, hK, hD0⟩ := hv
  have hx := B.exec
  have hb := B.bytes
  have hr := B.returns
  have hts := atoms_spec (ws := wsX9_isInForce) B.pre
  have hown : s.vm.findClass RX9 = some m.cls := findClass_of_methodNamed B.named
  have hlocks := B.notSynchronized
  have hu9 : ∀ w ∈ u_ws RX9 TX9 51, w ∈ wsX9_isInForce := fun w h => List.mem_cons_of_mem _ (uw9 w h)
  subst hsz
  have hD := hD0.self (sz := s.heap.size)
  obtain ⟨A, hAe⟩ : ∃ A, A = va_A (WM ca h ad σ) s.heap.size := ⟨_, rfl⟩
  rw [← hAe] at hD ⊢
  have hA : ∀ q : Nat, s.heap.size ≤ q → A q := fun q h => by rw [hAe]; exact Or.inr h
  have hS : va_S A s.heap s.heap [] := va_S.rf
  have hl := lv_entry ([.ref h, .int a1]) (n := 2) (Nat.le_of_ble_eq_true rfl)
  rw [lg_entry_eq]
  generalize (lg_sl ([.ref h, .int a1]) ++ List.replicate (2 - (lg_sl ([.ref h, .int a1])).length) Slot.unset).toArray = ls at hl ⊢
  have hl : lv_has ls 2 [(0, .ref h), (1, .int a1)] := hl
  obtain ⟨H, hH⟩ : ∃ H, H = s.heap := ⟨_, rfl⟩
  have hP : va_P D vwCl (WM ca h ad σ) H := by rw [hH]; exact hP
  have hS : va_S A s.heap H [] := by rw [hH]; exact hS
  obtain ⟨QQ, hQ⟩ : ∃ Q9, Q9 = MQ below (va_Qi (fun (r : Int32) (_ : Unit) => r = R) (fun (_ : Unit) (t : State) => pw_post D ca (WM ca h ad σ) s.heap.size (WM ca h ad σ) t) A) ([.ref h, .int a1] : List Value).toArray s 0 0 A := ⟨_, rfl⟩
  rw [← hQ]
  show W _ _ _ _ _ _ _ _ _ _ s.heap _ _ _ _ _
  rw [← hH]
  have hR : (if (σ 33 (a1.toNatClampNeg)) = (0 : Int32) then (if (σ 1 0) < (σ 28 (a1.toNatClampNeg)) then (0 : Int32) else (if (σ 29 (a1.toNatClampNeg)) < (σ 1 0) then (0 : Int32) else (1 : Int32))) else (0 : Int32)) = R := hR
  refine lv_aload_n hx hb dX9_isInForce_0 rfl (lv_at hl 0 rfl) ?_
  refine va_get (D := D) (ci := 9) (v := .ref (ad 33)) (C := RX9) (T := TX9) (N := 51) hx hb hts hu9 hown hK hP 0 wm_0 rfl 33 (by decide) (hts (.fieldLink RX9 74 "GrazeBookModel" "rGone" "[Z") (List.mem_cons_of_mem _ mw_816)) (fun _ h9 => h9) rfl dX9_isInForce_1 ?_
  refine lv_iload_n hx hb dX9_isInForce_4 rfl (lv_at hl 1 rfl) ?_
  refine va_zald_k (k := (a1.toNatClampNeg)) (v := (σ 33 (a1.toNatClampNeg))) hx hb hK hP 22 1 wm_a33 rfl rfl rfl ha1 dX9_isInForce_5 ?_
  refine lv_if_ne (tgt := 39) hx hb dX9_isInForce_6 (by decide) (fun c_1 => ?_) (fun c_1 => ?_)
  · have hR := (if_neg c_1).symm.trans hR
    refine lv_iconst (v := (0 : Int32)) hx hb dX9_isInForce_39 (by decide) ?_
    subst hR
    rw [hQ]
    exact W.zret (v := (0 : Int32)) hx hb hr rfl (fun t ht hW => ⟨⟨(0 : Int32), (), rfl, rfl, ⟨by rw [ht]; exact hP, va_K.moved hW.alike hK, by rw [← hAe]; exact hD⟩⟩, hS.F ht⟩) hS.2.2 dX9_isInForce_40
  · have hR := (if_pos c_1).symm.trans hR
    refine lv_aload_n hx hb dX9_isInForce_9 rfl (lv_at hl 0 rfl) ?_
    refine va_get (D := D) (ci := 9) (v := .ref (ad 28)) (C := RX9) (T := TX9) (N := 51) hx hb hts hu9 hown hK hP 0 wm_0 rfl 28 (by decide) (hts (.fieldLink RX9 59 "GrazeBookModel" "rFrom" "[I") (List.mem_cons_of_mem _ mw_811)) (fun _ h9 => h9) rfl dX9_isInForce_10 ?_
    refine lv_iload_n hx hb dX9_isInForce_13 rfl (lv_at hl 1 rfl) ?_
    refine va_iald_k (k := (a1.toNatClampNeg)) (v := (σ 28 (a1.toNatClampNeg))) hx hb hK hP 17 0 wm_a28 rfl rfl rfl ha1 dX9_isInForce_14 ?_
    refine lv_aload_n hx hb dX9_isInForce_15 rfl (lv_at hl 0 rfl) ?_
    refine va_get (D := D) (ci := 9) (v := .int (σ 1 0)) (C := RX9) (T := TX9) (N := 51) hx hb hts hu9 hown hK hP 0 wm_0 rfl 1 (by decide) (hts (.fieldLink RX9 141 "GrazeBookModel" "day" "I") (List.mem_cons_of_mem _ mw_784)) (fun _ h9 => h9) rfl dX9_isInForce_16 ?_
    refine lv_icmp_gt (tgt := 39) hx hb dX9_isInForce_19 (by decide) (fun c_2 => ?_) (fun c_2 => ?_)
    · have hR := (if_pos c_2).symm.trans hR
      refine lv_iconst (v := (0 : Int32)) hx hb dX9_isInForce_39 (by decide) ?_
      subst hR
      rw [hQ]
      exact W.zret (v := (0 : Int32)) hx hb hr rfl (fun t ht hW => ⟨⟨(0 : Int32), (), rfl, rfl, ⟨by rw [ht]; exact hP, va_K.moved hW.alike hK, by rw [← hAe]; exact hD⟩⟩, hS.F ht⟩) hS.2.2 dX9_isInForce_40
    · have hR := (if_neg c_2).symm.trans hR
      refine lv_aload_n hx hb dX9_isInForce_22 rfl (lv_at hl 0 rfl) ?_
      refine va_get (D := D) (ci := 9) (v := .int (σ 1 0)) (C := RX9) (T := TX9) (N := 51) hx hb hts hu9 hown hK hP 0 wm_0 rfl 1 (by decide) (hts (.fieldLink RX9 141 "GrazeBookModel" "day" "I") (List.mem_cons_of_mem _ mw_784)) (fun _ h9 => h9) rfl dX9_isInForce_23 ?_
      refine lv_aload_n hx hb dX9_isInForce_26 rfl (lv_at hl 0 rfl) ?_
      refine va_get (D := D) (ci := 9) (v := .ref (ad 29)) (C := RX9) (T := TX9) (N := 51) hx hb hts hu9 hown hK hP 0 wm_0 rfl 29 (by decide) (hts (.fieldLink RX9 62 "GrazeBookModel" "rTo" "[I") (List.mem_cons_of_mem _ mw_812)) (fun _ h9 => h9) rfl dX9_isInForce_27 ?_
      refine lv_iload_n hx hb dX9_isInForce_30 rfl (lv_at hl 1 rfl) ?_
      refine va_iald_k (k := (a1.toNatClampNeg)) (v := (σ 29 (a1.toNatClampNeg))) hx hb hK hP 18 0 wm_a29 rfl rfl rfl ha1 dX9_isInForce_31 ?_
      refine lv_icmp_gt (tgt := 39) hx hb dX9_isInForce_32 (by decide) (fun c_3 => ?_) (fun c_3 => ?_)
      · have hR := (if_pos c_3).symm.trans hR
        refine lv_iconst (v := (0 : Int32)) hx hb dX9_isInForce_39 (by decide) ?_
        subst hR
        rw [hQ]
        exact W.zret (v := (0 : Int32)) hx hb hr rfl (fun t ht hW => ⟨⟨(0 : Int32), (), rfl, rfl, ⟨by rw [ht]; exact hP, va_K.moved hW.alike hK, by rw [← hAe]; exact hD⟩⟩, hS.F ht⟩) hS.2.2 dX9_isInForce_40
      · have hR := (if_neg c_3).symm.trans hR
        refine lv_iconst (v := (1 : Int32)) hx hb dX9_isInForce_35 (by decide) ?_
        refine lv_goto (tgt := 40) hx hb dX9_isInForce_36 (by decide) ?_
        subst hR
        rw [hQ]
        exact W.zret (v := (1 : Int32)) hx hb hr rfl (fun t ht hW => ⟨⟨(1 : Int32), (), rfl, rfl, ⟨by rw [ht]; exact hP, va_K.moved hW.alike hK, by rw [← hAe]; exact hD⟩⟩, hS.F ht⟩) hS.2.2 dX9_isInForce_40

def s_X9_rests (σ : St) (a1 : Int32) : Int32 := (if (σ 16 (a1.toNatClampNeg)) < (σ 1 0) then (0 : Int32) else (1 : Int32))
set_option maxHeartbeats 1000000 in
set_option maxRecDepth 100000 in
theorem k_X9_rests (l : Launch) (D : va_G) (ca : Nat → ClassId) (h : Nat) (ad : Nat → Nat) (σ : St) (a1 : Int32) (sz : Nat) (hI : IR σ) (ha1 : vp_in a1 6) (R : Int32) (hR : s_X9_rests σ a1 = R) : Met l yX9_rests wsX9_rests ({ frames := 0, cells := 0, slots := 0, locals := 0 }) (va_Pc [.ref h, .int a1] (pw_pre D ca (WM ca h ad σ) sz)) (va_Qi (fun (r : Int32) (_ : Unit) => r = R) (fun (_ : Unit) (t : State) => pw_post D ca (WM ca h ad σ) sz (WM ca h ad σ) t) (va_A (WM ca h ad σ) sz)) 0 0 (va_A (WM ca h ad σ) sz) := by
  refine Met.ofW (cc := cX9_rests) (maxL := 2) (ret := (some .boolean)) (by decide) rfl ?_
  intro p e s m args below meth c s₁ B hml hv
  obtain ⟨rfl, hsz, hP, hK, hD0⟩ := hv
  have hx := B.exec
  have hb := B.bytes
  have hr := B.returns
  have hts := atoms_spec (ws := wsX9_rests) B.pre
  have hown : s.vm.findClass RX9 = some m.cls := findClass_of_methodNamed B.named
  have hlocks := B.notSynchronized
  have hu9 : ∀ w ∈ u_ws RX9 TX9 51, w ∈ wsX9_rests := fun w h => List.mem_cons_of_mem _ (uw9 w h)
  subst hsz
  have hD := hD0.self (sz := s.heap.size)
  obtain ⟨A, hAe⟩ : ∃ A, A = va_A (WM ca h ad σ) s.heap.size := ⟨_, rfl⟩
  rw [← hAe] at hD ⊢
  have hA : ∀ q : Nat, s.heap.size ≤ q → A q := fun q h => by rw [hAe]; exact Or.inr h
  have hS : va_S A s.heap s.heap [] := va_S.rf
  have hl := lv_entry ([.ref h, .int a1]) (n := 2) (Nat.le_of_ble_eq_true rfl)
  rw [lg_entry_eq]
  generalize (lg_sl ([.ref h, .int a1]) ++ List.replicate (2 - (lg_sl ([.ref h, .int a1])).length) Slot.unset).toArray = ls at hl ⊢
  have hl : lv_has ls 2 [(0, .ref h), (1, .int a1)] := hl
  obtain ⟨H, hH⟩ : ∃ H, H = s.heap := ⟨_, rfl⟩
  have hP : va_P D vwCl (WM ca h ad σ) H := by rw [hH]; exact hP
  have hS : va_S A s.heap H [] := by rw [hH]; exact hS
  obtain ⟨QQ, hQ⟩ : ∃ Q9, Q9 = MQ below (va_Qi (fun (r : Int32) (_ : Unit) => r = R) (fun (_ : Unit) (t : State) => pw_post D ca (WM ca h ad σ) s.heap.size (WM ca h ad σ) t) A) ([.ref h, .int a1] : List Value).toArray s 0 0 A := ⟨_, rfl⟩
  rw [← hQ]
  show W _ _ _ _ _ _ _ _ _ _ s.heap _ _ _ _ _
  rw [← hH]
  have hR : (if (σ 16 (a1.toNatClampNeg)) < (σ 1 0) then (0 : Int32) else (1 : Int32)) = R := hR
  refine lv_aload_n hx hb dX9_rests_0 rfl (lv_at hl 0 rfl) ?_
  refine va_get (D := D) (ci := 9) (v := .int (σ 1 0)) (C := RX9) (T := TX9) (N := 51) hx hb hts hu9 hown hK hP 0 wm_0 rfl 1 (by decide) (hts (.fieldLink RX9 141 "GrazeBookModel" "day" "I") (List.mem_cons_of_mem _ mw_784)) (fun _ h9 => h9) rfl dX9_rests_1 ?_
  refine lv_aload_n hx hb dX9_rests_4 rfl (lv_at hl 0 rfl) ?_
  refine va_get (D := D) (ci := 9) (v := .ref (ad 16)) (C := RX9) (T := TX9) (N := 51) hx hb hts hu9 hown hK hP 0 wm_0 rfl 16 (by decide) (hts (.fieldLink RX9 22 "GrazeBookModel" "rest" "[I") (List.mem_cons_of_mem _ mw_799)) (fun _ h9 => h9) rfl dX9_rests_5 ?_
  refine lv_iload_n hx hb dX9_rests_8 rfl (lv_at hl 1 rfl) ?_
  refine va_iald_k (k := (a1.toNatClampNeg)) (v := (σ 16 (a1.toNatClampNeg))) hx hb hK hP 5 0 wm_a16 rfl rfl rfl ha1 dX9_rests_9 ?_
  refine lv_icmp_gt (tgt := 17) hx hb dX9_rests_10 (by decide) (fun c_1 => ?_) (fun c_1 => ?_)
  · have hR := (if_pos c_1).symm.trans hR
    refine lv_iconst (v := (0 : Int32)) hx hb dX9_rests_17 (by decide) ?_
    subst hR
    rw [hQ]
    exact W.zret (v := (0 : Int32)) hx hb hr rfl (fun t ht hW => ⟨⟨(0 : Int32), (), rfl, rfl, ⟨by rw [ht]; exact hP, va_K.moved hW.alike hK, by rw [← hAe]; exact hD⟩⟩, hS.F ht⟩) hS.2.2 dX9_rests_18
  · have hR := (if_neg c_1).symm.trans hR
    refine lv_iconst (v := (1 : Int32)) hx hb dX9_rests_13 (by decide) ?_
    refine lv_goto (tgt := 18) hx hb dX9_rests_14 (by decide) ?_
    subst hR
    rw [hQ]
    exact W.zret (v := (1 : Int32)) hx hb hr rfl (fun t ht hW => ⟨⟨(1 : Int32), (), rfl, rfl, ⟨by rw [ht]; exact hP, va_K.moved hW.alike hK, by rw [← hAe]; exact hD⟩⟩, hS.F ht⟩) hS.2.2 dX9_rests_18

def s_X9_feeOf (σ : St) (a1 : Int32) : Int32 := (if (σ 41 (a1.toNatClampNeg)) = (1 : Int32) then ((((σ 1 0) - (σ 42 (a1.toNatClampNeg))) + (1 : Int32)) * (σ 37 (a1.toNatClampNeg))) else (0 : Int32))
set_option maxHeartbeats 1000000 in
set_option maxRecDepth 100000 in
theorem k_X9_feeOf (l : Launch) (D : va_G) (ca : Nat → ClassId) (h : Nat) (ad : Nat → Nat) (σ : St) (a1 : Int32) (sz : Nat) (hI : IR σ) (ha1 : vp_in a1 20) (R : Int32) (hR : s_X9_feeOf σ a1 = R) : Met l yX9_feeOf wsX9_feeOf ({ frames := 0, cells := 0, slots := 0, locals := 0 }) (va_Pc [.ref h, .int a1] (pw_pre D ca (WM ca h ad σ) sz)) (va_Qi (fun (r : Int32) (_ : Unit) => r = R) (fun (_ : Unit) (t : State) => pw_post D ca (WM ca h ad σ) sz (WM ca h ad σ) t) (va_A (WM ca h ad σ) sz)) 0 0 (va_A (WM ca h ad σ) sz) := by
  refine Met.ofW (cc := cX9_feeOf) (maxL := 2) (ret := (some .int)) (by decide) rfl ?_
  intro p e s m args below meth c s₁ B hml hv
  obtain ⟨rfl, hsz, hP, hK, hD0⟩ := hv
  have hx := B.exec
  have hb := B.bytes
  have hr := B.returns
  have hts := atoms_spec (ws := wsX9_feeOf) B.pre
  have hown : s.vm.findClass RX9 = some m.cls := findClass_of_methodNamed B.named
  have hlocks := B.notSynchronized
  have hu9 : ∀ w ∈ u_ws RX9 TX9 51, w ∈ wsX9_feeOf := fun w h => List.mem_cons_of_mem _ (uw9 w h)
  subst hsz
  have hD := hD0.self (sz := s.heap.size)
  obtain ⟨A, hAe⟩ : ∃ A, A = va_A (WM ca h ad σ) s.heap.size := ⟨_, rfl⟩
  rw [← hAe] at hD ⊢
  have hA : ∀ q : Nat, s.heap.size ≤ q → A q := fun q h => by rw [hAe]; exact Or.inr h
  have hS : va_S A s.heap s.heap [] := va_S.rf
  have hl := lv_entry ([.ref h, .int a1]) (n := 2) (Nat.le_of_ble_eq_true rfl)
  rw [lg_entry_eq]
  generalize (lg_sl ([.ref h, .int a1]) ++ List.replicate (2 - (lg_sl ([.ref h, .int a1])).length) Slot.unset).toArray = ls at hl ⊢
  have hl : lv_has ls 2 [(0, .ref h), (1, .int a1)] := hl
  obtain ⟨H, hH⟩ : ∃ H, H = s.heap := ⟨_, rfl⟩
  have hP : va_P D vwCl (WM ca h ad σ) H := by rw [hH]; exact hP
  have hS : va_S A s.heap H [] := by rw [hH]; exact hS
  obtain ⟨QQ, hQ⟩ : ∃ Q9, Q9 = MQ below (va_Qi (fun (r : Int32) (_ : Unit) => r = R) (fun (_ : Unit) (t : State) => pw_post D ca (WM ca h ad σ) s.heap.size (WM ca h ad σ) t) A) ([.ref h, .int a1] : List Value).toArray s 0 0 A := ⟨_, rfl⟩
  rw [← hQ]
  show W _ _ _ _ _ _ _ _ _ _ s.heap _ _ _ _ _
  rw [← hH]
  have hR : (if (σ 41 (a1.toNatClampNeg)) = (1 : Int32) then ((((σ 1 0) - (σ 42 (a1.toNatClampNeg))) + (1 : Int32)) * (σ 37 (a1.toNatClampNeg))) else (0 : Int32)) = R := hR
  refine lv_aload_n hx hb dX9_feeOf_0 rfl (lv_at hl 0 rfl) ?_
  refine va_get (D := D) (ci := 9) (v := .ref (ad 41)) (C := RX9) (T := TX9) (N := 51) hx hb hts hu9 hown hK hP 0 wm_0 rfl 41 (by decide) (hts (.fieldLink RX9 98 "GrazeBookModel" "hState" "[I") (List.mem_cons_of_mem _ mw_824)) (fun _ h9 => h9) rfl dX9_feeOf_1 ?_
  refine lv_iload_n hx hb dX9_feeOf_4 rfl (lv_at hl 1 rfl) ?_
  refine va_iald_k (k := (a1.toNatClampNeg)) (v := (σ 41 (a1.toNatClampNeg))) hx hb hK hP 30 0 wm_a41 rfl rfl rfl ha1 dX9_feeOf_5 ?_
  refine lv_iconst (v := (1 : Int32)) hx hb dX9_feeOf_6 (by decide) ?_
  refine lv_icmp_ne (tgt := 33) hx hb dX9_feeOf_7 (by decide) (fun c_1 => ?_) (fun c_1 => ?_)
  · have hR := (if_neg c_1).symm.trans hR
    refine lv_iconst (v := (0 : Int32)) hx hb dX9_feeOf_33 (by decide) ?_
    subst hR
    rw [hQ]
    exact W.iret (v := (0 : Int32)) hx hb hr (fun t ht hW => ⟨⟨(0 : Int32), (), rfl, rfl, ⟨by rw [ht]; exact hP, va_K.moved hW.alike hK, by rw [← hAe]; exact hD⟩⟩, hS.F ht⟩) hS.2.2 dX9_feeOf_34
  · have hR := (if_pos c_1).symm.trans hR
    refine lv_aload_n hx hb dX9_feeOf_10 rfl (lv_at hl 0 rfl) ?_
    refine va_get (D := D) (ci := 9) (v := .int (σ 1 0)) (C := RX9) (T := TX9) (N := 51) hx hb hts hu9 hown hK hP 0 wm_0 rfl 1 (by decide) (hts (.fieldLink RX9 141 "GrazeBookModel" "day" "I") (List.mem_cons_of_mem _ mw_784)) (fun _ h9 => h9) rfl dX9_feeOf_11 ?_
    refine lv_aload_n hx hb dX9_feeOf_14 rfl (lv_at hl 0 rfl) ?_
    refine va_get (D := D) (ci := 9) (v := .ref (ad 42)) (C := RX9) (T := TX9) (N := 51) hx hb hts hu9 hown hK hP 0 wm_0 rfl 42 (by decide) (hts (.fieldLink RX9 101 "GrazeBookModel" "hSince" "[I") (List.mem_cons_of_mem _ mw_825)) (fun _ h9 => h9) rfl dX9_feeOf_15 ?_
    refine lv_iload_n hx hb dX9_feeOf_18 rfl (lv_at hl 1 rfl) ?_
    refine va_iald_k (k := (a1.toNatClampNeg)) (v := (σ 42 (a1.toNatClampNeg))) hx hb hK hP 31 0 wm_a42 rfl rfl rfl ha1 dX9_feeOf_19 ?_
    refine lv_isub hx hb dX9_feeOf_20 ?_
    refine lv_iconst (v := (1 : Int32)) hx hb dX9_feeOf_21 (by decide) ?_
    refine lv_iadd hx hb dX9_feeOf_22 ?_
    refine lv_aload_n hx hb dX9_feeOf_23 rfl (lv_at hl 0 rfl) ?_
    refine va_get (D := D) (ci := 9) (v := .ref (ad 37)) (C := RX9) (T := TX9) (N := 51) hx hb hts hu9 hown hK hP 0 wm_0 rfl 37 (by decide) (hts (.fieldLink RX9 86 "GrazeBookModel" "hMany" "[I") (List.mem_cons_of_mem _ mw_820)) (fun _ h9 => h9) rfl dX9_feeOf_24 ?_
    refine lv_iload_n hx hb dX9_feeOf_27 rfl (lv_at hl 1 rfl) ?_
    refine va_iald_k (k := (a1.toNatClampNeg)) (v := (σ 37 (a1.toNatClampNeg))) hx hb hK hP 26 0 wm_a37 rfl rfl rfl ha1 dX9_feeOf_28 ?_
    refine lv_imul hx hb dX9_feeOf_29 ?_
    refine lv_goto (tgt := 34) hx hb dX9_feeOf_30 (by decide) ?_
    subst hR
    rw [hQ]
    exact W.iret (v := ((((σ 1 0) - (σ 42 (a1.toNatClampNeg))) + (1 : Int32)) * (σ 37 (a1.toNatClampNeg)))) hx hb hr (fun t ht hW => ⟨⟨((((σ 1 0) - (σ 42 (a1.toNatClampNeg))) + (1 : Int32)) * (σ 37 (a1.toNatClampNeg))), (), rfl, rfl, ⟨by rw [ht]; exact hP, va_K.moved hW.alike hK, by rw [← hAe]; exact hD⟩⟩, hS.F ht⟩) hS.2.2 dX9_feeOf_34

def s_X9_mayTake (σ : St) (a1 : Int32) (a2 : Int32) (a3 : Int32) : Int32 := (if (((σ 1 0) + (1 : Int32)) + (a1 * a3)) ≤ (σ 16 (a2.toNatClampNeg)) then (0 : Int32) else (1 : Int32))
set_option maxHeartbeats 1000000 in
set_option maxRecDepth 100000 in
theorem k_X9_mayTake (l : Launch) (D : va_G) (ca : Nat → ClassId) (h : Nat) (ad : Nat → Nat) (σ : St) (a1 : Int32) (a2 : Int32) (a3 : Int32) (sz : Nat) (hI : IR σ) (ha2 : vp_in a2 6) (R : Int32) (hR : s_X9_mayTake σ a1 a2 a3 = R) : Met l yX9_mayTake wsX9_mayTake ({ frames := 0, cells := 0, slots := 0, locals := 0 }) (va_Pc [.ref h, .int a1, .int a2, .int a3] (pw_pre D ca (WM ca h ad σ) sz)) (va_Qi (fun (r : Int32) (_ : Unit) => r = R) (fun (_ : Unit) (t : State) => pw_post D ca (WM ca h ad σ) sz (WM ca h ad σ) t) (va_A (WM ca h ad σ) sz)) 0 0 (va_A (WM ca h ad σ) sz) := by
  refine Met.ofW (cc := cX9_mayTake) (maxL := 4) (ret := (some .boolean)) (by decide) rfl ?_
  intro p e s m args below meth c s₁ B hml hv
  obtain ⟨rfl, hsz, hP, hK, hD0⟩ := hv
  have hx := B.exec
  have hb := B.bytes
  have hr := B.returns
  have hts := atoms_spec (ws := wsX9_mayTake) B.pre
  have hown : s.vm.findClass RX9 = some m.cls := findClass_of_methodNamed B.named
  have hlocks := B.notSynchronized
  have hu9 : ∀ w ∈ u_ws RX9 TX9 51, w ∈ wsX9_mayTake := fun w h => List.mem_cons_of_mem _ (uw9 w h)
  subst hsz
  have hD := hD0.self (sz := s.heap.size)
  obtain ⟨A, hAe⟩ : ∃ A, A = va_A (WM ca h ad σ) s.heap.size := ⟨_, rfl⟩
  rw [← hAe] at hD ⊢
  have hA : ∀ q : Nat, s.heap.size ≤ q → A q := fun q h => by rw [hAe]; exact Or.inr h
  have hS : va_S A s.heap s.heap [] := va_S.rf
  have hl := lv_entry ([.ref h, .int a1, .int a2, .int a3]) (n := 4) (Nat.le_of_ble_eq_true rfl)
  rw [lg_entry_eq]
  generalize (lg_sl ([.ref h, .int a1, .int a2, .int a3]) ++ List.replicate (4 - (lg_sl ([.ref h, .int a1, .int a2, .int a3])).length) Slot.unset).toArray = ls at hl ⊢
  have hl : lv_has ls 4 [(0, .ref h), (1, .int a1), (2, .int a2), (3, .int a3)] := hl
  obtain ⟨H, hH⟩ : ∃ H, H = s.heap := ⟨_, rfl⟩
  have hP : va_P D vwCl (WM ca h ad σ) H := by rw [hH]; exact hP
  have hS : va_S A s.heap H [] := by rw [hH]; exact hS
  obtain ⟨QQ, hQ⟩ : ∃ Q9, Q9 = MQ below (va_Qi (fun (r : Int32) (_ : Unit) => r = R) (fun (_ : Unit) (t : State) => pw_post D ca (WM ca h ad σ) s.heap.size (WM ca h ad σ) t) A) ([.ref h, .int a1, .int a2, .int a3] : List Value).toArray s 0 0 A := ⟨_, rfl⟩
  rw [← hQ]
  show W _ _ _ _ _ _ _ _ _ _ s.heap _ _ _ _ _
  rw [← hH]
  have hR : (if (((σ 1 0) + (1 : Int32)) + (a1 * a3)) ≤ (σ 16 (a2.toNatClampNeg)) then (0 : Int32) else (1 : Int32)) = R := hR
  refine lv_aload_n hx hb dX9_mayTake_0 rfl (lv_at hl 0 rfl) ?_
  refine va_get (D := D) (ci := 9) (v := .int (σ 1 0)) (C := RX9) (T := TX9) (N := 51) hx hb hts hu9 hown hK hP 0 wm_0 rfl 1 (by decide) (hts (.fieldLink RX9 141 "GrazeBookModel" "day" "I") (List.mem_cons_of_mem _ mw_784)) (fun _ h9 => h9) rfl dX9_mayTake_1 ?_
  refine lv_iconst (v := (1 : Int32)) hx hb dX9_mayTake_4 (by decide) ?_
  refine lv_iadd hx hb dX9_mayTake_5 ?_
  refine lv_iload_n hx hb dX9_mayTake_6 rfl (lv_at hl 1 rfl) ?_
  refine lv_iload_n hx hb dX9_mayTake_7 rfl (lv_at hl 3 rfl) ?_
  refine lv_imul hx hb dX9_mayTake_8 ?_
  refine lv_iadd hx hb dX9_mayTake_9 ?_
  refine lv_aload_n hx hb dX9_mayTake_10 rfl (lv_at hl 0 rfl) ?_
  refine va_get (D := D) (ci := 9) (v := .ref (ad 16)) (C := RX9) (T := TX9) (N := 51) hx hb hts hu9 hown hK hP 0 wm_0 rfl 16 (by decide) (hts (.fieldLink RX9 22 "GrazeBookModel" "rest" "[I") (List.mem_cons_of_mem _ mw_799)) (fun _ h9 => h9) rfl dX9_mayTake_11 ?_
  refine lv_iload_n hx hb dX9_mayTake_14 rfl (lv_at hl 2 rfl) ?_
  refine va_iald_k (k := (a2.toNatClampNeg)) (v := (σ 16 (a2.toNatClampNeg))) hx hb hK hP 5 0 wm_a16 rfl rfl rfl ha2 dX9_mayTake_15 ?_
  refine lv_icmp_le (tgt := 23) hx hb dX9_mayTake_16 (by decide) (fun c_1 => ?_) (fun c_1 => ?_)
  · have hR := (if_pos c_1).symm.trans hR
    refine lv_iconst (v := (0 : Int32)) hx hb dX9_mayTake_23 (by decide) ?_
    subst hR
    rw [hQ]
    exact W.zret (v := (0 : Int32)) hx hb hr rfl (fun t ht hW => ⟨⟨(0 : Int32), (), rfl, rfl, ⟨by rw [ht]; exact hP, va_K.moved hW.alike hK, by rw [← hAe]; exact hD⟩⟩, hS.F ht⟩) hS.2.2 dX9_mayTake_24
  · have hR := (if_neg c_1).symm.trans hR
    refine lv_iconst (v := (1 : Int32)) hx hb dX9_mayTake_19 (by decide) ?_
    refine lv_goto (tgt := 24) hx hb dX9_mayTake_20 (by decide) ?_
    subst hR
    rw [hQ]
    exact W.zret (v := (1 : Int32)) hx hb hr rfl (fun t ht hW => ⟨⟨(1 : Int32), (), rfl, rfl, ⟨by rw [ht]; exact hP, va_K.moved hW.alike hK, by rw [← hAe]; exact hD⟩⟩, hS.F ht⟩) hS.2.2 dX9_mayTake_24

def s_X9_ownerOfRight (σ : St) (a1 : Int32) : Int32 := (if (σ 25 (a1.toNatClampNeg)) = (1 : Int32) then (σ 21 ((σ 26 (a1.toNatClampNeg)).toNatClampNeg)) else (σ 26 (a1.toNatClampNeg)))
set_option maxHeartbeats 1000000 in
set_option maxRecDepth 100000 in
theorem k_X9_ownerOfRight (l : Launch) (D : va_G) (ca : Nat → ClassId) (h : Nat) (ad : Nat → Nat) (σ : St) (a1 : Int32) (sz : Nat) (hI : IR σ) (ha1 : vp_in a1 60) (R : Int32) (hR : s_X9_ownerOfRight σ a1 = R) : Met l yX9_ownerOfRight wsX9_ownerOfRight ({ frames := 0, cells := 0, slots := 0, locals := 0 }) (va_Pc [.ref h, .int a1] (pw_pre D ca (WM ca h ad σ) sz)) (va_Qi (fun (r : Int32) (_ : Unit) => r = R) (fun (_ : Unit) (t : State) => pw_post D ca (WM ca h ad σ) sz (WM ca h ad σ) t) (va_A (WM ca h ad σ) sz)) 0 0 (va_A (WM ca h ad σ) sz) := by
  refine Met.ofW (cc := cX9_ownerOfRight) (maxL := 2) (ret := (some .int)) (by decide) rfl ?_
  intro p e s m args below meth c s₁ B hml hv
  obtain ⟨rfl, hsz, hP, hK, hD0⟩ := hv
  have hx := B.exec
  have hb := B.bytes
  have hr := B.returns
  have hts := atoms_spec (ws := wsX9_ownerOfRight) B.pre
  have hown : s.vm.findClass RX9 = some m.cls := findClass_of_methodNamed B.named
  have hlocks := B.notSynchronized
  have hu9 : ∀ w ∈ u_ws RX9 TX9 51, w ∈ wsX9_ownerOfRight := fun w h => List.mem_cons_of_mem _ (uw9 w h)
  subst hsz
  have hD := hD0.self (sz := s.heap.size)
  obtain ⟨A, hAe⟩ : ∃ A, A = va_A (WM ca h ad σ) s.heap.size := ⟨_, rfl⟩
  rw [← hAe] at hD ⊢
  have hA : ∀ q : Nat, s.heap.size ≤ q → A q := fun q h => by rw [hAe]; exact Or.inr h
  have hS : va_S A s.heap s.heap [] := va_S.rf
  have hl := lv_entry ([.ref h, .int a1]) (n := 2) (Nat.le_of_ble_eq_true rfl)
  rw [lg_entry_eq]
  generalize (lg_sl ([.ref h, .int a1]) ++ List.replicate (2 - (lg_sl ([.ref h, .int a1])).length) Slot.unset).toArray = ls at hl ⊢
  have hl : lv_has ls 2 [(0, .ref h), (1, .int a1)] := hl
  obtain ⟨H, hH⟩ : ∃ H, H = s.heap := ⟨_, rfl⟩
  have hP : va_P D vwCl (WM ca h ad σ) H := by rw [hH]; exact hP
  have hS : va_S A s.heap H [] := by rw [hH]; exact hS
  obtain ⟨QQ, hQ⟩ : ∃ Q9, Q9 = MQ below (va_Qi (fun (r : Int32) (_ : Unit) => r = R) (fun (_ : Unit) (t : State) => pw_post D ca (WM ca h ad σ) s.heap.size (WM ca h ad σ) t) A) ([.ref h, .int a1] : List Value).toArray s 0 0 A := ⟨_, rfl⟩
  rw [← hQ]
  show W _ _ _ _ _ _ _ _ _ _ s.heap _ _ _ _ _
  rw [← hH]
  have hR : (if (σ 25 (a1.toNatClampNeg)) = (1 : Int32) then (σ 21 ((σ 26 (a1.toNatClampNeg)).toNatClampNeg)) else (σ 26 (a1.toNatClampNeg))) = R := hR
  refine lv_aload_n hx hb dX9_ownerOfRight_0 rfl (lv_at hl 0 rfl) ?_
  refine va_get (D := D) (ci := 9) (v := .ref (ad 25)) (C := RX9) (T := TX9) (N := 51) hx hb hts hu9 hown hK hP 0 wm_0 rfl 25 (by decide) (hts (.fieldLink RX9 50 "GrazeBookModel" "rKind" "[I") (List.mem_cons_of_mem _ mw_808)) (fun _ h9 => h9) rfl dX9_ownerOfRight_1 ?_
  refine lv_iload_n hx hb dX9_ownerOfRight_4 rfl (lv_at hl 1 rfl) ?_
  refine va_iald_k (k := (a1.toNatClampNeg)) (v := (σ 25 (a1.toNatClampNeg))) hx hb hK hP 14 0 wm_a25 rfl rfl rfl ha1 dX9_ownerOfRight_5 ?_
  refine lv_iconst (v := (1 : Int32)) hx hb dX9_ownerOfRight_6 (by decide) ?_
  refine lv_icmp_ne (tgt := 24) hx hb dX9_ownerOfRight_7 (by decide) (fun c_1 => ?_) (fun c_1 => ?_)
  · have hR := (if_neg c_1).symm.trans hR
    refine lv_aload_n hx hb dX9_ownerOfRight_24 rfl (lv_at hl 0 rfl) ?_
    refine va_get (D := D) (ci := 9) (v := .ref (ad 26)) (C := RX9) (T := TX9) (N := 51) hx hb hts hu9 hown hK hP 0 wm_0 rfl 26 (by decide) (hts (.fieldLink RX9 53 "GrazeBookModel" "rWho" "[I") (List.mem_cons_of_mem _ mw_809)) (fun _ h9 => h9) rfl dX9_ownerOfRight_25 ?_
    refine lv_iload_n hx hb dX9_ownerOfRight_28 rfl (lv_at hl 1 rfl) ?_
    refine va_iald_k (k := (a1.toNatClampNeg)) (v := (σ 26 (a1.toNatClampNeg))) hx hb hK hP 15 0 wm_a26 rfl rfl rfl ha1 dX9_ownerOfRight_29 ?_
    subst hR
    rw [hQ]
    exact W.iret (v := (σ 26 (a1.toNatClampNeg))) hx hb hr (fun t ht hW => ⟨⟨(σ 26 (a1.toNatClampNeg)), (), rfl, rfl, ⟨by rw [ht]; exact hP, va_K.moved hW.alike hK, by rw [← hAe]; exact hD⟩⟩, hS.F ht⟩) hS.2.2 dX9_ownerOfRight_30
  · have hR := (if_pos c_1).symm.trans hR
    refine lv_aload_n hx hb dX9_ownerOfRight_10 rfl (lv_at hl 0 rfl) ?_
    refine va_get (D := D) (ci := 9) (v := .ref (ad 21)) (C := RX9) (T := TX9) (N := 51) hx hb hts hu9 hown hK hP 0 wm_0 rfl 21 (by decide) (hts (.fieldLink RX9 38 "GrazeBookModel" "houseOf" "[I") (List.mem_cons_of_mem _ mw_804)) (fun _ h9 => h9) rfl dX9_ownerOfRight_11 ?_
    refine lv_aload_n hx hb dX9_ownerOfRight_14 rfl (lv_at hl 0 rfl) ?_
    refine va_get (D := D) (ci := 9) (v := .ref (ad 26)) (C := RX9) (T := TX9) (N := 51) hx hb hts hu9 hown hK hP 0 wm_0 rfl 26 (by decide) (hts (.fieldLink RX9 53 "GrazeBookModel" "rWho" "[I") (List.mem_cons_of_mem _ mw_809)) (fun _ h9 => h9) rfl dX9_ownerOfRight_15 ?_
    refine lv_iload_n hx hb dX9_ownerOfRight_18 rfl (lv_at hl 1 rfl) ?_
    refine va_iald_k (k := (a1.toNatClampNeg)) (v := (σ 26 (a1.toNatClampNeg))) hx hb hK hP 15 0 wm_a26 rfl rfl rfl ha1 dX9_ownerOfRight_19 ?_
    refine va_iald_k (k := ((σ 26 (a1.toNatClampNeg)).toNatClampNeg)) (v := (σ 21 ((σ 26 (a1.toNatClampNeg)).toNatClampNeg))) hx hb hK hP 10 0 wm_a21 rfl rfl rfl (vp_in_iff.mpr (ir_26 hI c_1)) dX9_ownerOfRight_20 ?_
    refine lv_goto (tgt := 30) hx hb dX9_ownerOfRight_21 (by decide) ?_
    subst hR
    rw [hQ]
    exact W.iret (v := (σ 21 ((σ 26 (a1.toNatClampNeg)).toNatClampNeg))) hx hb hr (fun t ht hW => ⟨⟨(σ 21 ((σ 26 (a1.toNatClampNeg)).toNatClampNeg)), (), rfl, rfl, ⟨by rw [ht]; exact hP, va_K.moved hW.alike hK, by rw [← hAe]; exact hD⟩⟩, hS.F ht⟩) hS.2.2 dX9_ownerOfRight_30

def s_X9_partsOf_c19  : Int32 → Int32 := fun x9 => match x9 with
  | v2_3 => v2_3
def s_X9_partsOf_l19 (σ : St) (a1 : Int32) (k_3 : Nat) : Int32 → Int32 := fun x9 => match x9 with
  | v2_3 => (if (σ 31 k_3) = a1 then (if (s_X9_isInForce σ (nI k_3)) = (0 : Int32) then (v2_3 - (0 : Int32)) else (v2_3 - (σ 27 k_3))) else (v2_3 - (0 : Int32)))
def s_X9_partsOf (σ : St) (a1 : Int32) : Int32 := (if (s_X9_isInForce σ a1) = (0 : Int32) then (0 : Int32) else (s_X9_partsOf_c19 (iter (s_X9_partsOf_l19 σ a1) ((σ 5 0).toNatClampNeg - 0) 0 (σ 27 (a1.toNatClampNeg)))))
set_option maxHeartbeats 1000000 in
set_option maxRecDepth 100000 in
theorem k_X9_partsOf (l : Launch) (D : va_G) (ca : Nat → ClassId) (h : Nat) (ad : Nat → Nat) (σ : St) (a1 : Int32) (sz : Nat) (hI : IR σ) (ha1 : vp_in a1 60) (R : Int32) (hR : s_X9_partsOf σ a1 = R) : Met l yX9_partsOf wsX9_partsOf ({ frames := 1, cells := 0, slots := 0, locals := 21 }) (va_Pc [.ref h, .int a1] (pw_pre D ca (WM ca h ad σ) sz)) (va_Qi (fun (r : Int32) (_ : Unit) => r = R) (fun (_ : Unit) (t : State) => pw_post D ca (WM ca h ad σ) sz (WM ca h ad σ) t) (va_A (WM ca h ad σ) sz)) 0 0 (va_A (WM ca h ad σ) sz) := by
  refine Met.ofW (cc := cX9_partsOf) (maxL := 4) (ret := (some .int)) (by decide) rfl ?_
  intro p e s m args below meth c s₁ B hml hv
  obtain ⟨rfl, hsz, hP, hK, hD0⟩ := hv
  have hx := B.exec
  have hb := B.bytes
  have hr := B.returns
  have hts := atoms_spec (ws := wsX9_partsOf) B.pre
  have hown : s.vm.findClass RX9 = some m.cls := findClass_of_methodNamed B.named
  have hlocks := B.notSynchronized
  have hu9 : ∀ w ∈ u_ws RX9 TX9 51, w ∈ wsX9_partsOf := fun w h => List.mem_cons_of_mem _ (uw9 w h)
  subst hsz
  have hD := hD0.self (sz := s.heap.size)
  obtain ⟨A, hAe⟩ : ∃ A, A = va_A (WM ca h ad σ) s.heap.size := ⟨_, rfl⟩
  rw [← hAe] at hD ⊢
  have hA : ∀ q : Nat, s.heap.size ≤ q → A q := fun q h => by rw [hAe]; exact Or.inr h
  have hS : va_S A s.heap s.heap [] := va_S.rf
  have hl := lv_entry ([.ref h, .int a1]) (n := 4) (Nat.le_of_ble_eq_true rfl)
  rw [lg_entry_eq]
  generalize (lg_sl ([.ref h, .int a1]) ++ List.replicate (4 - (lg_sl ([.ref h, .int a1])).length) Slot.unset).toArray = ls at hl ⊢
  have hl : lv_has ls 4 [(0, .ref h), (1, .int a1)] := hl
  obtain ⟨H, hH⟩ : ∃ H, H = s.heap := ⟨_, rfl⟩
  have hP : va_P D vwCl (WM ca h ad σ) H := by rw [hH]; exact hP
  have hS : va_S A s.heap H [] := by rw [hH]; exact hS
  obtain ⟨QQ, hQ⟩ : ∃ Q9, Q9 = MQ below (va_Qi (fun (r : Int32) (_ : Unit) => r = R) (fun (_ : Unit) (t : State) => pw_post D ca (WM ca h ad σ) s.heap.size (WM ca h ad σ) t) A) ([.ref h, .int a1] : List Value).toArray s 0 0 A := ⟨_, rfl⟩
  rw [← hQ]
  show W _ _ _ _ _ _ _ _ _ _ s.heap _ _ _ _ _
  rw [← hH]
  have hR : (if (s_X9_isInForce σ a1) = (0 : Int32) then (0 : Int32) else (s_X9_partsOf_c19 (iter (s_X9_partsOf_l19 σ a1) ((σ 5 0).toNatClampNeg - 0) 0 (σ 27 (a1.toNatClampNeg))))) = R := hR
  refine lv_aload_n hx hb dX9_partsOf_0 rfl (lv_at hl 0 rfl) ?_
  refine lv_iload_n hx hb dX9_partsOf_1 rfl (lv_at hl 1 rfl) ?_
  have hF := pw_free hD hS hA
  refine va_calli (va_runV (As := [.int a1]) (rest := []) ⟨hx, hb, hml, hown, hts⟩ (k_X9_isInForce l D ca h ad σ a1 H.size hI ha1 _ rfl) (cwV 1 hts gX9_partsOf_X9_isInForce rfl rfl rfl (by decide +kernel) ⟨Nat.le_of_ble_eq_true rfl, Nat.le_of_ble_eq_true rfl⟩) ⟨pw_blind, va_recv hK hP (ci := 9) (q0 := 0) rfl wm_0, pw_give hP hK hD⟩ rfl rfl hl.1 rfl (lv_room (Nat.le_of_ble_eq_true rfl)) dX9_partsOf_2 ⟨Nat.le_of_ble_eq_true rfl, Nat.le_of_ble_eq_true rfl⟩) hS (fun q _ h => hF q h) hF (fun r_1 u t H1 locs ht hvm hw hB hz1 hk1 hS => ?_)
  subst hw
  obtain ⟨hP, hD⟩ := pw_back hF ht hB
  clear hB hk1 hz1 hF
  generalize H1 = H at hP hS ⊢
  refine lv_if_ne (tgt := 10) hx hb dX9_partsOf_5 (by decide) (fun c_2 => ?_) (fun c_2 => ?_)
  · have hR := (if_neg c_2).symm.trans hR
    refine lv_aload_n hx hb dX9_partsOf_10 rfl (lv_at hl 0 rfl) ?_
    refine va_get (D := D) (ci := 9) (v := .ref (ad 27)) (C := RX9) (T := TX9) (N := 51) hx hb hts hu9 hown hK hP 0 wm_0 rfl 27 (by decide) (hts (.fieldLink RX9 56 "GrazeBookModel" "rParts" "[I") (List.mem_cons_of_mem _ mw_810)) (fun _ h9 => h9) rfl dX9_partsOf_11 ?_
    refine lv_iload_n hx hb dX9_partsOf_14 rfl (lv_at hl 1 rfl) ?_
    refine va_iald_k (k := (a1.toNatClampNeg)) (v := (σ 27 (a1.toNatClampNeg))) hx hb hK hP 16 0 wm_a27 rfl rfl rfl ha1 dX9_partsOf_15 ?_
    refine lv_istore_n (lv' := [(2, .int (σ 27 (a1.toNatClampNeg))), (0, .ref h), (1, .int a1)]) hx hb dX9_partsOf_16 rfl hl (by decide) rfl (fun ls hl => ?_)
    refine lv_iconst (v := (0 : Int32)) hx hb dX9_partsOf_17 (by decide) ?_
    refine lv_istore_n (lv' := [(3, .int (0 : Int32)), (2, .int (σ 27 (a1.toNatClampNeg))), (0, .ref h), (1, .int a1)]) hx hb dX9_partsOf_18 rfl hl (by decide) rfl (fun ls hl => ?_)
    have hE_3 : ∀ (v2_3 : Int32) (H : Heap) (locs : List Loc) (ls : Array Slot), s_X9_partsOf_c19 v2_3 = R → va_P D vwCl (WM ca h ad σ) H → va_D A (WM ca h ad σ) → va_S A s.heap H locs → lv_has ls 4 [(2, .int v2_3)] → W p l e ((headSpec wsX9_partsOf ({ frames := 1, cells := 0, slots := 0, locals := 21 })).room) s m ([.ref h, .int a1] : List Value).toArray below meth c H locs 0 0 QQ (F0 m 64 ls []) := by
      intro v2_3 H locs ls hR hP hD hS hl
      have hR : v2_3 = R := hR
      refine lv_iload_n hx hb dX9_partsOf_64 rfl (lv_at hl 0 rfl) ?_
      subst hR
      rw [hQ]
      exact W.iret (v := v2_3) hx hb hr (fun t ht hW => ⟨⟨v2_3, (), rfl, rfl, ⟨by rw [ht]; exact hP, va_K.moved hW.alike hK, by rw [← hAe]; exact hD⟩⟩, hS.F ht⟩) hS.2.2 dX9_partsOf_65
    have hL_3 : ∀ (n k_3 : Nat) (v2_3 : Int32) (hk_3 : lpk (σ 5 0) k_3 n) (H : Heap) (locs : List Loc) (ls : Array Slot), s_X9_partsOf_c19 (iter (s_X9_partsOf_l19 σ a1) n k_3 v2_3) = R → va_P D vwCl (WM ca h ad σ) H → va_D A (WM ca h ad σ) → va_S A s.heap H locs → lv_has ls 4 [(3, .int (nI k_3)), (2, .int v2_3), (0, .ref h), (1, .int a1)] → W p l e ((headSpec wsX9_partsOf ({ frames := 1, cells := 0, slots := 0, locals := 21 })).room) s m ([.ref h, .int a1] : List Value).toArray below meth c H locs 0 0 QQ (F0 m 19 ls []) := by
      intro n
      induction n with
      | zero =>
        intro k_3 v2_3 hk_3 H locs ls hR hP hD hS hl
        refine lv_iload_n hx hb dX9_partsOf_19 rfl (lv_at hl 0 rfl) ?_
        refine lv_aload_n hx hb dX9_partsOf_20 rfl (lv_at hl 2 rfl) ?_
        refine va_get (D := D) (ci := 9) (v := .int (σ 5 0)) (C := RX9) (T := TX9) (N := 51) hx hb hts hu9 hown hK hP 0 wm_0 rfl 5 (by decide) (hts (.fieldLink RX9 148 "GrazeBookModel" "rights" "I") (List.mem_cons_of_mem _ mw_788)) (fun _ h9 => h9) rfl dX9_partsOf_21 ?_
        refine lv_icmp_ge (tgt := 64) hx hb dX9_partsOf_24 (by decide) (fun _ => ?_) (fun c_4 => absurd (ge_end hk_3) c_4)
        exact hE_3 v2_3 _ _ _ hR hP hD hS (lv_sub hl [1] rfl)
      | succ n ih =>
        intro k_3 v2_3 hk_3 H locs ls hR hP hD hS hl
        obtain ⟨S_3, hB_3⟩ : ∃ s9, s_X9_partsOf_l19 σ a1 k_3 v2_3 = s9 := ⟨_, rfl⟩
        have hR : s_X9_partsOf_c19 (iter (s_X9_partsOf_l19 σ a1) n (k_3 + 1) S_3) = R := by rw [← hB_3]; exact hR
        have hB_3 : (if (σ 31 k_3) = a1 then (if (s_X9_isInForce σ (nI k_3)) = (0 : Int32) then (v2_3 - (0 : Int32)) else (v2_3 - (σ 27 k_3))) else (v2_3 - (0 : Int32))) = S_3 := hB_3
        refine lv_iload_n hx hb dX9_partsOf_19 rfl (lv_at hl 0 rfl) ?_
        refine lv_aload_n hx hb dX9_partsOf_20 rfl (lv_at hl 2 rfl) ?_
        refine va_get (D := D) (ci := 9) (v := .int (σ 5 0)) (C := RX9) (T := TX9) (N := 51) hx hb hts hu9 hown hK hP 0 wm_0 rfl 5 (by decide) (hts (.fieldLink RX9 148 "GrazeBookModel" "rights" "I") (List.mem_cons_of_mem _ mw_788)) (fun _ h9 => h9) rfl dX9_partsOf_21 ?_
        refine lv_icmp_ge (tgt := 64) hx hb dX9_partsOf_24 (by decide) (fun c_5 => absurd c_5 (ge_go hk_3)) (fun _ => ?_)
        refine lv_iload_n hx hb dX9_partsOf_27 rfl (lv_at hl 1 rfl) ?_
        refine lv_aload_n hx hb dX9_partsOf_28 rfl (lv_at hl 2 rfl) ?_
        refine va_get (D := D) (ci := 9) (v := .ref (ad 31)) (C := RX9) (T := TX9) (N := 51) hx hb hts hu9 hown hK hP 0 wm_0 rfl 31 (by decide) (hts (.fieldLink RX9 68 "GrazeBookModel" "rOf" "[I") (List.mem_cons_of_mem _ mw_814)) (fun _ h9 => h9) rfl dX9_partsOf_29 ?_
        refine lv_iload_n hx hb dX9_partsOf_32 rfl (lv_at hl 0 rfl) ?_
        refine va_iald_k (k := k_3) (v := (σ 31 k_3)) hx hb hK hP 20 0 wm_a31 rfl (ix_cl hk_3) rfl (ix_loop (N := 60) hk_3 (ir_5 hI) (by decide) (by decide)) dX9_partsOf_33 ?_
        refine lv_iload_n hx hb dX9_partsOf_34 rfl (lv_at hl 3 rfl) ?_
        refine lv_icmp_ne (tgt := 55) hx hb dX9_partsOf_35 (by decide) (fun c_6 => ?_) (fun c_6 => ?_)
        · have hB_3 := (if_neg c_6).symm.trans hB_3
          refine lv_iconst (v := (0 : Int32)) hx hb dX9_partsOf_55 (by decide) ?_
          refine lv_isub hx hb dX9_partsOf_56 ?_
          refine lv_istore_n (lv' := [(2, .int (v2_3 - (0 : Int32))), (3, .int (nI k_3)), (0, .ref h), (1, .int a1)]) hx hb dX9_partsOf_57 rfl hl (by decide) rfl (fun ls hl => ?_)
          refine lv_iinc (v := (nI (k_3 + 1))) (lv' := [(3, .int (nI (k_3 + 1))), (2, .int (v2_3 - (0 : Int32))), (0, .ref h), (1, .int a1)]) hx hb dX9_partsOf_58 hl (k := 1) rfl (by rw [show Int32.ofInt 1 = 1 from by decide]; exact nI_1 _) (by decide) rfl (fun ls hl => ?_)
          refine lv_goto (tgt := 19) hx hb dX9_partsOf_61 (by decide) ?_
          subst hB_3
          exact ih (k_3 + 1) (v2_3 - (0 : Int32)) (ge_next hk_3)  _ _ _ hR hP hD hS (lv_sub hl [0, 1, 2, 3] rfl)
        · have hB_3 := (if_pos c_6).symm.trans hB_3
          refine lv_aload_n hx hb dX9_partsOf_38 rfl (lv_at hl 2 rfl) ?_
          refine lv_iload_n hx hb dX9_partsOf_39 rfl (lv_at hl 0 rfl) ?_
          have hF := pw_free hD hS hA
          refine va_calli (va_runV (As := [.int (nI k_3)]) (rest := [.int v2_3]) ⟨hx, hb, hml, hown, hts⟩ (k_X9_isInForce l D ca h ad σ (nI k_3) H.size hI (ix_loop (N := 60) hk_3 (ir_5 hI) (by decide) (by decide)) _ rfl) (cwV 1 hts gX9_partsOf_X9_isInForce rfl rfl rfl (by decide +kernel) ⟨Nat.le_of_ble_eq_true rfl, Nat.le_of_ble_eq_true rfl⟩) ⟨pw_blind, va_recv hK hP (ci := 9) (q0 := 0) rfl wm_0, pw_give hP hK hD⟩ rfl rfl hl.1 rfl (lv_room (Nat.le_of_ble_eq_true rfl)) dX9_partsOf_40 ⟨Nat.le_of_ble_eq_true rfl, Nat.le_of_ble_eq_true rfl⟩) hS (fun q _ h => hF q h) hF (fun r_7 u t H1 locs ht hvm hw hB hz1 hk1 hS => ?_)
          subst hw
          obtain ⟨hP, hD⟩ := pw_back hF ht hB
          clear hB hk1 hz1 hF
          generalize H1 = H at hP hS ⊢
          refine lv_if_eq (tgt := 55) hx hb dX9_partsOf_43 (by decide) (fun c_8 => ?_) (fun c_8 => ?_)
          · have hB_3 := (if_pos c_8).symm.trans hB_3
            refine lv_iconst (v := (0 : Int32)) hx hb dX9_partsOf_55 (by decide) ?_
            refine lv_isub hx hb dX9_partsOf_56 ?_
            refine lv_istore_n (lv' := [(2, .int (v2_3 - (0 : Int32))), (3, .int (nI k_3)), (0, .ref h), (1, .int a1)]) hx hb dX9_partsOf_57 rfl hl (by decide) rfl (fun ls hl => ?_)
            refine lv_iinc (v := (nI (k_3 + 1))) (lv' := [(3, .int (nI (k_3 + 1))), (2, .int (v2_3 - (0 : Int32))), (0, .ref h), (1, .int a1)]) hx hb dX9_partsOf_58 hl (k := 1) rfl (by rw [show Int32.ofInt 1 = 1 from by decide]; exact nI_1 _) (by decide) rfl (fun ls hl => ?_)
            refine lv_goto (tgt := 19) hx hb dX9_partsOf_61 (by decide) ?_
            subst hB_3
            exact ih (k_3 + 1) (v2_3 - (0 : Int32)) (ge_next hk_3)  _ _ _ hR hP hD hS (lv_sub hl [0, 1, 2, 3] rfl)
          · have hB_3 := (if_neg c_8).symm.trans hB_3
            refine lv_aload_n hx hb dX9_partsOf_46 rfl (lv_at hl 2 rfl) ?_
            refine va_get (D := D) (ci := 9) (v := .ref (ad 27)) (C := RX9) (T := TX9) (N := 51) hx hb hts hu9 hown hK hP 0 wm_0 rfl 27 (by decide) (hts (.fieldLink RX9 56 "GrazeBookModel" "rParts" "[I") (List.mem_cons_of_mem _ mw_810)) (fun _ h9 => h9) rfl dX9_partsOf_47 ?_
            refine lv_iload_n hx hb dX9_partsOf_50 rfl (lv_at hl 0 rfl) ?_
            refine va_iald_k (k := k_3) (v := (σ 27 k_3)) hx hb hK hP 16 0 wm_a27 rfl (ix_cl hk_3) rfl (ix_loop (N := 60) hk_3 (ir_5 hI) (by decide) (by decide)) dX9_partsOf_51 ?_
            refine lv_goto (tgt := 56) hx hb dX9_partsOf_52 (by decide) ?_
            refine lv_isub hx hb dX9_partsOf_56 ?_
            refine lv_istore_n (lv' := [(2, .int (v2_3 - (σ 27 k_3))), (3, .int (nI k_3)), (0, .ref h), (1, .int a1)]) hx hb dX9_partsOf_57 rfl hl (by decide) rfl (fun ls hl => ?_)
            refine lv_iinc (v := (nI (k_3 + 1))) (lv' := [(3, .int (nI (k_3 + 1))), (2, .int (v2_3 - (σ 27 k_3))), (0, .ref h), (1, .int a1)]) hx hb dX9_partsOf_58 hl (k := 1) rfl (by rw [show Int32.ofInt 1 = 1 from by decide]; exact nI_1 _) (by decide) rfl (fun ls hl => ?_)
            refine lv_goto (tgt := 19) hx hb dX9_partsOf_61 (by decide) ?_
            subst hB_3
            exact ih (k_3 + 1) (v2_3 - (σ 27 k_3)) (ge_next hk_3)  _ _ _ hR hP hD hS (lv_sub hl [0, 1, 2, 3] rfl)
    exact hL_3 _ 0 (σ 27 (a1.toNatClampNeg)) ⟨rfl, by decide⟩  _ _ _ hR hP hD hS (lv_sub hl [0, 1, 2, 3] rfl)
  · have hR := (if_pos c_2).symm.trans hR
    refine lv_iconst (v := (0 : Int32)) hx hb dX9_partsOf_8 (by decide) ?_
    subst hR
    rw [hQ]
    exact W.iret (v := (0 : Int32)) hx hb hr (fun t ht hW => ⟨⟨(0 : Int32), (), rfl, rfl, ⟨by rw [ht]; exact hP, va_K.moved hW.alike hK, by rw [← hAe]; exact hD⟩⟩, hS.F ht⟩) hS.2.2 dX9_partsOf_9

theorem ix_plan {x y s t : Int32} (h1 : ¬ s_X9_isIn x s = 0) (h2 : ¬ s_X9_isIn y t = 0) (h : 0 ≤ s.toInt ∧ 0 ≤ t.toInt ∧ s.toInt * t.toInt ≤ 4) : vp_in (t * x + y) 8 := by
  have hs : s.toInt.toNat < 2 ^ 31 := by have := s.toInt_lt; omega
  have ht : t.toInt.toNat < 2 ^ 31 := by have := t.toInt_lt; omega
  have a := vp_in_iff.mp (ix_isIn (N := s.toInt.toNat) h1 ⟨h.1, by omega⟩)
  have b := vp_in_iff.mp (ix_isIn (N := t.toInt.toNat) h2 ⟨h.2.1, by omega⟩)
  have c : t.toInt * (x.toInt + 1) ≤ t.toInt * s.toInt := Int.mul_le_mul_of_nonneg_left (by omega) h.2.1
  rw [Int.mul_add, Int.mul_one, Int.mul_comm t.toInt s.toInt] at c
  have d : 0 ≤ t.toInt * x.toInt := Int.mul_nonneg h.2.1 a.1
  have e : (t * x).toInt = t.toInt * x.toInt := mul_ti (by omega) (by omega)
  rw [vp_in_iff, add_ti (by omega) (by omega), e]
  omega

