def s_X9_lacksOf_c232 (v5_1 : Int32) (v4_1 : Int32) : (Int32 × Int32) → Int32 := fun x9 => match x9 with
  | (v3_2, v2_2) => (if (0 : Int32) < ((v5_1 + (if (0 : Int32) < (v4_1 - v3_2) then (v4_1 - v3_2) else (0 : Int32))) - v2_2) then ((v5_1 + (if (0 : Int32) < (v4_1 - v3_2) then (v4_1 - v3_2) else (0 : Int32))) - v2_2) else (0 : Int32))
def s_X9_lacksOf_l232 (σ : St) (a1 : Int32) (k_2 : Nat) : (Int32 × Int32) → (Int32 × Int32) := fun x9 => match x9 with
  | (v3_2, v2_2) => (if (s_X9_ownerOfRight σ (nI k_2)) = a1 then (if (σ 25 k_2) = (2 : Int32) then ((v3_2 + (s_X9_partsOf σ (nI k_2))), v2_2) else (if (σ 25 k_2) = (3 : Int32) then (v3_2, v2_2) else (v3_2, (v2_2 + (s_X9_partsOf σ (nI k_2)))))) else (v3_2, v2_2))
def s_X9_lacksOf_c13 (σ : St) (a1 : Int32) : (Int32 × Int32) → Int32 := fun x9 => match x9 with
  | (v5_1, v4_1) => (s_X9_lacksOf_c232 v5_1 v4_1 (iter (s_X9_lacksOf_l232 σ a1) ((σ 5 0).toNatClampNeg - 0) 0 ((0 : Int32), (0 : Int32))))
def s_X9_lacksOf_c100 (v5_1 : Int32) (v4_1 : Int32) (v7_13 : Int32) : (Int32 × Int32) → (Int32 × Int32) := fun x9 => match x9 with
  | (v9_14, v8_14) => ((v5_1 + (v8_14 - (if v8_14 < v7_13 then v8_14 else v7_13))), (v4_1 + (v9_14 - (if v9_14 < (v7_13 - (if v8_14 < v7_13 then v8_14 else v7_13)) then v9_14 else (v7_13 - (if v8_14 < v7_13 then v8_14 else v7_13))))))
def s_X9_lacksOf_l100 (σ : St) (a1 : Int32) (k_1 : Nat) (k_14 : Nat) : (Int32 × Int32) → (Int32 × Int32) := fun x9 => match x9 with
  | (v9_14, v8_14) => (if (s_X9_isOut σ (nI k_14)) = (0 : Int32) then (v9_14, v8_14) else (if (σ 35 k_14) = a1 then (if (σ 38 k_14) = (nI k_1) then (if (σ 36 k_14) = (2 : Int32) then ((v9_14 + (s_X9_partsOfHerd σ (nI k_14))), v8_14) else (v9_14, (v8_14 + (s_X9_partsOfHerd σ (nI k_14))))) else (v9_14, v8_14)) else (v9_14, v8_14)))
def s_X9_lacksOf_c34 (σ : St) (a1 : Int32) (k_1 : Nat) (v5_1 : Int32) (v4_1 : Int32) : Int32 → (Int32 × Int32) := fun x9 => match x9 with
  | v7_13 => (s_X9_lacksOf_c100 v5_1 v4_1 v7_13 (iter (s_X9_lacksOf_l100 σ a1 k_1) ((σ 6 0).toNatClampNeg - 0) 0 ((0 : Int32), (0 : Int32))))
def s_X9_lacksOf_l34 (σ : St) (a1 : Int32) (k_1 : Nat) (k_13 : Nat) : Int32 → Int32 := fun x9 => match x9 with
  | v7_13 => (if (σ 25 k_13) = (3 : Int32) then (if (σ 30 k_13) = (nI k_1) then (if (s_X9_ownerOfRight σ (nI k_13)) = a1 then (v7_13 + (s_X9_partsOf σ (nI k_13))) else (v7_13 + (0 : Int32))) else (v7_13 + (0 : Int32))) else (v7_13 + (0 : Int32)))
def s_X9_lacksOf_l13 (σ : St) (a1 : Int32) (k_1 : Nat) : (Int32 × Int32) → (Int32 × Int32) := fun x9 => match x9 with
  | (v5_1, v4_1) => (s_X9_lacksOf_c34 σ a1 k_1 v5_1 v4_1 (iter (s_X9_lacksOf_l34 σ a1 k_1) ((σ 5 0).toNatClampNeg - 0) 0 (0 : Int32)))
def s_X9_lacksOf (σ : St) (a1 : Int32) : Int32 := (s_X9_lacksOf_c13 σ a1 (iter (s_X9_lacksOf_l13 σ a1) ((σ 2 0).toNatClampNeg - 0) 0 ((0 : Int32), (0 : Int32))))
set_option maxHeartbeats 1000000 in
set_option maxRecDepth 100000 in
theorem k_X9_lacksOf (l : Launch) (D : va_G) (ca : Nat → ClassId) (h : Nat) (ad : Nat → Nat) (σ : St) (a1 : Int32) (sz : Nat) (hI : IR σ)  (R : Int32) (hR : s_X9_lacksOf σ a1 = R) : Met l yX9_lacksOf wsX9_lacksOf ({ frames := 2, cells := 0, slots := 0, locals := 44 }) (va_Pc [.ref h, .int a1] (pw_pre D ca (WM ca h ad σ) sz)) (va_Qi (fun (r : Int32) (_ : Unit) => r = R) (fun (_ : Unit) (t : State) => pw_post D ca (WM ca h ad σ) sz (WM ca h ad σ) t) (va_A (WM ca h ad σ) sz)) 0 0 (va_A (WM ca h ad σ) sz) := by
  refine Met.ofW (cc := cX9_lacksOf) (maxL := 11) (ret := (some .int)) (by decide) rfl ?_
  intro p e s m args below meth c s₁ B hml hv
  obtain ⟨rfl, hsz, hP, hK, hD0⟩ := hv
  have hx := B.exec
  have hb := B.bytes
  have hr := B.returns
  have hts := atoms_spec (ws := wsX9_lacksOf) B.pre
  have hown : s.vm.findClass RX9 = some m.cls := findClass_of_methodNamed B.named
  have hlocks := B.notSynchronized
  have hu9 : ∀ w ∈ u_ws RX9 TX9 51, w ∈ wsX9_lacksOf := fun w h => List.mem_cons_of_mem _ (uw9 w h)
  subst hsz
  have hD := hD0.self (sz := s.heap.size)
  obtain ⟨A, hAe⟩ : ∃ A, A = va_A (WM ca h ad σ) s.heap.size := ⟨_, rfl⟩
  rw [← hAe] at hD ⊢
  have hA : ∀ q : Nat, s.heap.size ≤ q → A q := fun q h => by rw [hAe]; exact Or.inr h
  have hS : va_S A s.heap s.heap [] := va_S.rf
  have hl := lv_entry ([.ref h, .int a1]) (n := 11) (Nat.le_of_ble_eq_true rfl)
  rw [lg_entry_eq]
  generalize (lg_sl ([.ref h, .int a1]) ++ List.replicate (11 - (lg_sl ([.ref h, .int a1])).length) Slot.unset).toArray = ls at hl ⊢
  have hl : lv_has ls 11 [(0, .ref h), (1, .int a1)] := hl
  obtain ⟨H, hH⟩ : ∃ H, H = s.heap := ⟨_, rfl⟩
  have hP : va_P D vwCl (WM ca h ad σ) H := by rw [hH]; exact hP
  have hS : va_S A s.heap H [] := by rw [hH]; exact hS
  obtain ⟨QQ, hQ⟩ : ∃ Q9, Q9 = MQ below (va_Qi (fun (r : Int32) (_ : Unit) => r = R) (fun (_ : Unit) (t : State) => pw_post D ca (WM ca h ad σ) s.heap.size (WM ca h ad σ) t) A) ([.ref h, .int a1] : List Value).toArray s 0 0 A := ⟨_, rfl⟩
  rw [← hQ]
  show W _ _ _ _ _ _ _ _ _ _ s.heap _ _ _ _ _
  rw [← hH]
  have hR : (s_X9_lacksOf_c13 σ a1 (iter (s_X9_lacksOf_l13 σ a1) ((σ 2 0).toNatClampNeg - 0) 0 ((0 : Int32), (0 : Int32)))) = R := hR
  refine lv_iconst (v := (0 : Int32)) hx hb dX9_lacksOf_0 (by decide) ?_
  refine lv_istore_n (lv' := [(2, .int (0 : Int32)), (0, .ref h), (1, .int a1)]) hx hb dX9_lacksOf_1 rfl hl (by decide) rfl (fun ls hl => ?_)
  refine lv_iconst (v := (0 : Int32)) hx hb dX9_lacksOf_2 (by decide) ?_
  refine lv_istore_n (lv' := [(3, .int (0 : Int32)), (2, .int (0 : Int32)), (0, .ref h), (1, .int a1)]) hx hb dX9_lacksOf_3 rfl hl (by decide) rfl (fun ls hl => ?_)
  refine lv_iconst (v := (0 : Int32)) hx hb dX9_lacksOf_4 (by decide) ?_
  refine lv_istore (lv' := [(4, .int (0 : Int32)), (3, .int (0 : Int32)), (2, .int (0 : Int32)), (0, .ref h), (1, .int a1)]) hx hb dX9_lacksOf_5 hl (by decide) rfl (fun ls hl => ?_)
  refine lv_iconst (v := (0 : Int32)) hx hb dX9_lacksOf_7 (by decide) ?_
  refine lv_istore (lv' := [(5, .int (0 : Int32)), (4, .int (0 : Int32)), (3, .int (0 : Int32)), (2, .int (0 : Int32)), (0, .ref h), (1, .int a1)]) hx hb dX9_lacksOf_8 hl (by decide) rfl (fun ls hl => ?_)
  refine lv_iconst (v := (0 : Int32)) hx hb dX9_lacksOf_10 (by decide) ?_
  refine lv_istore (lv' := [(6, .int (0 : Int32)), (5, .int (0 : Int32)), (4, .int (0 : Int32)), (3, .int (0 : Int32)), (2, .int (0 : Int32)), (0, .ref h), (1, .int a1)]) hx hb dX9_lacksOf_11 hl (by decide) rfl (fun ls hl => ?_)
  have hE_1 : ∀ (v5_1 : Int32) (v4_1 : Int32) (H : Heap) (locs : List Loc) (ls : Array Slot), s_X9_lacksOf_c13 σ a1 (v5_1, v4_1) = R → va_P D vwCl (WM ca h ad σ) H → va_D A (WM ca h ad σ) → va_S A s.heap H locs → lv_has ls 11 [(5, .int v5_1), (4, .int v4_1), (3, .int (0 : Int32)), (2, .int (0 : Int32)), (0, .ref h), (1, .int a1)] → W p l e ((headSpec wsX9_lacksOf ({ frames := 2, cells := 0, slots := 0, locals := 44 })).room) s m ([.ref h, .int a1] : List Value).toArray below meth c H locs 0 0 QQ (F0 m 229 ls []) := by
    intro v5_1 v4_1 H locs ls hR hP hD hS hl
    have hR : (s_X9_lacksOf_c232 v5_1 v4_1 (iter (s_X9_lacksOf_l232 σ a1) ((σ 5 0).toNatClampNeg - 0) 0 ((0 : Int32), (0 : Int32)))) = R := hR
    refine lv_iconst (v := (0 : Int32)) hx hb dX9_lacksOf_229 (by decide) ?_
    refine lv_istore (lv' := [(6, .int (0 : Int32)), (5, .int v5_1), (4, .int v4_1), (3, .int (0 : Int32)), (2, .int (0 : Int32)), (0, .ref h), (1, .int a1)]) hx hb dX9_lacksOf_230 hl (by decide) rfl (fun ls hl => ?_)
    have hE_2 : ∀ (v3_2 : Int32) (v2_2 : Int32) (H : Heap) (locs : List Loc) (ls : Array Slot), s_X9_lacksOf_c232 v5_1 v4_1 (v3_2, v2_2) = R → va_P D vwCl (WM ca h ad σ) H → va_D A (WM ca h ad σ) → va_S A s.heap H locs → lv_has ls 11 [(5, .int v5_1), (4, .int v4_1), (3, .int v3_2), (2, .int v2_2)] → W p l e ((headSpec wsX9_lacksOf ({ frames := 2, cells := 0, slots := 0, locals := 44 })).room) s m ([.ref h, .int a1] : List Value).toArray below meth c H locs 0 0 QQ (F0 m 303 ls []) := by
      intro v3_2 v2_2 H locs ls hR hP hD hS hl
      have hR : (if (0 : Int32) < ((v5_1 + (if (0 : Int32) < (v4_1 - v3_2) then (v4_1 - v3_2) else (0 : Int32))) - v2_2) then ((v5_1 + (if (0 : Int32) < (v4_1 - v3_2) then (v4_1 - v3_2) else (0 : Int32))) - v2_2) else (0 : Int32)) = R := hR
      refine lv_iload hx hb dX9_lacksOf_303 (lv_at hl 0 rfl) ?_
      refine lv_iconst (v := (0 : Int32)) hx hb dX9_lacksOf_305 (by decide) ?_
      refine lv_iload hx hb dX9_lacksOf_306 (lv_at hl 1 rfl) ?_
      refine lv_iload_n hx hb dX9_lacksOf_308 rfl (lv_at hl 2 rfl) ?_
      refine lv_isub hx hb dX9_lacksOf_309 ?_
      refine va_mmax hx hb (hml.trans hl.1.symm) hown (hts (.methodLink RX9 179 Lib.Math.max.name) (List.mem_cons_of_mem _ mw_1026)) (hts (.static Lib.Math.max.name) (List.mem_cons_of_mem _ mw_520)) (hts (.initialized "java/lang/Math") (List.mem_cons_of_mem _ mw_68)) (hts (.code Lib.Math.max.name Lib.Math.max.code 2 (some .int)) (List.mem_cons_of_mem _ mw_521)) (Nat.le_of_ble_eq_true rfl) (Nat.le_of_ble_eq_true rfl) (Nat.le_of_ble_eq_true rfl) (Nat.le_of_ble_eq_true rfl) dX9_lacksOf_310 ?_
      refine lv_iadd hx hb dX9_lacksOf_313 ?_
      refine lv_iload_n hx hb dX9_lacksOf_314 rfl (lv_at hl 3 rfl) ?_
      refine lv_isub hx hb dX9_lacksOf_315 ?_
      refine lv_istore (lv' := [(6, .int ((v5_1 + (if (0 : Int32) < (v4_1 - v3_2) then (v4_1 - v3_2) else (0 : Int32))) - v2_2)), (5, .int v5_1), (4, .int v4_1), (3, .int v3_2), (2, .int v2_2)]) hx hb dX9_lacksOf_316 hl (by decide) rfl (fun ls hl => ?_)
      refine lv_iconst (v := (0 : Int32)) hx hb dX9_lacksOf_318 (by decide) ?_
      refine lv_iload hx hb dX9_lacksOf_319 (lv_at hl 0 rfl) ?_
      refine va_mmax hx hb (hml.trans hl.1.symm) hown (hts (.methodLink RX9 179 Lib.Math.max.name) (List.mem_cons_of_mem _ mw_1026)) (hts (.static Lib.Math.max.name) (List.mem_cons_of_mem _ mw_520)) (hts (.initialized "java/lang/Math") (List.mem_cons_of_mem _ mw_68)) (hts (.code Lib.Math.max.name Lib.Math.max.code 2 (some .int)) (List.mem_cons_of_mem _ mw_521)) (Nat.le_of_ble_eq_true rfl) (Nat.le_of_ble_eq_true rfl) (Nat.le_of_ble_eq_true rfl) (Nat.le_of_ble_eq_true rfl) dX9_lacksOf_321 ?_
      subst hR
      rw [hQ]
      exact W.iret (v := (if (0 : Int32) < ((v5_1 + (if (0 : Int32) < (v4_1 - v3_2) then (v4_1 - v3_2) else (0 : Int32))) - v2_2) then ((v5_1 + (if (0 : Int32) < (v4_1 - v3_2) then (v4_1 - v3_2) else (0 : Int32))) - v2_2) else (0 : Int32))) hx hb hr (fun t ht hW => ⟨⟨(if (0 : Int32) < ((v5_1 + (if (0 : Int32) < (v4_1 - v3_2) then (v4_1 - v3_2) else (0 : Int32))) - v2_2) then ((v5_1 + (if (0 : Int32) < (v4_1 - v3_2) then (v4_1 - v3_2) else (0 : Int32))) - v2_2) else (0 : Int32)), (), rfl, rfl, ⟨by rw [ht]; exact hP, va_K.moved hW.alike hK, by rw [← hAe]; exact hD⟩⟩, hS.F ht⟩) hS.2.2 dX9_lacksOf_324
    have hL_2 : ∀ (n k_2 : Nat) (v3_2 : Int32) (v2_2 : Int32) (hk_2 : lpk (σ 5 0) k_2 n) (H : Heap) (locs : List Loc) (ls : Array Slot), s_X9_lacksOf_c232 v5_1 v4_1 (iter (s_X9_lacksOf_l232 σ a1) n k_2 (v3_2, v2_2)) = R → va_P D vwCl (WM ca h ad σ) H → va_D A (WM ca h ad σ) → va_S A s.heap H locs → lv_has ls 11 [(6, .int (nI k_2)), (5, .int v5_1), (4, .int v4_1), (3, .int v3_2), (2, .int v2_2), (0, .ref h), (1, .int a1)] → W p l e ((headSpec wsX9_lacksOf ({ frames := 2, cells := 0, slots := 0, locals := 44 })).room) s m ([.ref h, .int a1] : List Value).toArray below meth c H locs 0 0 QQ (F0 m 232 ls []) := by
      intro n
      induction n with
      | zero =>
        intro k_2 v3_2 v2_2 hk_2 H locs ls hR hP hD hS hl
        refine lv_iload hx hb dX9_lacksOf_232 (lv_at hl 0 rfl) ?_
        refine lv_aload_n hx hb dX9_lacksOf_234 rfl (lv_at hl 5 rfl) ?_
        refine va_get (D := D) (ci := 9) (v := .int (σ 5 0)) (C := RX9) (T := TX9) (N := 51) hx hb hts hu9 hown hK hP 0 wm_0 rfl 5 (by decide) (hts (.fieldLink RX9 148 "GrazeBookModel" "rights" "I") (List.mem_cons_of_mem _ mw_788)) (fun _ h9 => h9) rfl dX9_lacksOf_235 ?_
        refine lv_icmp_ge (tgt := 303) hx hb dX9_lacksOf_238 (by decide) (fun _ => ?_) (fun c_3 => absurd (ge_end hk_2) c_3)
        exact hE_2 v3_2 v2_2 _ _ _ hR hP hD hS (lv_sub hl [1, 2, 3, 4] rfl)
      | succ n ih =>
        intro k_2 v3_2 v2_2 hk_2 H locs ls hR hP hD hS hl
        obtain ⟨S_2, hB_2⟩ : ∃ s9, s_X9_lacksOf_l232 σ a1 k_2 (v3_2, v2_2) = s9 := ⟨_, rfl⟩
        have hR : s_X9_lacksOf_c232 v5_1 v4_1 (iter (s_X9_lacksOf_l232 σ a1) n (k_2 + 1) S_2) = R := by rw [← hB_2]; exact hR
        have hB_2 : (if (s_X9_ownerOfRight σ (nI k_2)) = a1 then (if (σ 25 k_2) = (2 : Int32) then ((v3_2 + (s_X9_partsOf σ (nI k_2))), v2_2) else (if (σ 25 k_2) = (3 : Int32) then (v3_2, v2_2) else (v3_2, (v2_2 + (s_X9_partsOf σ (nI k_2)))))) else (v3_2, v2_2)) = S_2 := hB_2
        refine lv_iload hx hb dX9_lacksOf_232 (lv_at hl 0 rfl) ?_
        refine lv_aload_n hx hb dX9_lacksOf_234 rfl (lv_at hl 5 rfl) ?_
        refine va_get (D := D) (ci := 9) (v := .int (σ 5 0)) (C := RX9) (T := TX9) (N := 51) hx hb hts hu9 hown hK hP 0 wm_0 rfl 5 (by decide) (hts (.fieldLink RX9 148 "GrazeBookModel" "rights" "I") (List.mem_cons_of_mem _ mw_788)) (fun _ h9 => h9) rfl dX9_lacksOf_235 ?_
        refine lv_icmp_ge (tgt := 303) hx hb dX9_lacksOf_238 (by decide) (fun c_4 => absurd c_4 (ge_go hk_2)) (fun _ => ?_)
        refine lv_aload_n hx hb dX9_lacksOf_241 rfl (lv_at hl 5 rfl) ?_
        refine lv_iload hx hb dX9_lacksOf_242 (lv_at hl 0 rfl) ?_
        have hF := pw_free hD hS hA
        refine va_calli (va_runV (As := [.int (nI k_2)]) (rest := []) ⟨hx, hb, hml, hown, hts⟩ (k_X9_ownerOfRight l D ca h ad σ (nI k_2) H.size hI (ix_loop (N := 60) hk_2 (ir_5 hI) (by decide) (by decide)) _ rfl) (cwV 1 hts gX9_lacksOf_X9_ownerOfRight rfl rfl rfl (by decide +kernel) ⟨Nat.le_of_ble_eq_true rfl, Nat.le_of_ble_eq_true rfl⟩) ⟨pw_blind, va_recv hK hP (ci := 9) (q0 := 0) rfl wm_0, pw_give hP hK hD⟩ rfl rfl hl.1 rfl (lv_room (Nat.le_of_ble_eq_true rfl)) dX9_lacksOf_244 ⟨Nat.le_of_ble_eq_true rfl, Nat.le_of_ble_eq_true rfl⟩) hS (fun q _ h => hF q h) hF (fun r_5 u t H1 locs ht hvm hw hB hz1 hk1 hS => ?_)
        subst hw
        obtain ⟨hP, hD⟩ := pw_back hF ht hB
        clear hB hk1 hz1 hF
        generalize H1 = H at hP hS ⊢
        refine lv_iload_n hx hb dX9_lacksOf_247 rfl (lv_at hl 6 rfl) ?_
        refine lv_icmp_eq (tgt := 254) hx hb dX9_lacksOf_248 (by decide) (fun c_6 => ?_) (fun c_6 => ?_)
        · have hB_2 := (if_pos c_6).symm.trans hB_2
          refine lv_aload_n hx hb dX9_lacksOf_254 rfl (lv_at hl 5 rfl) ?_
          refine va_get (D := D) (ci := 9) (v := .ref (ad 25)) (C := RX9) (T := TX9) (N := 51) hx hb hts hu9 hown hK hP 0 wm_0 rfl 25 (by decide) (hts (.fieldLink RX9 50 "GrazeBookModel" "rKind" "[I") (List.mem_cons_of_mem _ mw_808)) (fun _ h9 => h9) rfl dX9_lacksOf_255 ?_
          refine lv_iload hx hb dX9_lacksOf_258 (lv_at hl 0 rfl) ?_
          refine va_iald_k (k := k_2) (v := (σ 25 k_2)) hx hb hK hP 14 0 wm_a25 rfl (ix_cl hk_2) rfl (ix_loop (N := 60) hk_2 (ir_5 hI) (by decide) (by decide)) dX9_lacksOf_260 ?_
          refine lv_iconst (v := (2 : Int32)) hx hb dX9_lacksOf_261 (by decide) ?_
          refine lv_icmp_ne (tgt := 277) hx hb dX9_lacksOf_262 (by decide) (fun c_7 => ?_) (fun c_7 => ?_)
          · have hB_2 := (if_neg c_7).symm.trans hB_2
            refine lv_aload_n hx hb dX9_lacksOf_277 rfl (lv_at hl 5 rfl) ?_
            refine va_get (D := D) (ci := 9) (v := .ref (ad 25)) (C := RX9) (T := TX9) (N := 51) hx hb hts hu9 hown hK hP 0 wm_0 rfl 25 (by decide) (hts (.fieldLink RX9 50 "GrazeBookModel" "rKind" "[I") (List.mem_cons_of_mem _ mw_808)) (fun _ h9 => h9) rfl dX9_lacksOf_278 ?_
            refine lv_iload hx hb dX9_lacksOf_281 (lv_at hl 0 rfl) ?_
            refine va_iald_k (k := k_2) (v := (σ 25 k_2)) hx hb hK hP 14 0 wm_a25 rfl (ix_cl hk_2) rfl (ix_loop (N := 60) hk_2 (ir_5 hI) (by decide) (by decide)) dX9_lacksOf_283 ?_
            refine lv_iconst (v := (3 : Int32)) hx hb dX9_lacksOf_284 (by decide) ?_
            refine lv_icmp_eq (tgt := 297) hx hb dX9_lacksOf_285 (by decide) (fun c_8 => ?_) (fun c_8 => ?_)
            · have hB_2 := (if_pos c_8).symm.trans hB_2
              refine lv_iinc (v := (nI (k_2 + 1))) (lv' := [(6, .int (nI (k_2 + 1))), (5, .int v5_1), (4, .int v4_1), (3, .int v3_2), (2, .int v2_2), (0, .ref h), (1, .int a1)]) hx hb dX9_lacksOf_297 hl (k := 0) rfl (by rw [show Int32.ofInt 1 = 1 from by decide]; exact nI_1 _) (by decide) rfl (fun ls hl => ?_)
              refine lv_goto (tgt := 232) hx hb dX9_lacksOf_300 (by decide) ?_
              subst hB_2
              exact ih (k_2 + 1) v3_2 v2_2 (ge_next hk_2)  _ _ _ hR hP hD hS (lv_sub hl [0, 1, 2, 3, 4, 5, 6] rfl)
            · have hB_2 := (if_neg c_8).symm.trans hB_2
              refine lv_iload_n hx hb dX9_lacksOf_288 rfl (lv_at hl 4 rfl) ?_
              refine lv_aload_n hx hb dX9_lacksOf_289 rfl (lv_at hl 5 rfl) ?_
              refine lv_iload hx hb dX9_lacksOf_290 (lv_at hl 0 rfl) ?_
              have hF := pw_free hD hS hA
              refine va_calli (va_runV (As := [.int (nI k_2)]) (rest := [.int v2_2]) ⟨hx, hb, hml, hown, hts⟩ (k_X9_partsOf l D ca h ad σ (nI k_2) H.size hI (ix_loop (N := 60) hk_2 (ir_5 hI) (by decide) (by decide)) _ rfl) (cwV 1 hts gX9_lacksOf_X9_partsOf rfl rfl rfl (by decide +kernel) ⟨Nat.le_of_ble_eq_true rfl, Nat.le_of_ble_eq_true rfl⟩) ⟨pw_blind, va_recv hK hP (ci := 9) (q0 := 0) rfl wm_0, pw_give hP hK hD⟩ rfl rfl hl.1 rfl (lv_room (Nat.le_of_ble_eq_true rfl)) dX9_lacksOf_292 ⟨Nat.le_of_ble_eq_true rfl, Nat.le_of_ble_eq_true rfl⟩) hS (fun q _ h => hF q h) hF (fun r_9 u t H1 locs ht hvm hw hB hz1 hk1 hS => ?_)
              subst hw
              obtain ⟨hP, hD⟩ := pw_back hF ht hB
              clear hB hk1 hz1 hF
              generalize H1 = H at hP hS ⊢
              refine lv_iadd hx hb dX9_lacksOf_295 ?_
              refine lv_istore_n (lv' := [(2, .int (v2_2 + (s_X9_partsOf σ (nI k_2)))), (6, .int (nI k_2)), (5, .int v5_1), (4, .int v4_1), (3, .int v3_2), (0, .ref h), (1, .int a1)]) hx hb dX9_lacksOf_296 rfl hl (by decide) rfl (fun ls hl => ?_)
              refine lv_iinc (v := (nI (k_2 + 1))) (lv' := [(6, .int (nI (k_2 + 1))), (2, .int (v2_2 + (s_X9_partsOf σ (nI k_2)))), (5, .int v5_1), (4, .int v4_1), (3, .int v3_2), (0, .ref h), (1, .int a1)]) hx hb dX9_lacksOf_297 hl (k := 1) rfl (by rw [show Int32.ofInt 1 = 1 from by decide]; exact nI_1 _) (by decide) rfl (fun ls hl => ?_)
              refine lv_goto (tgt := 232) hx hb dX9_lacksOf_300 (by decide) ?_
              subst hB_2
              exact ih (k_2 + 1) v3_2 (v2_2 + (s_X9_partsOf σ (nI k_2))) (ge_next hk_2)  _ _ _ hR hP hD hS (lv_sub hl [0, 2, 3, 4, 1, 5, 6] rfl)
          · have hB_2 := (if_pos c_7).symm.trans hB_2
            refine lv_iload_n hx hb dX9_lacksOf_265 rfl (lv_at hl 3 rfl) ?_
            refine lv_aload_n hx hb dX9_lacksOf_266 rfl (lv_at hl 5 rfl) ?_
            refine lv_iload hx hb dX9_lacksOf_267 (lv_at hl 0 rfl) ?_
            have hF := pw_free hD hS hA
            refine va_calli (va_runV (As := [.int (nI k_2)]) (rest := [.int v3_2]) ⟨hx, hb, hml, hown, hts⟩ (k_X9_partsOf l D ca h ad σ (nI k_2) H.size hI (ix_loop (N := 60) hk_2 (ir_5 hI) (by decide) (by decide)) _ rfl) (cwV 1 hts gX9_lacksOf_X9_partsOf rfl rfl rfl (by decide +kernel) ⟨Nat.le_of_ble_eq_true rfl, Nat.le_of_ble_eq_true rfl⟩) ⟨pw_blind, va_recv hK hP (ci := 9) (q0 := 0) rfl wm_0, pw_give hP hK hD⟩ rfl rfl hl.1 rfl (lv_room (Nat.le_of_ble_eq_true rfl)) dX9_lacksOf_269 ⟨Nat.le_of_ble_eq_true rfl, Nat.le_of_ble_eq_true rfl⟩) hS (fun q _ h => hF q h) hF (fun r_10 u t H1 locs ht hvm hw hB hz1 hk1 hS => ?_)
            subst hw
            obtain ⟨hP, hD⟩ := pw_back hF ht hB
            clear hB hk1 hz1 hF
            generalize H1 = H at hP hS ⊢
            refine lv_iadd hx hb dX9_lacksOf_272 ?_
            refine lv_istore_n (lv' := [(3, .int (v3_2 + (s_X9_partsOf σ (nI k_2)))), (6, .int (nI k_2)), (5, .int v5_1), (4, .int v4_1), (2, .int v2_2), (0, .ref h), (1, .int a1)]) hx hb dX9_lacksOf_273 rfl hl (by decide) rfl (fun ls hl => ?_)
            refine lv_goto (tgt := 297) hx hb dX9_lacksOf_274 (by decide) ?_
            refine lv_iinc (v := (nI (k_2 + 1))) (lv' := [(6, .int (nI (k_2 + 1))), (3, .int (v3_2 + (s_X9_partsOf σ (nI k_2)))), (5, .int v5_1), (4, .int v4_1), (2, .int v2_2), (0, .ref h), (1, .int a1)]) hx hb dX9_lacksOf_297 hl (k := 1) rfl (by rw [show Int32.ofInt 1 = 1 from by decide]; exact nI_1 _) (by decide) rfl (fun ls hl => ?_)
            refine lv_goto (tgt := 232) hx hb dX9_lacksOf_300 (by decide) ?_
            subst hB_2
            exact ih (k_2 + 1) (v3_2 + (s_X9_partsOf σ (nI k_2))) v2_2 (ge_next hk_2)  _ _ _ hR hP hD hS (lv_sub hl [0, 2, 3, 1, 4, 5, 6] rfl)
        · have hB_2 := (if_neg c_6).symm.trans hB_2
          refine lv_goto (tgt := 297) hx hb dX9_lacksOf_251 (by decide) ?_
          refine lv_iinc (v := (nI (k_2 + 1))) (lv' := [(6, .int (nI (k_2 + 1))), (5, .int v5_1), (4, .int v4_1), (3, .int v3_2), (2, .int v2_2), (0, .ref h), (1, .int a1)]) hx hb dX9_lacksOf_297 hl (k := 0) rfl (by rw [show Int32.ofInt 1 = 1 from by decide]; exact nI_1 _) (by decide) rfl (fun ls hl => ?_)
          refine lv_goto (tgt := 232) hx hb dX9_lacksOf_300 (by decide) ?_
          subst hB_2
          exact ih (k_2 + 1) v3_2 v2_2 (ge_next hk_2)  _ _ _ hR hP hD hS (lv_sub hl [0, 1, 2, 3, 4, 5, 6] rfl)
    exact hL_2 _ 0 (0 : Int32) (0 : Int32) ⟨rfl, by decide⟩  _ _ _ hR hP hD hS (lv_sub hl [0, 1, 2, 3, 4, 5, 6] rfl)
  have hL_1 : ∀ (n k_1 : Nat) (v5_1 : Int32) (v4_1 : Int32) (hk_1 : lpk (σ 2 0) k_1 n) (H : Heap) (locs : List Loc) (ls : Array Slot), s_X9_lacksOf_c13 σ a1 (iter (s_X9_lacksOf_l13 σ a1) n k_1 (v5_1, v4_1)) = R → va_P D vwCl (WM ca h ad σ) H → va_D A (WM ca h ad σ) → va_S A s.heap H locs → lv_has ls 11 [(6, .int (nI k_1)), (5, .int v5_1), (4, .int v4_1), (3, .int (0 : Int32)), (2, .int (0 : Int32)), (0, .ref h), (1, .int a1)] → W p l e ((headSpec wsX9_lacksOf ({ frames := 2, cells := 0, slots := 0, locals := 44 })).room) s m ([.ref h, .int a1] : List Value).toArray below meth c H locs 0 0 QQ (F0 m 13 ls []) := by
    intro n
    induction n with
    | zero =>
      intro k_1 v5_1 v4_1 hk_1 H locs ls hR hP hD hS hl
      refine lv_iload hx hb dX9_lacksOf_13 (lv_at hl 0 rfl) ?_
      refine lv_aload_n hx hb dX9_lacksOf_15 rfl (lv_at hl 5 rfl) ?_
      refine va_get (D := D) (ci := 9) (v := .int (σ 2 0)) (C := RX9) (T := TX9) (N := 51) hx hb hts hu9 hown hK hP 0 wm_0 rfl 2 (by decide) (hts (.fieldLink RX9 127 "GrazeBookModel" "pieces" "I") (List.mem_cons_of_mem _ mw_785)) (fun _ h9 => h9) rfl dX9_lacksOf_16 ?_
      refine lv_icmp_ge (tgt := 229) hx hb dX9_lacksOf_19 (by decide) (fun _ => ?_) (fun c_11 => absurd (ge_end hk_1) c_11)
      exact hE_1 v5_1 v4_1 _ _ _ hR hP hD hS (lv_sub hl [1, 2, 3, 4, 5, 6] rfl)
    | succ n ih =>
      intro k_1 v5_1 v4_1 hk_1 H locs ls hR hP hD hS hl
      obtain ⟨S_1, hB_1⟩ : ∃ s9, s_X9_lacksOf_l13 σ a1 k_1 (v5_1, v4_1) = s9 := ⟨_, rfl⟩
      have hR : s_X9_lacksOf_c13 σ a1 (iter (s_X9_lacksOf_l13 σ a1) n (k_1 + 1) S_1) = R := by rw [← hB_1]; exact hR
      have hB_1 : (s_X9_lacksOf_c34 σ a1 k_1 v5_1 v4_1 (iter (s_X9_lacksOf_l34 σ a1 k_1) ((σ 5 0).toNatClampNeg - 0) 0 (0 : Int32))) = S_1 := hB_1
      refine lv_iload hx hb dX9_lacksOf_13 (lv_at hl 0 rfl) ?_
      refine lv_aload_n hx hb dX9_lacksOf_15 rfl (lv_at hl 5 rfl) ?_
      refine va_get (D := D) (ci := 9) (v := .int (σ 2 0)) (C := RX9) (T := TX9) (N := 51) hx hb hts hu9 hown hK hP 0 wm_0 rfl 2 (by decide) (hts (.fieldLink RX9 127 "GrazeBookModel" "pieces" "I") (List.mem_cons_of_mem _ mw_785)) (fun _ h9 => h9) rfl dX9_lacksOf_16 ?_
      refine lv_icmp_ge (tgt := 229) hx hb dX9_lacksOf_19 (by decide) (fun c_12 => absurd c_12 (ge_go hk_1)) (fun _ => ?_)
      refine lv_iconst (v := (0 : Int32)) hx hb dX9_lacksOf_22 (by decide) ?_
      refine lv_istore (lv' := [(7, .int (0 : Int32)), (6, .int (nI k_1)), (5, .int v5_1), (4, .int v4_1), (3, .int (0 : Int32)), (2, .int (0 : Int32)), (0, .ref h), (1, .int a1)]) hx hb dX9_lacksOf_23 hl (by decide) rfl (fun ls hl => ?_)
      refine lv_iconst (v := (0 : Int32)) hx hb dX9_lacksOf_25 (by decide) ?_
      refine lv_istore (lv' := [(8, .int (0 : Int32)), (7, .int (0 : Int32)), (6, .int (nI k_1)), (5, .int v5_1), (4, .int v4_1), (3, .int (0 : Int32)), (2, .int (0 : Int32)), (0, .ref h), (1, .int a1)]) hx hb dX9_lacksOf_26 hl (by decide) rfl (fun ls hl => ?_)
      refine lv_iconst (v := (0 : Int32)) hx hb dX9_lacksOf_28 (by decide) ?_
      refine lv_istore (lv' := [(9, .int (0 : Int32)), (8, .int (0 : Int32)), (7, .int (0 : Int32)), (6, .int (nI k_1)), (5, .int v5_1), (4, .int v4_1), (3, .int (0 : Int32)), (2, .int (0 : Int32)), (0, .ref h), (1, .int a1)]) hx hb dX9_lacksOf_29 hl (by decide) rfl (fun ls hl => ?_)
      refine lv_iconst (v := (0 : Int32)) hx hb dX9_lacksOf_31 (by decide) ?_
      refine lv_istore (lv' := [(10, .int (0 : Int32)), (9, .int (0 : Int32)), (8, .int (0 : Int32)), (7, .int (0 : Int32)), (6, .int (nI k_1)), (5, .int v5_1), (4, .int v4_1), (3, .int (0 : Int32)), (2, .int (0 : Int32)), (0, .ref h), (1, .int a1)]) hx hb dX9_lacksOf_32 hl (by decide) rfl (fun ls hl => ?_)
      have hE_13 : ∀ (v7_13 : Int32) (H : Heap) (locs : List Loc) (ls : Array Slot), s_X9_lacksOf_c34 σ a1 k_1 v5_1 v4_1 v7_13 = S_1 → va_P D vwCl (WM ca h ad σ) H → va_D A (WM ca h ad σ) → va_S A s.heap H locs → lv_has ls 11 [(9, .int (0 : Int32)), (8, .int (0 : Int32)), (7, .int v7_13), (6, .int (nI k_1)), (5, .int v5_1), (4, .int v4_1), (3, .int (0 : Int32)), (2, .int (0 : Int32)), (0, .ref h), (1, .int a1)] → W p l e ((headSpec wsX9_lacksOf ({ frames := 2, cells := 0, slots := 0, locals := 44 })).room) s m ([.ref h, .int a1] : List Value).toArray below meth c H locs 0 0 QQ (F0 m 97 ls []) := by
        intro v7_13 H locs ls hB_1 hP hD hS hl
        have hB_1 : (s_X9_lacksOf_c100 v5_1 v4_1 v7_13 (iter (s_X9_lacksOf_l100 σ a1 k_1) ((σ 6 0).toNatClampNeg - 0) 0 ((0 : Int32), (0 : Int32)))) = S_1 := hB_1
        refine lv_iconst (v := (0 : Int32)) hx hb dX9_lacksOf_97 (by decide) ?_
        refine lv_istore (lv' := [(10, .int (0 : Int32)), (9, .int (0 : Int32)), (8, .int (0 : Int32)), (7, .int v7_13), (6, .int (nI k_1)), (5, .int v5_1), (4, .int v4_1), (3, .int (0 : Int32)), (2, .int (0 : Int32)), (0, .ref h), (1, .int a1)]) hx hb dX9_lacksOf_98 hl (by decide) rfl (fun ls hl => ?_)
        have hE_14 : ∀ (v9_14 : Int32) (v8_14 : Int32) (H : Heap) (locs : List Loc) (ls : Array Slot), s_X9_lacksOf_c100 v5_1 v4_1 v7_13 (v9_14, v8_14) = S_1 → va_P D vwCl (WM ca h ad σ) H → va_D A (WM ca h ad σ) → va_S A s.heap H locs → lv_has ls 11 [(9, .int v9_14), (8, .int v8_14), (7, .int v7_13), (6, .int (nI k_1)), (5, .int v5_1), (4, .int v4_1), (3, .int (0 : Int32)), (2, .int (0 : Int32)), (0, .ref h), (1, .int a1)] → W p l e ((headSpec wsX9_lacksOf ({ frames := 2, cells := 0, slots := 0, locals := 44 })).room) s m ([.ref h, .int a1] : List Value).toArray below meth c H locs 0 0 QQ (F0 m 186 ls []) := by
          intro v9_14 v8_14 H locs ls hB_1 hP hD hS hl
          have hB_1 : ((v5_1 + (v8_14 - (if v8_14 < v7_13 then v8_14 else v7_13))), (v4_1 + (v9_14 - (if v9_14 < (v7_13 - (if v8_14 < v7_13 then v8_14 else v7_13)) then v9_14 else (v7_13 - (if v8_14 < v7_13 then v8_14 else v7_13)))))) = S_1 := hB_1
          refine lv_iload hx hb dX9_lacksOf_186 (lv_at hl 2 rfl) ?_
          refine lv_iload hx hb dX9_lacksOf_188 (lv_at hl 1 rfl) ?_
          refine va_mmin hx hb (hml.trans hl.1.symm) hown (hts (.methodLink RX9 173 Lib.Math.min.name) (List.mem_cons_of_mem _ mw_1025)) (hts (.static Lib.Math.min.name) (List.mem_cons_of_mem _ mw_588)) (hts (.initialized "java/lang/Math") (List.mem_cons_of_mem _ mw_68)) (hts (.code Lib.Math.min.name Lib.Math.min.code 2 (some .int)) (List.mem_cons_of_mem _ mw_589)) (Nat.le_of_ble_eq_true rfl) (Nat.le_of_ble_eq_true rfl) (Nat.le_of_ble_eq_true rfl) (Nat.le_of_ble_eq_true rfl) dX9_lacksOf_190 ?_
          refine lv_istore (lv' := [(10, .int (if v8_14 < v7_13 then v8_14 else v7_13)), (9, .int v9_14), (8, .int v8_14), (7, .int v7_13), (6, .int (nI k_1)), (5, .int v5_1), (4, .int v4_1), (3, .int (0 : Int32)), (2, .int (0 : Int32)), (0, .ref h), (1, .int a1)]) hx hb dX9_lacksOf_193 hl (by decide) rfl (fun ls hl => ?_)
          refine lv_iload hx hb dX9_lacksOf_195 (lv_at hl 5 rfl) ?_
          refine lv_iload hx hb dX9_lacksOf_197 (lv_at hl 2 rfl) ?_
          refine lv_iload hx hb dX9_lacksOf_199 (lv_at hl 0 rfl) ?_
          refine lv_isub hx hb dX9_lacksOf_201 ?_
          refine lv_iadd hx hb dX9_lacksOf_202 ?_
          refine lv_istore (lv' := [(5, .int (v5_1 + (v8_14 - (if v8_14 < v7_13 then v8_14 else v7_13)))), (10, .int (if v8_14 < v7_13 then v8_14 else v7_13)), (9, .int v9_14), (8, .int v8_14), (7, .int v7_13), (6, .int (nI k_1)), (4, .int v4_1), (3, .int (0 : Int32)), (2, .int (0 : Int32)), (0, .ref h), (1, .int a1)]) hx hb dX9_lacksOf_203 hl (by decide) rfl (fun ls hl => ?_)
          refine lv_iload hx hb dX9_lacksOf_205 (lv_at hl 6 rfl) ?_
          refine lv_iload hx hb dX9_lacksOf_207 (lv_at hl 2 rfl) ?_
          refine lv_iload hx hb dX9_lacksOf_209 (lv_at hl 4 rfl) ?_
          refine lv_iload hx hb dX9_lacksOf_211 (lv_at hl 1 rfl) ?_
          refine lv_isub hx hb dX9_lacksOf_213 ?_
          refine lv_iload hx hb dX9_lacksOf_214 (lv_at hl 2 rfl) ?_
          refine va_mmin hx hb (hml.trans hl.1.symm) hown (hts (.methodLink RX9 173 Lib.Math.min.name) (List.mem_cons_of_mem _ mw_1025)) (hts (.static Lib.Math.min.name) (List.mem_cons_of_mem _ mw_588)) (hts (.initialized "java/lang/Math") (List.mem_cons_of_mem _ mw_68)) (hts (.code Lib.Math.min.name Lib.Math.min.code 2 (some .int)) (List.mem_cons_of_mem _ mw_589)) (Nat.le_of_ble_eq_true rfl) (Nat.le_of_ble_eq_true rfl) (Nat.le_of_ble_eq_true rfl) (Nat.le_of_ble_eq_true rfl) dX9_lacksOf_216 ?_
          refine lv_isub hx hb dX9_lacksOf_219 ?_
          refine lv_iadd hx hb dX9_lacksOf_220 ?_
          refine lv_istore (lv' := [(4, .int (v4_1 + (v9_14 - (if v9_14 < (v7_13 - (if v8_14 < v7_13 then v8_14 else v7_13)) then v9_14 else (v7_13 - (if v8_14 < v7_13 then v8_14 else v7_13)))))), (5, .int (v5_1 + (v8_14 - (if v8_14 < v7_13 then v8_14 else v7_13)))), (10, .int (if v8_14 < v7_13 then v8_14 else v7_13)), (9, .int v9_14), (8, .int v8_14), (7, .int v7_13), (6, .int (nI k_1)), (3, .int (0 : Int32)), (2, .int (0 : Int32)), (0, .ref h), (1, .int a1)]) hx hb dX9_lacksOf_221 hl (by decide) rfl (fun ls hl => ?_)
          refine lv_iinc (v := (nI (k_1 + 1))) (lv' := [(6, .int (nI (k_1 + 1))), (4, .int (v4_1 + (v9_14 - (if v9_14 < (v7_13 - (if v8_14 < v7_13 then v8_14 else v7_13)) then v9_14 else (v7_13 - (if v8_14 < v7_13 then v8_14 else v7_13)))))), (5, .int (v5_1 + (v8_14 - (if v8_14 < v7_13 then v8_14 else v7_13)))), (10, .int (if v8_14 < v7_13 then v8_14 else v7_13)), (9, .int v9_14), (8, .int v8_14), (7, .int v7_13), (3, .int (0 : Int32)), (2, .int (0 : Int32)), (0, .ref h), (1, .int a1)]) hx hb dX9_lacksOf_223 hl (k := 6) rfl (by rw [show Int32.ofInt 1 = 1 from by decide]; exact nI_1 _) (by decide) rfl (fun ls hl => ?_)
          refine lv_goto (tgt := 13) hx hb dX9_lacksOf_226 (by decide) ?_
          subst hB_1
          exact ih (k_1 + 1) (v5_1 + (v8_14 - (if v8_14 < v7_13 then v8_14 else v7_13))) (v4_1 + (v9_14 - (if v9_14 < (v7_13 - (if v8_14 < v7_13 then v8_14 else v7_13)) then v9_14 else (v7_13 - (if v8_14 < v7_13 then v8_14 else v7_13))))) (ge_next hk_1)  _ _ _ hR hP hD hS (lv_sub hl [0, 2, 1, 7, 8, 9, 10] rfl)
        have hL_14 : ∀ (n k_14 : Nat) (v9_14 : Int32) (v8_14 : Int32) (hk_14 : lpk (σ 6 0) k_14 n) (H : Heap) (locs : List Loc) (ls : Array Slot), s_X9_lacksOf_c100 v5_1 v4_1 v7_13 (iter (s_X9_lacksOf_l100 σ a1 k_1) n k_14 (v9_14, v8_14)) = S_1 → va_P D vwCl (WM ca h ad σ) H → va_D A (WM ca h ad σ) → va_S A s.heap H locs → lv_has ls 11 [(10, .int (nI k_14)), (9, .int v9_14), (8, .int v8_14), (7, .int v7_13), (6, .int (nI k_1)), (5, .int v5_1), (4, .int v4_1), (3, .int (0 : Int32)), (2, .int (0 : Int32)), (0, .ref h), (1, .int a1)] → W p l e ((headSpec wsX9_lacksOf ({ frames := 2, cells := 0, slots := 0, locals := 44 })).room) s m ([.ref h, .int a1] : List Value).toArray below meth c H locs 0 0 QQ (F0 m 100 ls []) := by
          intro n
          induction n with
          | zero =>
            intro k_14 v9_14 v8_14 hk_14 H locs ls hB_1 hP hD hS hl
            refine lv_iload hx hb dX9_lacksOf_100 (lv_at hl 0 rfl) ?_
            refine lv_aload_n hx hb dX9_lacksOf_102 rfl (lv_at hl 9 rfl) ?_
            refine va_get (D := D) (ci := 9) (v := .int (σ 6 0)) (C := RX9) (T := TX9) (N := 51) hx hb hts hu9 hown hK hP 0 wm_0 rfl 6 (by decide) (hts (.fieldLink RX9 164 "GrazeBookModel" "herds" "I") (List.mem_cons_of_mem _ mw_789)) (fun _ h9 => h9) rfl dX9_lacksOf_103 ?_
            refine lv_icmp_ge (tgt := 186) hx hb dX9_lacksOf_106 (by decide) (fun _ => ?_) (fun c_15 => absurd (ge_end hk_14) c_15)
            exact hE_14 v9_14 v8_14 _ _ _ hB_1 hP hD hS (lv_sub hl [1, 2, 3, 4, 5, 6, 7, 8, 9, 10] rfl)
          | succ n ih =>
            intro k_14 v9_14 v8_14 hk_14 H locs ls hB_1 hP hD hS hl
            obtain ⟨S_14, hB_14⟩ : ∃ s9, s_X9_lacksOf_l100 σ a1 k_1 k_14 (v9_14, v8_14) = s9 := ⟨_, rfl⟩
            have hB_1 : s_X9_lacksOf_c100 v5_1 v4_1 v7_13 (iter (s_X9_lacksOf_l100 σ a1 k_1) n (k_14 + 1) S_14) = S_1 := by rw [← hB_14]; exact hB_1
            have hB_14 : (if (s_X9_isOut σ (nI k_14)) = (0 : Int32) then (v9_14, v8_14) else (if (σ 35 k_14) = a1 then (if (σ 38 k_14) = (nI k_1) then (if (σ 36 k_14) = (2 : Int32) then ((v9_14 + (s_X9_partsOfHerd σ (nI k_14))), v8_14) else (v9_14, (v8_14 + (s_X9_partsOfHerd σ (nI k_14))))) else (v9_14, v8_14)) else (v9_14, v8_14))) = S_14 := hB_14
            refine lv_iload hx hb dX9_lacksOf_100 (lv_at hl 0 rfl) ?_
            refine lv_aload_n hx hb dX9_lacksOf_102 rfl (lv_at hl 9 rfl) ?_
            refine va_get (D := D) (ci := 9) (v := .int (σ 6 0)) (C := RX9) (T := TX9) (N := 51) hx hb hts hu9 hown hK hP 0 wm_0 rfl 6 (by decide) (hts (.fieldLink RX9 164 "GrazeBookModel" "herds" "I") (List.mem_cons_of_mem _ mw_789)) (fun _ h9 => h9) rfl dX9_lacksOf_103 ?_
            refine lv_icmp_ge (tgt := 186) hx hb dX9_lacksOf_106 (by decide) (fun c_16 => absurd c_16 (ge_go hk_14)) (fun _ => ?_)
            refine lv_aload_n hx hb dX9_lacksOf_109 rfl (lv_at hl 9 rfl) ?_
            refine lv_iload hx hb dX9_lacksOf_110 (lv_at hl 0 rfl) ?_
            have hF := pw_free hD hS hA
            refine va_calli (va_runV (As := [.int (nI k_14)]) (rest := []) ⟨hx, hb, hml, hown, hts⟩ (k_X9_isOut l D ca h ad σ (nI k_14) H.size hI (ix_loop (N := 20) hk_14 (ir_6 hI) (by decide) (by decide)) _ rfl) (cwV 1 hts gX9_lacksOf_X9_isOut rfl rfl rfl (by decide +kernel) ⟨Nat.le_of_ble_eq_true rfl, Nat.le_of_ble_eq_true rfl⟩) ⟨pw_blind, va_recv hK hP (ci := 9) (q0 := 0) rfl wm_0, pw_give hP hK hD⟩ rfl rfl hl.1 rfl (lv_room (Nat.le_of_ble_eq_true rfl)) dX9_lacksOf_112 ⟨Nat.le_of_ble_eq_true rfl, Nat.le_of_ble_eq_true rfl⟩) hS (fun q _ h => hF q h) hF (fun r_17 u t H1 locs ht hvm hw hB hz1 hk1 hS => ?_)
            subst hw
            obtain ⟨hP, hD⟩ := pw_back hF ht hB
            clear hB hk1 hz1 hF
            generalize H1 = H at hP hS ⊢
            refine lv_if_eq (tgt := 180) hx hb dX9_lacksOf_115 (by decide) (fun c_18 => ?_) (fun c_18 => ?_)
            · have hB_14 := (if_pos c_18).symm.trans hB_14
              refine lv_iinc (v := (nI (k_14 + 1))) (lv' := [(10, .int (nI (k_14 + 1))), (9, .int v9_14), (8, .int v8_14), (7, .int v7_13), (6, .int (nI k_1)), (5, .int v5_1), (4, .int v4_1), (3, .int (0 : Int32)), (2, .int (0 : Int32)), (0, .ref h), (1, .int a1)]) hx hb dX9_lacksOf_180 hl (k := 0) rfl (by rw [show Int32.ofInt 1 = 1 from by decide]; exact nI_1 _) (by decide) rfl (fun ls hl => ?_)
              refine lv_goto (tgt := 100) hx hb dX9_lacksOf_183 (by decide) ?_
              subst hB_14
              exact ih (k_14 + 1) v9_14 v8_14 (ge_next hk_14)  _ _ _ hB_1 hP hD hS (lv_sub hl [0, 1, 2, 3, 4, 5, 6, 7, 8, 9, 10] rfl)
            · have hB_14 := (if_neg c_18).symm.trans hB_14
              refine lv_aload_n hx hb dX9_lacksOf_118 rfl (lv_at hl 9 rfl) ?_
              refine va_get (D := D) (ci := 9) (v := .ref (ad 35)) (C := RX9) (T := TX9) (N := 51) hx hb hts hu9 hown hK hP 0 wm_0 rfl 35 (by decide) (hts (.fieldLink RX9 80 "GrazeBookModel" "hOwner" "[I") (List.mem_cons_of_mem _ mw_818)) (fun _ h9 => h9) rfl dX9_lacksOf_119 ?_
              refine lv_iload hx hb dX9_lacksOf_122 (lv_at hl 0 rfl) ?_
              refine va_iald_k (k := k_14) (v := (σ 35 k_14)) hx hb hK hP 24 0 wm_a35 rfl (ix_cl hk_14) rfl (ix_loop (N := 20) hk_14 (ir_6 hI) (by decide) (by decide)) dX9_lacksOf_124 ?_
              refine lv_iload_n hx hb dX9_lacksOf_125 rfl (lv_at hl 10 rfl) ?_
              refine lv_icmp_ne (tgt := 180) hx hb dX9_lacksOf_126 (by decide) (fun c_19 => ?_) (fun c_19 => ?_)
              · have hB_14 := (if_neg c_19).symm.trans hB_14
                refine lv_iinc (v := (nI (k_14 + 1))) (lv' := [(10, .int (nI (k_14 + 1))), (9, .int v9_14), (8, .int v8_14), (7, .int v7_13), (6, .int (nI k_1)), (5, .int v5_1), (4, .int v4_1), (3, .int (0 : Int32)), (2, .int (0 : Int32)), (0, .ref h), (1, .int a1)]) hx hb dX9_lacksOf_180 hl (k := 0) rfl (by rw [show Int32.ofInt 1 = 1 from by decide]; exact nI_1 _) (by decide) rfl (fun ls hl => ?_)
                refine lv_goto (tgt := 100) hx hb dX9_lacksOf_183 (by decide) ?_
                subst hB_14
                exact ih (k_14 + 1) v9_14 v8_14 (ge_next hk_14)  _ _ _ hB_1 hP hD hS (lv_sub hl [0, 1, 2, 3, 4, 5, 6, 7, 8, 9, 10] rfl)
              · have hB_14 := (if_pos c_19).symm.trans hB_14
                refine lv_aload_n hx hb dX9_lacksOf_129 rfl (lv_at hl 9 rfl) ?_
                refine va_get (D := D) (ci := 9) (v := .ref (ad 38)) (C := RX9) (T := TX9) (N := 51) hx hb hts hu9 hown hK hP 0 wm_0 rfl 38 (by decide) (hts (.fieldLink RX9 89 "GrazeBookModel" "hPiece" "[I") (List.mem_cons_of_mem _ mw_821)) (fun _ h9 => h9) rfl dX9_lacksOf_130 ?_
                refine lv_iload hx hb dX9_lacksOf_133 (lv_at hl 0 rfl) ?_
                refine va_iald_k (k := k_14) (v := (σ 38 k_14)) hx hb hK hP 27 0 wm_a38 rfl (ix_cl hk_14) rfl (ix_loop (N := 20) hk_14 (ir_6 hI) (by decide) (by decide)) dX9_lacksOf_135 ?_
                refine lv_iload hx hb dX9_lacksOf_136 (lv_at hl 4 rfl) ?_
                refine lv_icmp_eq (tgt := 144) hx hb dX9_lacksOf_138 (by decide) (fun c_20 => ?_) (fun c_20 => ?_)
                · have hB_14 := (if_pos c_20).symm.trans hB_14
                  refine lv_aload_n hx hb dX9_lacksOf_144 rfl (lv_at hl 9 rfl) ?_
                  refine va_get (D := D) (ci := 9) (v := .ref (ad 36)) (C := RX9) (T := TX9) (N := 51) hx hb hts hu9 hown hK hP 0 wm_0 rfl 36 (by decide) (hts (.fieldLink RX9 83 "GrazeBookModel" "hSort" "[I") (List.mem_cons_of_mem _ mw_819)) (fun _ h9 => h9) rfl dX9_lacksOf_145 ?_
                  refine lv_iload hx hb dX9_lacksOf_148 (lv_at hl 0 rfl) ?_
                  refine va_iald_k (k := k_14) (v := (σ 36 k_14)) hx hb hK hP 25 0 wm_a36 rfl (ix_cl hk_14) rfl (ix_loop (N := 20) hk_14 (ir_6 hI) (by decide) (by decide)) dX9_lacksOf_150 ?_
                  refine lv_iconst (v := (2 : Int32)) hx hb dX9_lacksOf_151 (by decide) ?_
                  refine lv_icmp_ne (tgt := 169) hx hb dX9_lacksOf_152 (by decide) (fun c_21 => ?_) (fun c_21 => ?_)
                  · have hB_14 := (if_neg c_21).symm.trans hB_14
                    refine lv_iload hx hb dX9_lacksOf_169 (lv_at hl 2 rfl) ?_
                    refine lv_aload_n hx hb dX9_lacksOf_171 rfl (lv_at hl 9 rfl) ?_
                    refine lv_iload hx hb dX9_lacksOf_172 (lv_at hl 0 rfl) ?_
                    have hF := pw_free hD hS hA
                    refine va_calli (va_runV (As := [.int (nI k_14)]) (rest := [.int v8_14]) ⟨hx, hb, hml, hown, hts⟩ (k_X9_partsOfHerd l D ca h ad σ (nI k_14) H.size hI (ix_loop (N := 20) hk_14 (ir_6 hI) (by decide) (by decide)) _ rfl) (cwV 1 hts gX9_lacksOf_X9_partsOfHerd rfl rfl rfl (by decide +kernel) ⟨Nat.le_of_ble_eq_true rfl, Nat.le_of_ble_eq_true rfl⟩) ⟨pw_blind, va_recv hK hP (ci := 9) (q0 := 0) rfl wm_0, pw_give hP hK hD⟩ rfl rfl hl.1 rfl (lv_room (Nat.le_of_ble_eq_true rfl)) dX9_lacksOf_174 ⟨Nat.le_of_ble_eq_true rfl, Nat.le_of_ble_eq_true rfl⟩) hS (fun q _ h => hF q h) hF (fun r_22 u t H1 locs ht hvm hw hB hz1 hk1 hS => ?_)
                    subst hw
                    obtain ⟨hP, hD⟩ := pw_back hF ht hB
                    clear hB hk1 hz1 hF
                    generalize H1 = H at hP hS ⊢
                    refine lv_iadd hx hb dX9_lacksOf_177 ?_
                    refine lv_istore (lv' := [(8, .int (v8_14 + (s_X9_partsOfHerd σ (nI k_14)))), (10, .int (nI k_14)), (9, .int v9_14), (7, .int v7_13), (6, .int (nI k_1)), (5, .int v5_1), (4, .int v4_1), (3, .int (0 : Int32)), (2, .int (0 : Int32)), (0, .ref h), (1, .int a1)]) hx hb dX9_lacksOf_178 hl (by decide) rfl (fun ls hl => ?_)
                    refine lv_iinc (v := (nI (k_14 + 1))) (lv' := [(10, .int (nI (k_14 + 1))), (8, .int (v8_14 + (s_X9_partsOfHerd σ (nI k_14)))), (9, .int v9_14), (7, .int v7_13), (6, .int (nI k_1)), (5, .int v5_1), (4, .int v4_1), (3, .int (0 : Int32)), (2, .int (0 : Int32)), (0, .ref h), (1, .int a1)]) hx hb dX9_lacksOf_180 hl (k := 1) rfl (by rw [show Int32.ofInt 1 = 1 from by decide]; exact nI_1 _) (by decide) rfl (fun ls hl => ?_)
                    refine lv_goto (tgt := 100) hx hb dX9_lacksOf_183 (by decide) ?_
                    subst hB_14
                    exact ih (k_14 + 1) v9_14 (v8_14 + (s_X9_partsOfHerd σ (nI k_14))) (ge_next hk_14)  _ _ _ hB_1 hP hD hS (lv_sub hl [0, 2, 1, 3, 4, 5, 6, 7, 8, 9, 10] rfl)
                  · have hB_14 := (if_pos c_21).symm.trans hB_14
                    refine lv_iload hx hb dX9_lacksOf_155 (lv_at hl 1 rfl) ?_
                    refine lv_aload_n hx hb dX9_lacksOf_157 rfl (lv_at hl 9 rfl) ?_
                    refine lv_iload hx hb dX9_lacksOf_158 (lv_at hl 0 rfl) ?_
                    have hF := pw_free hD hS hA
                    refine va_calli (va_runV (As := [.int (nI k_14)]) (rest := [.int v9_14]) ⟨hx, hb, hml, hown, hts⟩ (k_X9_partsOfHerd l D ca h ad σ (nI k_14) H.size hI (ix_loop (N := 20) hk_14 (ir_6 hI) (by decide) (by decide)) _ rfl) (cwV 1 hts gX9_lacksOf_X9_partsOfHerd rfl rfl rfl (by decide +kernel) ⟨Nat.le_of_ble_eq_true rfl, Nat.le_of_ble_eq_true rfl⟩) ⟨pw_blind, va_recv hK hP (ci := 9) (q0 := 0) rfl wm_0, pw_give hP hK hD⟩ rfl rfl hl.1 rfl (lv_room (Nat.le_of_ble_eq_true rfl)) dX9_lacksOf_160 ⟨Nat.le_of_ble_eq_true rfl, Nat.le_of_ble_eq_true rfl⟩) hS (fun q _ h => hF q h) hF (fun r_23 u t H1 locs ht hvm hw hB hz1 hk1 hS => ?_)
                    subst hw
                    obtain ⟨hP, hD⟩ := pw_back hF ht hB
                    clear hB hk1 hz1 hF
                    generalize H1 = H at hP hS ⊢
                    refine lv_iadd hx hb dX9_lacksOf_163 ?_
                    refine lv_istore (lv' := [(9, .int (v9_14 + (s_X9_partsOfHerd σ (nI k_14)))), (10, .int (nI k_14)), (8, .int v8_14), (7, .int v7_13), (6, .int (nI k_1)), (5, .int v5_1), (4, .int v4_1), (3, .int (0 : Int32)), (2, .int (0 : Int32)), (0, .ref h), (1, .int a1)]) hx hb dX9_lacksOf_164 hl (by decide) rfl (fun ls hl => ?_)
                    refine lv_goto (tgt := 180) hx hb dX9_lacksOf_166 (by decide) ?_
                    refine lv_iinc (v := (nI (k_14 + 1))) (lv' := [(10, .int (nI (k_14 + 1))), (9, .int (v9_14 + (s_X9_partsOfHerd σ (nI k_14)))), (8, .int v8_14), (7, .int v7_13), (6, .int (nI k_1)), (5, .int v5_1), (4, .int v4_1), (3, .int (0 : Int32)), (2, .int (0 : Int32)), (0, .ref h), (1, .int a1)]) hx hb dX9_lacksOf_180 hl (k := 1) rfl (by rw [show Int32.ofInt 1 = 1 from by decide]; exact nI_1 _) (by decide) rfl (fun ls hl => ?_)
                    refine lv_goto (tgt := 100) hx hb dX9_lacksOf_183 (by decide) ?_
                    subst hB_14
                    exact ih (k_14 + 1) (v9_14 + (s_X9_partsOfHerd σ (nI k_14))) v8_14 (ge_next hk_14)  _ _ _ hB_1 hP hD hS (lv_sub hl [0, 1, 2, 3, 4, 5, 6, 7, 8, 9, 10] rfl)
                · have hB_14 := (if_neg c_20).symm.trans hB_14
                  refine lv_goto (tgt := 180) hx hb dX9_lacksOf_141 (by decide) ?_
                  refine lv_iinc (v := (nI (k_14 + 1))) (lv' := [(10, .int (nI (k_14 + 1))), (9, .int v9_14), (8, .int v8_14), (7, .int v7_13), (6, .int (nI k_1)), (5, .int v5_1), (4, .int v4_1), (3, .int (0 : Int32)), (2, .int (0 : Int32)), (0, .ref h), (1, .int a1)]) hx hb dX9_lacksOf_180 hl (k := 0) rfl (by rw [show Int32.ofInt 1 = 1 from by decide]; exact nI_1 _) (by decide) rfl (fun ls hl => ?_)
                  refine lv_goto (tgt := 100) hx hb dX9_lacksOf_183 (by decide) ?_
                  subst hB_14
                  exact ih (k_14 + 1) v9_14 v8_14 (ge_next hk_14)  _ _ _ hB_1 hP hD hS (lv_sub hl [0, 1, 2, 3, 4, 5, 6, 7, 8, 9, 10] rfl)
        exact hL_14 _ 0 (0 : Int32) (0 : Int32) ⟨rfl, by decide⟩  _ _ _ hB_1 hP hD hS (lv_sub hl [0, 1, 2, 3, 4, 5, 6, 7, 8, 9, 10] rfl)
      have hL_13 : ∀ (n k_13 : Nat) (v7_13 : Int32) (hk_13 : lpk (σ 5 0) k_13 n) (H : Heap) (locs : List Loc) (ls : Array Slot), s_X9_lacksOf_c34 σ a1 k_1 v5_1 v4_1 (iter (s_X9_lacksOf_l34 σ a1 k_1) n k_13 v7_13) = S_1 → va_P D vwCl (WM ca h ad σ) H → va_D A (WM ca h ad σ) → va_S A s.heap H locs → lv_has ls 11 [(10, .int (nI k_13)), (9, .int (0 : Int32)), (8, .int (0 : Int32)), (7, .int v7_13), (6, .int (nI k_1)), (5, .int v5_1), (4, .int v4_1), (3, .int (0 : Int32)), (2, .int (0 : Int32)), (0, .ref h), (1, .int a1)] → W p l e ((headSpec wsX9_lacksOf ({ frames := 2, cells := 0, slots := 0, locals := 44 })).room) s m ([.ref h, .int a1] : List Value).toArray below meth c H locs 0 0 QQ (F0 m 34 ls []) := by
        intro n
        induction n with
        | zero =>
          intro k_13 v7_13 hk_13 H locs ls hB_1 hP hD hS hl
          refine lv_iload hx hb dX9_lacksOf_34 (lv_at hl 0 rfl) ?_
          refine lv_aload_n hx hb dX9_lacksOf_36 rfl (lv_at hl 9 rfl) ?_
          refine va_get (D := D) (ci := 9) (v := .int (σ 5 0)) (C := RX9) (T := TX9) (N := 51) hx hb hts hu9 hown hK hP 0 wm_0 rfl 5 (by decide) (hts (.fieldLink RX9 148 "GrazeBookModel" "rights" "I") (List.mem_cons_of_mem _ mw_788)) (fun _ h9 => h9) rfl dX9_lacksOf_37 ?_
          refine lv_icmp_ge (tgt := 97) hx hb dX9_lacksOf_40 (by decide) (fun _ => ?_) (fun c_24 => absurd (ge_end hk_13) c_24)
          exact hE_13 v7_13 _ _ _ hB_1 hP hD hS (lv_sub hl [1, 2, 3, 4, 5, 6, 7, 8, 9, 10] rfl)
        | succ n ih =>
          intro k_13 v7_13 hk_13 H locs ls hB_1 hP hD hS hl
          obtain ⟨S_13, hB_13⟩ : ∃ s9, s_X9_lacksOf_l34 σ a1 k_1 k_13 v7_13 = s9 := ⟨_, rfl⟩
          have hB_1 : s_X9_lacksOf_c34 σ a1 k_1 v5_1 v4_1 (iter (s_X9_lacksOf_l34 σ a1 k_1) n (k_13 + 1) S_13) = S_1 := by rw [← hB_13]; exact hB_1
          have hB_13 : (if (σ 25 k_13) = (3 : Int32) then (if (σ 30 k_13) = (nI k_1) then (if (s_X9_ownerOfRight σ (nI k_13)) = a1 then (v7_13 + (s_X9_partsOf σ (nI k_13))) else (v7_13 + (0 : Int32))) else (v7_13 + (0 : Int32))) else (v7_13 + (0 : Int32))) = S_13 := hB_13
          refine lv_iload hx hb dX9_lacksOf_34 (lv_at hl 0 rfl) ?_
          refine lv_aload_n hx hb dX9_lacksOf_36 rfl (lv_at hl 9 rfl) ?_
          refine va_get (D := D) (ci := 9) (v := .int (σ 5 0)) (C := RX9) (T := TX9) (N := 51) hx hb hts hu9 hown hK hP 0 wm_0 rfl 5 (by decide) (hts (.fieldLink RX9 148 "GrazeBookModel" "rights" "I") (List.mem_cons_of_mem _ mw_788)) (fun _ h9 => h9) rfl dX9_lacksOf_37 ?_
          refine lv_icmp_ge (tgt := 97) hx hb dX9_lacksOf_40 (by decide) (fun c_25 => absurd c_25 (ge_go hk_13)) (fun _ => ?_)
          refine lv_iload hx hb dX9_lacksOf_43 (lv_at hl 3 rfl) ?_
          refine lv_aload_n hx hb dX9_lacksOf_45 rfl (lv_at hl 9 rfl) ?_
          refine va_get (D := D) (ci := 9) (v := .ref (ad 25)) (C := RX9) (T := TX9) (N := 51) hx hb hts hu9 hown hK hP 0 wm_0 rfl 25 (by decide) (hts (.fieldLink RX9 50 "GrazeBookModel" "rKind" "[I") (List.mem_cons_of_mem _ mw_808)) (fun _ h9 => h9) rfl dX9_lacksOf_46 ?_
          refine lv_iload hx hb dX9_lacksOf_49 (lv_at hl 0 rfl) ?_
          refine va_iald_k (k := k_13) (v := (σ 25 k_13)) hx hb hK hP 14 0 wm_a25 rfl (ix_cl hk_13) rfl (ix_loop (N := 60) hk_13 (ir_5 hI) (by decide) (by decide)) dX9_lacksOf_51 ?_
          refine lv_iconst (v := (3 : Int32)) hx hb dX9_lacksOf_52 (by decide) ?_
          refine lv_icmp_ne (tgt := 87) hx hb dX9_lacksOf_53 (by decide) (fun c_26 => ?_) (fun c_26 => ?_)
          · have hB_13 := (if_neg c_26).symm.trans hB_13
            refine lv_iconst (v := (0 : Int32)) hx hb dX9_lacksOf_87 (by decide) ?_
            refine lv_iadd hx hb dX9_lacksOf_88 ?_
            refine lv_istore (lv' := [(7, .int (v7_13 + (0 : Int32))), (10, .int (nI k_13)), (9, .int (0 : Int32)), (8, .int (0 : Int32)), (6, .int (nI k_1)), (5, .int v5_1), (4, .int v4_1), (3, .int (0 : Int32)), (2, .int (0 : Int32)), (0, .ref h), (1, .int a1)]) hx hb dX9_lacksOf_89 hl (by decide) rfl (fun ls hl => ?_)
            refine lv_iinc (v := (nI (k_13 + 1))) (lv' := [(10, .int (nI (k_13 + 1))), (7, .int (v7_13 + (0 : Int32))), (9, .int (0 : Int32)), (8, .int (0 : Int32)), (6, .int (nI k_1)), (5, .int v5_1), (4, .int v4_1), (3, .int (0 : Int32)), (2, .int (0 : Int32)), (0, .ref h), (1, .int a1)]) hx hb dX9_lacksOf_91 hl (k := 1) rfl (by rw [show Int32.ofInt 1 = 1 from by decide]; exact nI_1 _) (by decide) rfl (fun ls hl => ?_)
            refine lv_goto (tgt := 34) hx hb dX9_lacksOf_94 (by decide) ?_
            subst hB_13
            exact ih (k_13 + 1) (v7_13 + (0 : Int32)) (ge_next hk_13)  _ _ _ hB_1 hP hD hS (lv_sub hl [0, 2, 3, 1, 4, 5, 6, 7, 8, 9, 10] rfl)
          · have hB_13 := (if_pos c_26).symm.trans hB_13
            refine lv_aload_n hx hb dX9_lacksOf_56 rfl (lv_at hl 9 rfl) ?_
            refine va_get (D := D) (ci := 9) (v := .ref (ad 30)) (C := RX9) (T := TX9) (N := 51) hx hb hts hu9 hown hK hP 0 wm_0 rfl 30 (by decide) (hts (.fieldLink RX9 65 "GrazeBookModel" "rPiece" "[I") (List.mem_cons_of_mem _ mw_813)) (fun _ h9 => h9) rfl dX9_lacksOf_57 ?_
            refine lv_iload hx hb dX9_lacksOf_60 (lv_at hl 0 rfl) ?_
            refine va_iald_k (k := k_13) (v := (σ 30 k_13)) hx hb hK hP 19 0 wm_a30 rfl (ix_cl hk_13) rfl (ix_loop (N := 60) hk_13 (ir_5 hI) (by decide) (by decide)) dX9_lacksOf_62 ?_
            refine lv_iload hx hb dX9_lacksOf_63 (lv_at hl 4 rfl) ?_
            refine lv_icmp_ne (tgt := 87) hx hb dX9_lacksOf_65 (by decide) (fun c_27 => ?_) (fun c_27 => ?_)
            · have hB_13 := (if_neg c_27).symm.trans hB_13
              refine lv_iconst (v := (0 : Int32)) hx hb dX9_lacksOf_87 (by decide) ?_
              refine lv_iadd hx hb dX9_lacksOf_88 ?_
              refine lv_istore (lv' := [(7, .int (v7_13 + (0 : Int32))), (10, .int (nI k_13)), (9, .int (0 : Int32)), (8, .int (0 : Int32)), (6, .int (nI k_1)), (5, .int v5_1), (4, .int v4_1), (3, .int (0 : Int32)), (2, .int (0 : Int32)), (0, .ref h), (1, .int a1)]) hx hb dX9_lacksOf_89 hl (by decide) rfl (fun ls hl => ?_)
              refine lv_iinc (v := (nI (k_13 + 1))) (lv' := [(10, .int (nI (k_13 + 1))), (7, .int (v7_13 + (0 : Int32))), (9, .int (0 : Int32)), (8, .int (0 : Int32)), (6, .int (nI k_1)), (5, .int v5_1), (4, .int v4_1), (3, .int (0 : Int32)), (2, .int (0 : Int32)), (0, .ref h), (1, .int a1)]) hx hb dX9_lacksOf_91 hl (k := 1) rfl (by rw [show Int32.ofInt 1 = 1 from by decide]; exact nI_1 _) (by decide) rfl (fun ls hl => ?_)
              refine lv_goto (tgt := 34) hx hb dX9_lacksOf_94 (by decide) ?_
              subst hB_13
              exact ih (k_13 + 1) (v7_13 + (0 : Int32)) (ge_next hk_13)  _ _ _ hB_1 hP hD hS (lv_sub hl [0, 2, 3, 1, 4, 5, 6, 7, 8, 9, 10] rfl)
            · have hB_13 := (if_pos c_27).symm.trans hB_13
              refine lv_aload_n hx hb dX9_lacksOf_68 rfl (lv_at hl 9 rfl) ?_
              refine lv_iload hx hb dX9_lacksOf_69 (lv_at hl 0 rfl) ?_
              have hF := pw_free hD hS hA
              refine va_calli (va_runV (As := [.int (nI k_13)]) (rest := [.int v7_13]) ⟨hx, hb, hml, hown, hts⟩ (k_X9_ownerOfRight l D ca h ad σ (nI k_13) H.size hI (ix_loop (N := 60) hk_13 (ir_5 hI) (by decide) (by decide)) _ rfl) (cwV 1 hts gX9_lacksOf_X9_ownerOfRight rfl rfl rfl (by decide +kernel) ⟨Nat.le_of_ble_eq_true rfl, Nat.le_of_ble_eq_true rfl⟩) ⟨pw_blind, va_recv hK hP (ci := 9) (q0 := 0) rfl wm_0, pw_give hP hK hD⟩ rfl rfl hl.1 rfl (lv_room (Nat.le_of_ble_eq_true rfl)) dX9_lacksOf_71 ⟨Nat.le_of_ble_eq_true rfl, Nat.le_of_ble_eq_true rfl⟩) hS (fun q _ h => hF q h) hF (fun r_28 u t H1 locs ht hvm hw hB hz1 hk1 hS => ?_)
              subst hw
              obtain ⟨hP, hD⟩ := pw_back hF ht hB
              clear hB hk1 hz1 hF
              generalize H1 = H at hP hS ⊢
              refine lv_iload_n hx hb dX9_lacksOf_74 rfl (lv_at hl 10 rfl) ?_
              refine lv_icmp_ne (tgt := 87) hx hb dX9_lacksOf_75 (by decide) (fun c_29 => ?_) (fun c_29 => ?_)
              · have hB_13 := (if_neg c_29).symm.trans hB_13
                refine lv_iconst (v := (0 : Int32)) hx hb dX9_lacksOf_87 (by decide) ?_
                refine lv_iadd hx hb dX9_lacksOf_88 ?_
                refine lv_istore (lv' := [(7, .int (v7_13 + (0 : Int32))), (10, .int (nI k_13)), (9, .int (0 : Int32)), (8, .int (0 : Int32)), (6, .int (nI k_1)), (5, .int v5_1), (4, .int v4_1), (3, .int (0 : Int32)), (2, .int (0 : Int32)), (0, .ref h), (1, .int a1)]) hx hb dX9_lacksOf_89 hl (by decide) rfl (fun ls hl => ?_)
                refine lv_iinc (v := (nI (k_13 + 1))) (lv' := [(10, .int (nI (k_13 + 1))), (7, .int (v7_13 + (0 : Int32))), (9, .int (0 : Int32)), (8, .int (0 : Int32)), (6, .int (nI k_1)), (5, .int v5_1), (4, .int v4_1), (3, .int (0 : Int32)), (2, .int (0 : Int32)), (0, .ref h), (1, .int a1)]) hx hb dX9_lacksOf_91 hl (k := 1) rfl (by rw [show Int32.ofInt 1 = 1 from by decide]; exact nI_1 _) (by decide) rfl (fun ls hl => ?_)
                refine lv_goto (tgt := 34) hx hb dX9_lacksOf_94 (by decide) ?_
                subst hB_13
                exact ih (k_13 + 1) (v7_13 + (0 : Int32)) (ge_next hk_13)  _ _ _ hB_1 hP hD hS (lv_sub hl [0, 2, 3, 1, 4, 5, 6, 7, 8, 9, 10] rfl)
              · have hB_13 := (if_pos c_29).symm.trans hB_13
                refine lv_aload_n hx hb dX9_lacksOf_78 rfl (lv_at hl 9 rfl) ?_
                refine lv_iload hx hb dX9_lacksOf_79 (lv_at hl 0 rfl) ?_
                have hF := pw_free hD hS hA
                refine va_calli (va_runV (As := [.int (nI k_13)]) (rest := [.int v7_13]) ⟨hx, hb, hml, hown, hts⟩ (k_X9_partsOf l D ca h ad σ (nI k_13) H.size hI (ix_loop (N := 60) hk_13 (ir_5 hI) (by decide) (by decide)) _ rfl) (cwV 1 hts gX9_lacksOf_X9_partsOf rfl rfl rfl (by decide +kernel) ⟨Nat.le_of_ble_eq_true rfl, Nat.le_of_ble_eq_true rfl⟩) ⟨pw_blind, va_recv hK hP (ci := 9) (q0 := 0) rfl wm_0, pw_give hP hK hD⟩ rfl rfl hl.1 rfl (lv_room (Nat.le_of_ble_eq_true rfl)) dX9_lacksOf_81 ⟨Nat.le_of_ble_eq_true rfl, Nat.le_of_ble_eq_true rfl⟩) hS (fun q _ h => hF q h) hF (fun r_30 u t H1 locs ht hvm hw hB hz1 hk1 hS => ?_)
                subst hw
                obtain ⟨hP, hD⟩ := pw_back hF ht hB
                clear hB hk1 hz1 hF
                generalize H1 = H at hP hS ⊢
                refine lv_goto (tgt := 88) hx hb dX9_lacksOf_84 (by decide) ?_
                refine lv_iadd hx hb dX9_lacksOf_88 ?_
                refine lv_istore (lv' := [(7, .int (v7_13 + (s_X9_partsOf σ (nI k_13)))), (10, .int (nI k_13)), (9, .int (0 : Int32)), (8, .int (0 : Int32)), (6, .int (nI k_1)), (5, .int v5_1), (4, .int v4_1), (3, .int (0 : Int32)), (2, .int (0 : Int32)), (0, .ref h), (1, .int a1)]) hx hb dX9_lacksOf_89 hl (by decide) rfl (fun ls hl => ?_)
                refine lv_iinc (v := (nI (k_13 + 1))) (lv' := [(10, .int (nI (k_13 + 1))), (7, .int (v7_13 + (s_X9_partsOf σ (nI k_13)))), (9, .int (0 : Int32)), (8, .int (0 : Int32)), (6, .int (nI k_1)), (5, .int v5_1), (4, .int v4_1), (3, .int (0 : Int32)), (2, .int (0 : Int32)), (0, .ref h), (1, .int a1)]) hx hb dX9_lacksOf_91 hl (k := 1) rfl (by rw [show Int32.ofInt 1 = 1 from by decide]; exact nI_1 _) (by decide) rfl (fun ls hl => ?_)
                refine lv_goto (tgt := 34) hx hb dX9_lacksOf_94 (by decide) ?_
                subst hB_13
                exact ih (k_13 + 1) (v7_13 + (s_X9_partsOf σ (nI k_13))) (ge_next hk_13)  _ _ _ hB_1 hP hD hS (lv_sub hl [0, 2, 3, 1, 4, 5, 6, 7, 8, 9, 10] rfl)
      exact hL_13 _ 0 (0 : Int32) ⟨rfl, by decide⟩  _ _ _ hB_1 hP hD hS (lv_sub hl [0, 1, 2, 3, 4, 5, 6, 7, 8, 9, 10] rfl)
  exact hL_1 _ 0 (0 : Int32) (0 : Int32) ⟨rfl, by decide⟩  _ _ _ hR hP hD hS (lv_sub hl [0, 1, 2, 3, 4, 5, 6] rfl)

def s_X9_put (σ : St) (a1 : Int32) (a2 : Int32) : Int32 × St := (if (s_X9_isIn a1 (σ 6 0)) = (0 : Int32) then (((s_X9_refuse σ (-1 : Int32)).1), (s_X9_refuse σ (-1 : Int32)).2) else (if (s_X9_isIn a2 (σ 2 0)) = (0 : Int32) then (((s_X9_refuse σ (-1 : Int32)).1), (s_X9_refuse σ (-1 : Int32)).2) else (if (σ 41 (a1.toNatClampNeg)) = (0 : Int32) then (if (0 : Int32) ≤ (σ 38 (a1.toNatClampNeg)) then (((s_X9_refuse σ (-3 : Int32)).1), (s_X9_refuse σ (-3 : Int32)).2) else (if (s_X9_rests σ a2) = (0 : Int32) then (if (s_X9_lacksOf (put σ 38 (a1.toNatClampNeg) a2) (σ 35 (a1.toNatClampNeg))) ≤ (0 : Int32) then ((1 : Int32), (put (put (put σ 38 (a1.toNatClampNeg) a2) 39 (a1.toNatClampNeg) (σ 7 0)) 7 0 ((σ 7 0) + (1 : Int32)))) else (((s_X9_refuse (put (put σ 38 (a1.toNatClampNeg) a2) 38 (a1.toNatClampNeg) (-1 : Int32)) (-5 : Int32)).1), (s_X9_refuse (put (put σ 38 (a1.toNatClampNeg) a2) 38 (a1.toNatClampNeg) (-1 : Int32)) (-5 : Int32)).2)) else (((s_X9_refuse σ (-3 : Int32)).1), (s_X9_refuse σ (-3 : Int32)).2))) else (((s_X9_refuse σ (-3 : Int32)).1), (s_X9_refuse σ (-3 : Int32)).2))))
theorem fr_s_X9_put (σ : St) (a1 : Int32) (a2 : Int32) {f : Nat} (h0 : f ≠ 0) (h7 : f ≠ 7) (h38 : f ≠ 38) (h39 : f ≠ 39) : (s_X9_put σ a1 a2 ).2 f = σ f := by
  unfold s_X9_put
  all_goals ((try dsimp only) <;> ((repeat' split) <;> (try simp only [put_fr, ne_eq, not_false_eq_true, h0, h7, h38, h39, fr_s_X9_refuse])))
set_option maxHeartbeats 1000000 in
set_option maxRecDepth 100000 in
theorem k_X9_put (l : Launch) (D : va_G) (ca : Nat → ClassId) (h : Nat) (ad : Nat → Nat) (σ : St) (a1 : Int32) (a2 : Int32) (sz : Nat) (hI : IR σ)  (R : Int32 × St) (hR : s_X9_put σ a1 a2 = R) : Met l yX9_put wsX9_put ({ frames := 3, cells := 0, slots := 0, locals := 74 }) (va_Pc [.ref h, .int a1, .int a2] (pw_pre D ca (WM ca h ad σ) sz)) (va_Qi (fun (r : Int32) (_ : Unit) => r = R.1) (fun (_ : Unit) (t : State) => pw_post D ca (WM ca h ad σ) sz (WM ca h ad (R.2)) t ∧ IR R.2) (va_A (WM ca h ad σ) sz)) 0 0 (va_A (WM ca h ad σ) sz) := by
  refine Met.ofW (cc := cX9_put) (maxL := 3) (ret := (some .int)) (by decide) rfl ?_
  intro p e s m args below meth c s₁ B hml hv
  obtain ⟨rfl, hsz, hP, hK, hD0⟩ := hv
  have hx := B.exec
  have hb := B.bytes
  have hr := B.returns
  have hts := atoms_spec (ws := wsX9_put) B.pre
  have hown : s.vm.findClass RX9 = some m.cls := findClass_of_methodNamed B.named
  have hlocks := B.notSynchronized
  have hu9 : ∀ w ∈ u_ws RX9 TX9 51, w ∈ wsX9_put := fun w h => List.mem_cons_of_mem _ (uw9 w h)
  subst hsz
  have hD := hD0.self (sz := s.heap.size)
  obtain ⟨A, hAe⟩ : ∃ A, A = va_A (WM ca h ad σ) s.heap.size := ⟨_, rfl⟩
  rw [← hAe] at hD ⊢
  have hA : ∀ q : Nat, s.heap.size ≤ q → A q := fun q h => by rw [hAe]; exact Or.inr h
  have hS : va_S A s.heap s.heap [] := va_S.rf
  have hl := lv_entry ([.ref h, .int a1, .int a2]) (n := 3) (Nat.le_of_ble_eq_true rfl)
  rw [lg_entry_eq]
  generalize (lg_sl ([.ref h, .int a1, .int a2]) ++ List.replicate (3 - (lg_sl ([.ref h, .int a1, .int a2])).length) Slot.unset).toArray = ls at hl ⊢
  have hl : lv_has ls 3 [(0, .ref h), (1, .int a1), (2, .int a2)] := hl
  obtain ⟨H, hH⟩ : ∃ H, H = s.heap := ⟨_, rfl⟩
  have hP : va_P D vwCl (WM ca h ad σ) H := by rw [hH]; exact hP
  have hS : va_S A s.heap H [] := by rw [hH]; exact hS
  obtain ⟨QQ, hQ⟩ : ∃ Q9, Q9 = MQ below (va_Qi (fun (r : Int32) (_ : Unit) => r = R.1) (fun (_ : Unit) (t : State) => pw_post D ca (WM ca h ad σ) s.heap.size (WM ca h ad (R.2)) t ∧ IR R.2) A) ([.ref h, .int a1, .int a2] : List Value).toArray s 0 0 A := ⟨_, rfl⟩
  rw [← hQ]
  show W _ _ _ _ _ _ _ _ _ _ s.heap _ _ _ _ _
  rw [← hH]
  have hR : (if (s_X9_isIn a1 (σ 6 0)) = (0 : Int32) then (((s_X9_refuse σ (-1 : Int32)).1), (s_X9_refuse σ (-1 : Int32)).2) else (if (s_X9_isIn a2 (σ 2 0)) = (0 : Int32) then (((s_X9_refuse σ (-1 : Int32)).1), (s_X9_refuse σ (-1 : Int32)).2) else (if (σ 41 (a1.toNatClampNeg)) = (0 : Int32) then (if (0 : Int32) ≤ (σ 38 (a1.toNatClampNeg)) then (((s_X9_refuse σ (-3 : Int32)).1), (s_X9_refuse σ (-3 : Int32)).2) else (if (s_X9_rests σ a2) = (0 : Int32) then (if (s_X9_lacksOf (put σ 38 (a1.toNatClampNeg) a2) (σ 35 (a1.toNatClampNeg))) ≤ (0 : Int32) then ((1 : Int32), (put (put (put σ 38 (a1.toNatClampNeg) a2) 39 (a1.toNatClampNeg) (σ 7 0)) 7 0 ((σ 7 0) + (1 : Int32)))) else (((s_X9_refuse (put (put σ 38 (a1.toNatClampNeg) a2) 38 (a1.toNatClampNeg) (-1 : Int32)) (-5 : Int32)).1), (s_X9_refuse (put (put σ 38 (a1.toNatClampNeg) a2) 38 (a1.toNatClampNeg) (-1 : Int32)) (-5 : Int32)).2)) else (((s_X9_refuse σ (-3 : Int32)).1), (s_X9_refuse σ (-3 : Int32)).2))) else (((s_X9_refuse σ (-3 : Int32)).1), (s_X9_refuse σ (-3 : Int32)).2)))) = R := hR
  refine lv_iload_n hx hb dX9_put_0 rfl (lv_at hl 1 rfl) ?_
  refine lv_aload_n hx hb dX9_put_1 rfl (lv_at hl 0 rfl) ?_
  refine va_get (D := D) (ci := 9) (v := .int (σ 6 0)) (C := RX9) (T := TX9) (N := 51) hx hb hts hu9 hown hK hP 0 wm_0 rfl 6 (by decide) (hts (.fieldLink RX9 164 "GrazeBookModel" "herds" "I") (List.mem_cons_of_mem _ mw_789)) (fun _ h9 => h9) rfl dX9_put_2 ?_
  have hF := pw_free (pn_D (A := A)) hS hA
  refine va_calli (va_runS (As := [.int a1, .int (σ 6 0)]) (rest := []) ⟨hx, hb, hml, hown, hts⟩ (k_X9_isIn l D ca a1 (σ 6 0) H.size _ rfl) (va_cwS 2 hts gX9_put_X9_isIn rfl rfl rfl (by decide +kernel) ⟨Nat.le_of_ble_eq_true rfl, Nat.le_of_ble_eq_true rfl⟩) ⟨pw_blind, pw_give pn_P hK (pn_D (A := A))⟩ rfl rfl hl.1 rfl (lv_room (Nat.le_of_ble_eq_true rfl)) dX9_put_5 ⟨Nat.le_of_ble_eq_true rfl, Nat.le_of_ble_eq_true rfl⟩) hS (fun q _ h => hF q h) hF (fun r_1 u t H1 locs ht hvm hw hB hz1 hk1 hS => ?_)
  subst hw
  have hP := pn_back hP hk1
  clear hB hk1 hz1 hF
  generalize H1 = H at hP hS ⊢
  refine lv_if_eq (tgt := 22) hx hb dX9_put_8 (by decide) (fun c_2 => ?_) (fun c_2 => ?_)
  · have hR := (if_pos c_2).symm.trans hR
    refine lv_aload_n hx hb dX9_put_22 rfl (lv_at hl 0 rfl) ?_
    refine lv_iconst (v := (-1 : Int32)) hx hb dX9_put_23 (by decide) ?_
    have hF := pw_free hD hS hA
    refine va_calli (va_runV (As := [.int (-1 : Int32)]) (rest := []) ⟨hx, hb, hml, hown, hts⟩ (k_X9_refuse l D ca h ad σ (-1 : Int32) H.size hI (by unfold vp_in; decide) _ rfl) (cwV 1 hts gX9_put_X9_refuse rfl rfl rfl (by decide +kernel) ⟨Nat.le_of_ble_eq_true rfl, Nat.le_of_ble_eq_true rfl⟩) ⟨pw_blind, va_recv hK hP (ci := 9) (q0 := 0) rfl wm_0, pw_give hP hK hD⟩ rfl rfl hl.1 rfl (lv_room (Nat.le_of_ble_eq_true rfl)) dX9_put_24 ⟨Nat.le_of_ble_eq_true rfl, Nat.le_of_ble_eq_true rfl⟩) hS (fun q _ h => hF q h) hF (fun r_3 u t H1 locs ht hvm hw hB hz1 hk1 hS => ?_)
    subst hw
    obtain ⟨hB, hI_4⟩ := hB
    obtain ⟨hP, hD⟩ := pw_back hF ht hB
    clear hB hk1 hz1 hF
    generalize H1 = H at hP hS ⊢
    have hI9 : IR ((s_X9_refuse σ (-1 : Int32)).2) := hI_4
    subst hR
    rw [hQ]
    exact W.iret (v := ((s_X9_refuse σ (-1 : Int32)).1)) hx hb hr (fun t ht hW => ⟨⟨((s_X9_refuse σ (-1 : Int32)).1), (), rfl, rfl, ⟨by rw [ht]; exact hP, va_K.moved hW.alike hK, by rw [← hAe]; exact hD⟩, hI9⟩, hS.F ht⟩) hS.2.2 dX9_put_27
  · have hR := (if_neg c_2).symm.trans hR
    refine lv_iload_n hx hb dX9_put_11 rfl (lv_at hl 2 rfl) ?_
    refine lv_aload_n hx hb dX9_put_12 rfl (lv_at hl 0 rfl) ?_
    refine va_get (D := D) (ci := 9) (v := .int (σ 2 0)) (C := RX9) (T := TX9) (N := 51) hx hb hts hu9 hown hK hP 0 wm_0 rfl 2 (by decide) (hts (.fieldLink RX9 127 "GrazeBookModel" "pieces" "I") (List.mem_cons_of_mem _ mw_785)) (fun _ h9 => h9) rfl dX9_put_13 ?_
    have hF := pw_free (pn_D (A := A)) hS hA
    refine va_calli (va_runS (As := [.int a2, .int (σ 2 0)]) (rest := []) ⟨hx, hb, hml, hown, hts⟩ (k_X9_isIn l D ca a2 (σ 2 0) H.size _ rfl) (va_cwS 2 hts gX9_put_X9_isIn rfl rfl rfl (by decide +kernel) ⟨Nat.le_of_ble_eq_true rfl, Nat.le_of_ble_eq_true rfl⟩) ⟨pw_blind, pw_give pn_P hK (pn_D (A := A))⟩ rfl rfl hl.1 rfl (lv_room (Nat.le_of_ble_eq_true rfl)) dX9_put_16 ⟨Nat.le_of_ble_eq_true rfl, Nat.le_of_ble_eq_true rfl⟩) hS (fun q _ h => hF q h) hF (fun r_5 u t H1 locs ht hvm hw hB hz1 hk1 hS => ?_)
    subst hw
    have hP := pn_back hP hk1
    clear hB hk1 hz1 hF
    generalize H1 = H at hP hS ⊢
    refine lv_if_ne (tgt := 28) hx hb dX9_put_19 (by decide) (fun c_6 => ?_) (fun c_6 => ?_)
    · have hR := (if_neg c_6).symm.trans hR
      refine lv_aload_n hx hb dX9_put_28 rfl (lv_at hl 0 rfl) ?_
      refine va_get (D := D) (ci := 9) (v := .ref (ad 41)) (C := RX9) (T := TX9) (N := 51) hx hb hts hu9 hown hK hP 0 wm_0 rfl 41 (by decide) (hts (.fieldLink RX9 98 "GrazeBookModel" "hState" "[I") (List.mem_cons_of_mem _ mw_824)) (fun _ h9 => h9) rfl dX9_put_29 ?_
      refine lv_iload_n hx hb dX9_put_32 rfl (lv_at hl 1 rfl) ?_
      refine va_iald_k (k := (a1.toNatClampNeg)) (v := (σ 41 (a1.toNatClampNeg))) hx hb hK hP 30 0 wm_a41 rfl rfl rfl (ix_isIn c_2 (ir_6 hI)) dX9_put_33 ?_
      refine lv_if_ne (tgt := 54) hx hb dX9_put_34 (by decide) (fun c_7 => ?_) (fun c_7 => ?_)
      · have hR := (if_neg c_7).symm.trans hR
        refine lv_aload_n hx hb dX9_put_54 rfl (lv_at hl 0 rfl) ?_
        refine lv_bipush (v := (-3 : Int32)) hx hb dX9_put_55 (by decide) ?_
        have hF := pw_free hD hS hA
        refine va_calli (va_runV (As := [.int (-3 : Int32)]) (rest := []) ⟨hx, hb, hml, hown, hts⟩ (k_X9_refuse l D ca h ad σ (-3 : Int32) H.size hI (by unfold vp_in; decide) _ rfl) (cwV 1 hts gX9_put_X9_refuse rfl rfl rfl (by decide +kernel) ⟨Nat.le_of_ble_eq_true rfl, Nat.le_of_ble_eq_true rfl⟩) ⟨pw_blind, va_recv hK hP (ci := 9) (q0 := 0) rfl wm_0, pw_give hP hK hD⟩ rfl rfl hl.1 rfl (lv_room (Nat.le_of_ble_eq_true rfl)) dX9_put_57 ⟨Nat.le_of_ble_eq_true rfl, Nat.le_of_ble_eq_true rfl⟩) hS (fun q _ h => hF q h) hF (fun r_8 u t H1 locs ht hvm hw hB hz1 hk1 hS => ?_)
        subst hw
        obtain ⟨hB, hI_9⟩ := hB
        obtain ⟨hP, hD⟩ := pw_back hF ht hB
        clear hB hk1 hz1 hF
        generalize H1 = H at hP hS ⊢
        have hI9 : IR ((s_X9_refuse σ (-3 : Int32)).2) := hI_9
        subst hR
        rw [hQ]
        exact W.iret (v := ((s_X9_refuse σ (-3 : Int32)).1)) hx hb hr (fun t ht hW => ⟨⟨((s_X9_refuse σ (-3 : Int32)).1), (), rfl, rfl, ⟨by rw [ht]; exact hP, va_K.moved hW.alike hK, by rw [← hAe]; exact hD⟩, hI9⟩, hS.F ht⟩) hS.2.2 dX9_put_60
      · have hR := (if_pos c_7).symm.trans hR
        refine lv_aload_n hx hb dX9_put_37 rfl (lv_at hl 0 rfl) ?_
        refine va_get (D := D) (ci := 9) (v := .ref (ad 38)) (C := RX9) (T := TX9) (N := 51) hx hb hts hu9 hown hK hP 0 wm_0 rfl 38 (by decide) (hts (.fieldLink RX9 89 "GrazeBookModel" "hPiece" "[I") (List.mem_cons_of_mem _ mw_821)) (fun _ h9 => h9) rfl dX9_put_38 ?_
        refine lv_iload_n hx hb dX9_put_41 rfl (lv_at hl 1 rfl) ?_
        refine va_iald_k (k := (a1.toNatClampNeg)) (v := (σ 38 (a1.toNatClampNeg))) hx hb hK hP 27 0 wm_a38 rfl rfl rfl (ix_isIn c_2 (ir_6 hI)) dX9_put_42 ?_
        refine lv_if_ge (tgt := 54) hx hb dX9_put_43 (by decide) (fun c_10 => ?_) (fun c_10 => ?_)
        · have hR := (if_pos c_10).symm.trans hR
          refine lv_aload_n hx hb dX9_put_54 rfl (lv_at hl 0 rfl) ?_
          refine lv_bipush (v := (-3 : Int32)) hx hb dX9_put_55 (by decide) ?_
          have hF := pw_free hD hS hA
          refine va_calli (va_runV (As := [.int (-3 : Int32)]) (rest := []) ⟨hx, hb, hml, hown, hts⟩ (k_X9_refuse l D ca h ad σ (-3 : Int32) H.size hI (by unfold vp_in; decide) _ rfl) (cwV 1 hts gX9_put_X9_refuse rfl rfl rfl (by decide +kernel) ⟨Nat.le_of_ble_eq_true rfl, Nat.le_of_ble_eq_true rfl⟩) ⟨pw_blind, va_recv hK hP (ci := 9) (q0 := 0) rfl wm_0, pw_give hP hK hD⟩ rfl rfl hl.1 rfl (lv_room (Nat.le_of_ble_eq_true rfl)) dX9_put_57 ⟨Nat.le_of_ble_eq_true rfl, Nat.le_of_ble_eq_true rfl⟩) hS (fun q _ h => hF q h) hF (fun r_11 u t H1 locs ht hvm hw hB hz1 hk1 hS => ?_)
          subst hw
          obtain ⟨hB, hI_12⟩ := hB
          obtain ⟨hP, hD⟩ := pw_back hF ht hB
          clear hB hk1 hz1 hF
          generalize H1 = H at hP hS ⊢
          have hI9 : IR ((s_X9_refuse σ (-3 : Int32)).2) := hI_12
          subst hR
          rw [hQ]
          exact W.iret (v := ((s_X9_refuse σ (-3 : Int32)).1)) hx hb hr (fun t ht hW => ⟨⟨((s_X9_refuse σ (-3 : Int32)).1), (), rfl, rfl, ⟨by rw [ht]; exact hP, va_K.moved hW.alike hK, by rw [← hAe]; exact hD⟩, hI9⟩, hS.F ht⟩) hS.2.2 dX9_put_60
        · have hR := (if_neg c_10).symm.trans hR
          refine lv_aload_n hx hb dX9_put_46 rfl (lv_at hl 0 rfl) ?_
          refine lv_iload_n hx hb dX9_put_47 rfl (lv_at hl 2 rfl) ?_
          have hF := pw_free hD hS hA
          refine va_calli (va_runV (As := [.int a2]) (rest := []) ⟨hx, hb, hml, hown, hts⟩ (k_X9_rests l D ca h ad σ a2 H.size hI (ix_isIn c_6 (ir_2 hI)) _ rfl) (cwV 1 hts gX9_put_X9_rests rfl rfl rfl (by decide +kernel) ⟨Nat.le_of_ble_eq_true rfl, Nat.le_of_ble_eq_true rfl⟩) ⟨pw_blind, va_recv hK hP (ci := 9) (q0 := 0) rfl wm_0, pw_give hP hK hD⟩ rfl rfl hl.1 rfl (lv_room (Nat.le_of_ble_eq_true rfl)) dX9_put_48 ⟨Nat.le_of_ble_eq_true rfl, Nat.le_of_ble_eq_true rfl⟩) hS (fun q _ h => hF q h) hF (fun r_13 u t H1 locs ht hvm hw hB hz1 hk1 hS => ?_)
          subst hw
          obtain ⟨hP, hD⟩ := pw_back hF ht hB
          clear hB hk1 hz1 hF
          generalize H1 = H at hP hS ⊢
          refine lv_if_eq (tgt := 61) hx hb dX9_put_51 (by decide) (fun c_14 => ?_) (fun c_14 => ?_)
          · have hR := (if_pos c_14).symm.trans hR
            refine lv_aload_n hx hb dX9_put_61 rfl (lv_at hl 0 rfl) ?_
            refine va_get (D := D) (ci := 9) (v := .ref (ad 38)) (C := RX9) (T := TX9) (N := 51) hx hb hts hu9 hown hK hP 0 wm_0 rfl 38 (by decide) (hts (.fieldLink RX9 89 "GrazeBookModel" "hPiece" "[I") (List.mem_cons_of_mem _ mw_821)) (fun _ h9 => h9) rfl dX9_put_62 ?_
            refine lv_iload_n hx hb dX9_put_65 rfl (lv_at hl 1 rfl) ?_
            refine lv_iload_n hx hb dX9_put_66 rfl (lv_at hl 2 rfl) ?_
            refine va_iast_k (k := (a1.toNatClampNeg)) hx hb hK hP hD hS 27 0 wm_a38 rfl rfl (ix_isIn c_2 (ir_6 hI)) dX9_put_67 (fun H locs hP hD hS => ?_)
            rw [wm_s38] at hP hD
            refine lv_aload_n hx hb dX9_put_68 rfl (lv_at hl 0 rfl) ?_
            refine lv_aload_n hx hb dX9_put_69 rfl (lv_at hl 0 rfl) ?_
            refine va_get (D := D) (ci := 9) (v := .ref (ad 35)) (C := RX9) (T := TX9) (N := 51) hx hb hts hu9 hown hK hP 0 wm_0 rfl 35 (by decide) (hts (.fieldLink RX9 80 "GrazeBookModel" "hOwner" "[I") (List.mem_cons_of_mem _ mw_818)) (fun _ h9 => h9) rfl dX9_put_70 ?_
            refine lv_iload_n hx hb dX9_put_73 rfl (lv_at hl 1 rfl) ?_
            refine va_iald_k (k := (a1.toNatClampNeg)) (v := (σ 35 (a1.toNatClampNeg))) hx hb hK hP 24 0 wm_a35 rfl rfl rfl (ix_isIn c_2 (ir_6 hI)) dX9_put_74 ?_
            have hF := pw_free hD hS hA
            refine va_calli (va_runV (As := [.int (σ 35 (a1.toNatClampNeg))]) (rest := []) ⟨hx, hb, hml, hown, hts⟩ (k_X9_lacksOf l D ca h ad (put σ 38 (a1.toNatClampNeg) a2) (σ 35 (a1.toNatClampNeg)) H.size hI _ rfl) (cwV 1 hts gX9_put_X9_lacksOf rfl rfl rfl (by decide +kernel) ⟨Nat.le_of_ble_eq_true rfl, Nat.le_of_ble_eq_true rfl⟩) ⟨pw_blind, va_recv hK hP (ci := 9) (q0 := 0) rfl wm_0, pw_give hP hK hD⟩ rfl rfl hl.1 rfl (lv_room (Nat.le_of_ble_eq_true rfl)) dX9_put_75 ⟨Nat.le_of_ble_eq_true rfl, Nat.le_of_ble_eq_true rfl⟩) hS (fun q _ h => hF q h) hF (fun r_15 u t H1 locs ht hvm hw hB hz1 hk1 hS => ?_)
            subst hw
            obtain ⟨hP, hD⟩ := pw_back hF ht hB
            clear hB hk1 hz1 hF
            generalize H1 = H at hP hS ⊢
            refine lv_if_le (tgt := 95) hx hb dX9_put_78 (by decide) (fun c_16 => ?_) (fun c_16 => ?_)
            · have hR := (if_pos c_16).symm.trans hR
              refine lv_aload_n hx hb dX9_put_95 rfl (lv_at hl 0 rfl) ?_
              refine va_get (D := D) (ci := 9) (v := .ref (ad 39)) (C := RX9) (T := TX9) (N := 51) hx hb hts hu9 hown hK hP 0 wm_0 rfl 39 (by decide) (hts (.fieldLink RX9 92 "GrazeBookModel" "hOrder" "[I") (List.mem_cons_of_mem _ mw_822)) (fun _ h9 => h9) rfl dX9_put_96 ?_
              refine lv_iload_n hx hb dX9_put_99 rfl (lv_at hl 1 rfl) ?_
              refine lv_aload_n hx hb dX9_put_100 rfl (lv_at hl 0 rfl) ?_
              refine va_get (D := D) (ci := 9) (v := .int (σ 7 0)) (C := RX9) (T := TX9) (N := 51) hx hb hts hu9 hown hK hP 0 wm_0 rfl 7 (by decide) (hts (.fieldLink RX9 188 "GrazeBookModel" "orders" "I") (List.mem_cons_of_mem _ mw_790)) (fun _ h9 => h9) rfl dX9_put_101 ?_
              refine va_iast_k (k := (a1.toNatClampNeg)) hx hb hK hP hD hS 28 0 wm_a39 rfl rfl (ix_isIn c_2 (ir_6 hI)) dX9_put_104 (fun H locs hP hD hS => ?_)
              rw [wm_s39] at hP hD
              refine lv_aload_n hx hb dX9_put_105 rfl (lv_at hl 0 rfl) ?_
              refine lv_dup hx hb dX9_put_106 rfl ?_
              refine va_get (D := D) (ci := 9) (v := .int (σ 7 0)) (C := RX9) (T := TX9) (N := 51) hx hb hts hu9 hown hK hP 0 wm_0 rfl 7 (by decide) (hts (.fieldLink RX9 188 "GrazeBookModel" "orders" "I") (List.mem_cons_of_mem _ mw_790)) (fun _ h9 => h9) rfl dX9_put_107 ?_
              refine lv_iconst (v := (1 : Int32)) hx hb dX9_put_110 (by decide) ?_
              refine lv_iadd hx hb dX9_put_111 ?_
              refine va_put (D := D) (ci := 9) (v := .int ((σ 7 0) + (1 : Int32))) (ty := .int) (C := RX9) (T := TX9) (N := 51) hx hb hts hu9 tyX9 tyX9_ok nmX9 hown hK hP hD hS 0 wm_0 rfl 7 (by decide) (hts (.fieldLink RX9 188 "GrazeBookModel" "orders" "I") (List.mem_cons_of_mem _ mw_790)) (fun _ h9 => h9) rfl (by decide +kernel) rfl rfl (Nat.le_of_ble_eq_true rfl) dX9_put_112 (fun H locs hP hD hS => ?_)
              rw [wm_p7] at hP hD
              refine lv_iconst (v := (1 : Int32)) hx hb dX9_put_115 (by decide) ?_
              have hI9 : IR (put (put (put σ 38 (a1.toNatClampNeg) a2) 39 (a1.toNatClampNeg) (σ 7 0)) 7 0 ((σ 7 0) + (1 : Int32))) := hI
              subst hR
              rw [hQ]
              exact W.iret (v := (1 : Int32)) hx hb hr (fun t ht hW => ⟨⟨(1 : Int32), (), rfl, rfl, ⟨by rw [ht]; exact hP, va_K.moved hW.alike hK, by rw [← hAe]; exact hD⟩, hI9⟩, hS.F ht⟩) hS.2.2 dX9_put_116
            · have hR := (if_neg c_16).symm.trans hR
              refine lv_aload_n hx hb dX9_put_81 rfl (lv_at hl 0 rfl) ?_
              refine va_get (D := D) (ci := 9) (v := .ref (ad 38)) (C := RX9) (T := TX9) (N := 51) hx hb hts hu9 hown hK hP 0 wm_0 rfl 38 (by decide) (hts (.fieldLink RX9 89 "GrazeBookModel" "hPiece" "[I") (List.mem_cons_of_mem _ mw_821)) (fun _ h9 => h9) rfl dX9_put_82 ?_
              refine lv_iload_n hx hb dX9_put_85 rfl (lv_at hl 1 rfl) ?_
              refine lv_iconst (v := (-1 : Int32)) hx hb dX9_put_86 (by decide) ?_
              refine va_iast_k (k := (a1.toNatClampNeg)) hx hb hK hP hD hS 27 0 wm_a38 rfl rfl (ix_isIn c_2 (ir_6 hI)) dX9_put_87 (fun H locs hP hD hS => ?_)
              rw [wm_s38] at hP hD
              refine lv_aload_n hx hb dX9_put_88 rfl (lv_at hl 0 rfl) ?_
              refine lv_bipush (v := (-5 : Int32)) hx hb dX9_put_89 (by decide) ?_
              have hF := pw_free hD hS hA
              refine va_calli (va_runV (As := [.int (-5 : Int32)]) (rest := []) ⟨hx, hb, hml, hown, hts⟩ (k_X9_refuse l D ca h ad (put (put σ 38 (a1.toNatClampNeg) a2) 38 (a1.toNatClampNeg) (-1 : Int32)) (-5 : Int32) H.size hI (by unfold vp_in; decide) _ rfl) (cwV 1 hts gX9_put_X9_refuse rfl rfl rfl (by decide +kernel) ⟨Nat.le_of_ble_eq_true rfl, Nat.le_of_ble_eq_true rfl⟩) ⟨pw_blind, va_recv hK hP (ci := 9) (q0 := 0) rfl wm_0, pw_give hP hK hD⟩ rfl rfl hl.1 rfl (lv_room (Nat.le_of_ble_eq_true rfl)) dX9_put_91 ⟨Nat.le_of_ble_eq_true rfl, Nat.le_of_ble_eq_true rfl⟩) hS (fun q _ h => hF q h) hF (fun r_17 u t H1 locs ht hvm hw hB hz1 hk1 hS => ?_)
              subst hw
              obtain ⟨hB, hI_18⟩ := hB
              obtain ⟨hP, hD⟩ := pw_back hF ht hB
              clear hB hk1 hz1 hF
              generalize H1 = H at hP hS ⊢
              have hI9 : IR ((s_X9_refuse (put (put σ 38 (a1.toNatClampNeg) a2) 38 (a1.toNatClampNeg) (-1 : Int32)) (-5 : Int32)).2) := hI_18
              subst hR
              rw [hQ]
              exact W.iret (v := ((s_X9_refuse (put (put σ 38 (a1.toNatClampNeg) a2) 38 (a1.toNatClampNeg) (-1 : Int32)) (-5 : Int32)).1)) hx hb hr (fun t ht hW => ⟨⟨((s_X9_refuse (put (put σ 38 (a1.toNatClampNeg) a2) 38 (a1.toNatClampNeg) (-1 : Int32)) (-5 : Int32)).1), (), rfl, rfl, ⟨by rw [ht]; exact hP, va_K.moved hW.alike hK, by rw [← hAe]; exact hD⟩, hI9⟩, hS.F ht⟩) hS.2.2 dX9_put_94
          · have hR := (if_neg c_14).symm.trans hR
            refine lv_aload_n hx hb dX9_put_54 rfl (lv_at hl 0 rfl) ?_
            refine lv_bipush (v := (-3 : Int32)) hx hb dX9_put_55 (by decide) ?_
            have hF := pw_free hD hS hA
            refine va_calli (va_runV (As := [.int (-3 : Int32)]) (rest := []) ⟨hx, hb, hml, hown, hts⟩ (k_X9_refuse l D ca h ad σ (-3 : Int32) H.size hI (by unfold vp_in; decide) _ rfl) (cwV 1 hts gX9_put_X9_refuse rfl rfl rfl (by decide +kernel) ⟨Nat.le_of_ble_eq_true rfl, Nat.le_of_ble_eq_true rfl⟩) ⟨pw_blind, va_recv hK hP (ci := 9) (q0 := 0) rfl wm_0, pw_give hP hK hD⟩ rfl rfl hl.1 rfl (lv_room (Nat.le_of_ble_eq_true rfl)) dX9_put_57 ⟨Nat.le_of_ble_eq_true rfl, Nat.le_of_ble_eq_true rfl⟩) hS (fun q _ h => hF q h) hF (fun r_19 u t H1 locs ht hvm hw hB hz1 hk1 hS => ?_)
            subst hw
            obtain ⟨hB, hI_20⟩ := hB
            obtain ⟨hP, hD⟩ := pw_back hF ht hB
            clear hB hk1 hz1 hF
            generalize H1 = H at hP hS ⊢
            have hI9 : IR ((s_X9_refuse σ (-3 : Int32)).2) := hI_20
            subst hR
            rw [hQ]
            exact W.iret (v := ((s_X9_refuse σ (-3 : Int32)).1)) hx hb hr (fun t ht hW => ⟨⟨((s_X9_refuse σ (-3 : Int32)).1), (), rfl, rfl, ⟨by rw [ht]; exact hP, va_K.moved hW.alike hK, by rw [← hAe]; exact hD⟩, hI9⟩, hS.F ht⟩) hS.2.2 dX9_put_60
    · have hR := (if_pos c_6).symm.trans hR
      refine lv_aload_n hx hb dX9_put_22 rfl (lv_at hl 0 rfl) ?_
      refine lv_iconst (v := (-1 : Int32)) hx hb dX9_put_23 (by decide) ?_
      have hF := pw_free hD hS hA
      refine va_calli (va_runV (As := [.int (-1 : Int32)]) (rest := []) ⟨hx, hb, hml, hown, hts⟩ (k_X9_refuse l D ca h ad σ (-1 : Int32) H.size hI (by unfold vp_in; decide) _ rfl) (cwV 1 hts gX9_put_X9_refuse rfl rfl rfl (by decide +kernel) ⟨Nat.le_of_ble_eq_true rfl, Nat.le_of_ble_eq_true rfl⟩) ⟨pw_blind, va_recv hK hP (ci := 9) (q0 := 0) rfl wm_0, pw_give hP hK hD⟩ rfl rfl hl.1 rfl (lv_room (Nat.le_of_ble_eq_true rfl)) dX9_put_24 ⟨Nat.le_of_ble_eq_true rfl, Nat.le_of_ble_eq_true rfl⟩) hS (fun q _ h => hF q h) hF (fun r_21 u t H1 locs ht hvm hw hB hz1 hk1 hS => ?_)
      subst hw
      obtain ⟨hB, hI_22⟩ := hB
      obtain ⟨hP, hD⟩ := pw_back hF ht hB
      clear hB hk1 hz1 hF
      generalize H1 = H at hP hS ⊢
      have hI9 : IR ((s_X9_refuse σ (-1 : Int32)).2) := hI_22
      subst hR
      rw [hQ]
      exact W.iret (v := ((s_X9_refuse σ (-1 : Int32)).1)) hx hb hr (fun t ht hW => ⟨⟨((s_X9_refuse σ (-1 : Int32)).1), (), rfl, rfl, ⟨by rw [ht]; exact hP, va_K.moved hW.alike hK, by rw [← hAe]; exact hD⟩, hI9⟩, hS.F ht⟩) hS.2.2 dX9_put_27

def s_X9_drive (σ : St) (a1 : Int32) (a2 : Int32) : Int32 × St := (if (s_X9_isIn a1 (σ 6 0)) = (0 : Int32) then (((s_X9_refuse σ (-1 : Int32)).1), (s_X9_refuse σ (-1 : Int32)).2) else (if a2 = (-1 : Int32) then (if (σ 41 (a1.toNatClampNeg)) = (0 : Int32) then (if (σ 38 (a1.toNatClampNeg)) < (0 : Int32) then (((s_X9_refuse σ (-3 : Int32)).1), (s_X9_refuse σ (-3 : Int32)).2) else (if a2 < (0 : Int32) then ((σ 38 (a1.toNatClampNeg)), (put σ 38 (a1.toNatClampNeg) a2)) else (if (s_X9_rests σ a2) = (0 : Int32) then (if (σ 38 (a1.toNatClampNeg)) = a2 then (((s_X9_refuse σ (-3 : Int32)).1), (s_X9_refuse σ (-3 : Int32)).2) else ((σ 38 (a1.toNatClampNeg)), (put (put (put σ 38 (a1.toNatClampNeg) a2) 39 (a1.toNatClampNeg) (σ 7 0)) 7 0 ((σ 7 0) + (1 : Int32))))) else (((s_X9_refuse σ (-3 : Int32)).1), (s_X9_refuse σ (-3 : Int32)).2)))) else (((s_X9_refuse σ (-3 : Int32)).1), (s_X9_refuse σ (-3 : Int32)).2)) else (if (s_X9_isIn a2 (σ 2 0)) = (0 : Int32) then (((s_X9_refuse σ (-1 : Int32)).1), (s_X9_refuse σ (-1 : Int32)).2) else (if (σ 41 (a1.toNatClampNeg)) = (0 : Int32) then (if (σ 38 (a1.toNatClampNeg)) < (0 : Int32) then (((s_X9_refuse σ (-3 : Int32)).1), (s_X9_refuse σ (-3 : Int32)).2) else (if a2 < (0 : Int32) then ((σ 38 (a1.toNatClampNeg)), (put σ 38 (a1.toNatClampNeg) a2)) else (if (s_X9_rests σ a2) = (0 : Int32) then (if (σ 38 (a1.toNatClampNeg)) = a2 then (((s_X9_refuse σ (-3 : Int32)).1), (s_X9_refuse σ (-3 : Int32)).2) else ((σ 38 (a1.toNatClampNeg)), (put (put (put σ 38 (a1.toNatClampNeg) a2) 39 (a1.toNatClampNeg) (σ 7 0)) 7 0 ((σ 7 0) + (1 : Int32))))) else (((s_X9_refuse σ (-3 : Int32)).1), (s_X9_refuse σ (-3 : Int32)).2)))) else (((s_X9_refuse σ (-3 : Int32)).1), (s_X9_refuse σ (-3 : Int32)).2)))))
theorem fr_s_X9_drive (σ : St) (a1 : Int32) (a2 : Int32) {f : Nat} (h0 : f ≠ 0) (h7 : f ≠ 7) (h38 : f ≠ 38) (h39 : f ≠ 39) : (s_X9_drive σ a1 a2 ).2 f = σ f := by
  unfold s_X9_drive
  all_goals ((try dsimp only) <;> ((repeat' split) <;> (try simp only [put_fr, ne_eq, not_false_eq_true, h0, h7, h38, h39, fr_s_X9_refuse])))
set_option maxHeartbeats 1000000 in
set_option maxRecDepth 100000 in
theorem k_X9_drive (l : Launch) (D : va_G) (ca : Nat → ClassId) (h : Nat) (ad : Nat → Nat) (σ : St) (a1 : Int32) (a2 : Int32) (sz : Nat) (hI : IR σ)  (R : Int32 × St) (hR : s_X9_drive σ a1 a2 = R) : Met l yX9_drive wsX9_drive ({ frames := 1, cells := 0, slots := 0, locals := 21 }) (va_Pc [.ref h, .int a1, .int a2] (pw_pre D ca (WM ca h ad σ) sz)) (va_Qi (fun (r : Int32) (_ : Unit) => r = R.1) (fun (_ : Unit) (t : State) => pw_post D ca (WM ca h ad σ) sz (WM ca h ad (R.2)) t ∧ IR R.2) (va_A (WM ca h ad σ) sz)) 0 0 (va_A (WM ca h ad σ) sz) := by
  refine Met.ofW (cc := cX9_drive) (maxL := 4) (ret := (some .int)) (by decide) rfl ?_
  intro p e s m args below meth c s₁ B hml hv
  obtain ⟨rfl, hsz, hP, hK, hD0⟩ := hv
  have hx := B.exec
  have hb := B.bytes
  have hr := B.returns
  have hts := atoms_spec (ws := wsX9_drive) B.pre
  have hown : s.vm.findClass RX9 = some m.cls := findClass_of_methodNamed B.named
  have hlocks := B.notSynchronized
  have hu9 : ∀ w ∈ u_ws RX9 TX9 51, w ∈ wsX9_drive := fun w h => List.mem_cons_of_mem _ (uw9 w h)
  subst hsz
  have hD := hD0.self (sz := s.heap.size)
  obtain ⟨A, hAe⟩ : ∃ A, A = va_A (WM ca h ad σ) s.heap.size := ⟨_, rfl⟩
  rw [← hAe] at hD ⊢
  have hA : ∀ q : Nat, s.heap.size ≤ q → A q := fun q h => by rw [hAe]; exact Or.inr h
  have hS : va_S A s.heap s.heap [] := va_S.rf
  have hl := lv_entry ([.ref h, .int a1, .int a2]) (n := 4) (Nat.le_of_ble_eq_true rfl)
  rw [lg_entry_eq]
  generalize (lg_sl ([.ref h, .int a1, .int a2]) ++ List.replicate (4 - (lg_sl ([.ref h, .int a1, .int a2])).length) Slot.unset).toArray = ls at hl ⊢
  have hl : lv_has ls 4 [(0, .ref h), (1, .int a1), (2, .int a2)] := hl
  obtain ⟨H, hH⟩ : ∃ H, H = s.heap := ⟨_, rfl⟩
  have hP : va_P D vwCl (WM ca h ad σ) H := by rw [hH]; exact hP
  have hS : va_S A s.heap H [] := by rw [hH]; exact hS
  obtain ⟨QQ, hQ⟩ : ∃ Q9, Q9 = MQ below (va_Qi (fun (r : Int32) (_ : Unit) => r = R.1) (fun (_ : Unit) (t : State) => pw_post D ca (WM ca h ad σ) s.heap.size (WM ca h ad (R.2)) t ∧ IR R.2) A) ([.ref h, .int a1, .int a2] : List Value).toArray s 0 0 A := ⟨_, rfl⟩
  rw [← hQ]
  show W _ _ _ _ _ _ _ _ _ _ s.heap _ _ _ _ _
  rw [← hH]
  have hR : (if (s_X9_isIn a1 (σ 6 0)) = (0 : Int32) then (((s_X9_refuse σ (-1 : Int32)).1), (s_X9_refuse σ (-1 : Int32)).2) else (if a2 = (-1 : Int32) then (if (σ 41 (a1.toNatClampNeg)) = (0 : Int32) then (if (σ 38 (a1.toNatClampNeg)) < (0 : Int32) then (((s_X9_refuse σ (-3 : Int32)).1), (s_X9_refuse σ (-3 : Int32)).2) else (if a2 < (0 : Int32) then ((σ 38 (a1.toNatClampNeg)), (put σ 38 (a1.toNatClampNeg) a2)) else (if (s_X9_rests σ a2) = (0 : Int32) then (if (σ 38 (a1.toNatClampNeg)) = a2 then (((s_X9_refuse σ (-3 : Int32)).1), (s_X9_refuse σ (-3 : Int32)).2) else ((σ 38 (a1.toNatClampNeg)), (put (put (put σ 38 (a1.toNatClampNeg) a2) 39 (a1.toNatClampNeg) (σ 7 0)) 7 0 ((σ 7 0) + (1 : Int32))))) else (((s_X9_refuse σ (-3 : Int32)).1), (s_X9_refuse σ (-3 : Int32)).2)))) else (((s_X9_refuse σ (-3 : Int32)).1), (s_X9_refuse σ (-3 : Int32)).2)) else (if (s_X9_isIn a2 (σ 2 0)) = (0 : Int32) then (((s_X9_refuse σ (-1 : Int32)).1), (s_X9_refuse σ (-1 : Int32)).2) else (if (σ 41 (a1.toNatClampNeg)) = (0 : Int32) then (if (σ 38 (a1.toNatClampNeg)) < (0 : Int32) then (((s_X9_refuse σ (-3 : Int32)).1), (s_X9_refuse σ (-3 : Int32)).2) else (if a2 < (0 : Int32) then ((σ 38 (a1.toNatClampNeg)), (put σ 38 (a1.toNatClampNeg) a2)) else (if (s_X9_rests σ a2) = (0 : Int32) then (if (σ 38 (a1.toNatClampNeg)) = a2 then (((s_X9_refuse σ (-3 : Int32)).1), (s_X9_refuse σ (-3 : Int32)).2) else ((σ 38 (a1.toNatClampNeg)), (put (put (put σ 38 (a1.toNatClampNeg) a2) 39 (a1.toNatClampNeg) (σ 7 0)) 7 0 ((σ 7 0) + (1 : Int32))))) else (((s_X9_refuse σ (-3 : Int32)).1), (s_X9_refuse σ (-3 : Int32)).2)))) else (((s_X9_refuse σ (-3 : Int32)).1), (s_X9_refuse σ (-3 : Int32)).2))))) = R := hR
  refine lv_iload_n hx hb dX9_drive_0 rfl (lv_at hl 1 rfl) ?_
  refine lv_aload_n hx hb dX9_drive_1 rfl (lv_at hl 0 rfl) ?_
  refine va_get (D := D) (ci := 9) (v := .int (σ 6 0)) (C := RX9) (T := TX9) (N := 51) hx hb hts hu9 hown hK hP 0 wm_0 rfl 6 (by decide) (hts (.fieldLink RX9 164 "GrazeBookModel" "herds" "I") (List.mem_cons_of_mem _ mw_789)) (fun _ h9 => h9) rfl dX9_drive_2 ?_
  have hF := pw_free (pn_D (A := A)) hS hA
  refine va_calli (va_runS (As := [.int a1, .int (σ 6 0)]) (rest := []) ⟨hx, hb, hml, hown, hts⟩ (k_X9_isIn l D ca a1 (σ 6 0) H.size _ rfl) (va_cwS 2 hts gX9_drive_X9_isIn rfl rfl rfl (by decide +kernel) ⟨Nat.le_of_ble_eq_true rfl, Nat.le_of_ble_eq_true rfl⟩) ⟨pw_blind, pw_give pn_P hK (pn_D (A := A))⟩ rfl rfl hl.1 rfl (lv_room (Nat.le_of_ble_eq_true rfl)) dX9_drive_5 ⟨Nat.le_of_ble_eq_true rfl, Nat.le_of_ble_eq_true rfl⟩) hS (fun q _ h => hF q h) hF (fun r_1 u t H1 locs ht hvm hw hB hz1 hk1 hS => ?_)
  subst hw
  have hP := pn_back hP hk1
  clear hB hk1 hz1 hF
  generalize H1 = H at hP hS ⊢
  refine lv_if_eq (tgt := 27) hx hb dX9_drive_8 (by decide) (fun c_2 => ?_) (fun c_2 => ?_)
  · have hR := (if_pos c_2).symm.trans hR
    refine lv_aload_n hx hb dX9_drive_27 rfl (lv_at hl 0 rfl) ?_
    refine lv_iconst (v := (-1 : Int32)) hx hb dX9_drive_28 (by decide) ?_
    have hF := pw_free hD hS hA
    refine va_calli (va_runV (As := [.int (-1 : Int32)]) (rest := []) ⟨hx, hb, hml, hown, hts⟩ (k_X9_refuse l D ca h ad σ (-1 : Int32) H.size hI (by unfold vp_in; decide) _ rfl) (cwV 1 hts gX9_drive_X9_refuse rfl rfl rfl (by decide +kernel) ⟨Nat.le_of_ble_eq_true rfl, Nat.le_of_ble_eq_true rfl⟩) ⟨pw_blind, va_recv hK hP (ci := 9) (q0 := 0) rfl wm_0, pw_give hP hK hD⟩ rfl rfl hl.1 rfl (lv_room (Nat.le_of_ble_eq_true rfl)) dX9_drive_29 ⟨Nat.le_of_ble_eq_true rfl, Nat.le_of_ble_eq_true rfl⟩) hS (fun q _ h => hF q h) hF (fun r_3 u t H1 locs ht hvm hw hB hz1 hk1 hS => ?_)
    subst hw
    obtain ⟨hB, hI_4⟩ := hB
    obtain ⟨hP, hD⟩ := pw_back hF ht hB
    clear hB hk1 hz1 hF
    generalize H1 = H at hP hS ⊢
    have hI9 : IR ((s_X9_refuse σ (-1 : Int32)).2) := hI_4
    subst hR
    rw [hQ]
    exact W.iret (v := ((s_X9_refuse σ (-1 : Int32)).1)) hx hb hr (fun t ht hW => ⟨⟨((s_X9_refuse σ (-1 : Int32)).1), (), rfl, rfl, ⟨by rw [ht]; exact hP, va_K.moved hW.alike hK, by rw [← hAe]; exact hD⟩, hI9⟩, hS.F ht⟩) hS.2.2 dX9_drive_32
  · have hR := (if_neg c_2).symm.trans hR
    refine lv_iload_n hx hb dX9_drive_11 rfl (lv_at hl 2 rfl) ?_
    refine lv_iconst (v := (-1 : Int32)) hx hb dX9_drive_12 (by decide) ?_
    refine lv_icmp_eq (tgt := 33) hx hb dX9_drive_13 (by decide) (fun c_5 => ?_) (fun c_5 => ?_)
    · have hR := (if_pos c_5).symm.trans hR
      refine lv_aload_n hx hb dX9_drive_33 rfl (lv_at hl 0 rfl) ?_
      refine va_get (D := D) (ci := 9) (v := .ref (ad 41)) (C := RX9) (T := TX9) (N := 51) hx hb hts hu9 hown hK hP 0 wm_0 rfl 41 (by decide) (hts (.fieldLink RX9 98 "GrazeBookModel" "hState" "[I") (List.mem_cons_of_mem _ mw_824)) (fun _ h9 => h9) rfl dX9_drive_34 ?_
      refine lv_iload_n hx hb dX9_drive_37 rfl (lv_at hl 1 rfl) ?_
      refine va_iald_k (k := (a1.toNatClampNeg)) (v := (σ 41 (a1.toNatClampNeg))) hx hb hK hP 30 0 wm_a41 rfl rfl rfl (ix_isIn c_2 (ir_6 hI)) dX9_drive_38 ?_
      refine lv_if_ne (tgt := 73) hx hb dX9_drive_39 (by decide) (fun c_6 => ?_) (fun c_6 => ?_)
      · have hR := (if_neg c_6).symm.trans hR
        refine lv_aload_n hx hb dX9_drive_73 rfl (lv_at hl 0 rfl) ?_
        refine lv_bipush (v := (-3 : Int32)) hx hb dX9_drive_74 (by decide) ?_
        have hF := pw_free hD hS hA
        refine va_calli (va_runV (As := [.int (-3 : Int32)]) (rest := []) ⟨hx, hb, hml, hown, hts⟩ (k_X9_refuse l D ca h ad σ (-3 : Int32) H.size hI (by unfold vp_in; decide) _ rfl) (cwV 1 hts gX9_drive_X9_refuse rfl rfl rfl (by decide +kernel) ⟨Nat.le_of_ble_eq_true rfl, Nat.le_of_ble_eq_true rfl⟩) ⟨pw_blind, va_recv hK hP (ci := 9) (q0 := 0) rfl wm_0, pw_give hP hK hD⟩ rfl rfl hl.1 rfl (lv_room (Nat.le_of_ble_eq_true rfl)) dX9_drive_76 ⟨Nat.le_of_ble_eq_true rfl, Nat.le_of_ble_eq_true rfl⟩) hS (fun q _ h => hF q h) hF (fun r_7 u t H1 locs ht hvm hw hB hz1 hk1 hS => ?_)
        subst hw
        obtain ⟨hB, hI_8⟩ := hB
        obtain ⟨hP, hD⟩ := pw_back hF ht hB
        clear hB hk1 hz1 hF
        generalize H1 = H at hP hS ⊢
        have hI9 : IR ((s_X9_refuse σ (-3 : Int32)).2) := hI_8
        subst hR
        rw [hQ]
        exact W.iret (v := ((s_X9_refuse σ (-3 : Int32)).1)) hx hb hr (fun t ht hW => ⟨⟨((s_X9_refuse σ (-3 : Int32)).1), (), rfl, rfl, ⟨by rw [ht]; exact hP, va_K.moved hW.alike hK, by rw [← hAe]; exact hD⟩, hI9⟩, hS.F ht⟩) hS.2.2 dX9_drive_79
      · have hR := (if_pos c_6).symm.trans hR
        refine lv_aload_n hx hb dX9_drive_42 rfl (lv_at hl 0 rfl) ?_
        refine va_get (D := D) (ci := 9) (v := .ref (ad 38)) (C := RX9) (T := TX9) (N := 51) hx hb hts hu9 hown hK hP 0 wm_0 rfl 38 (by decide) (hts (.fieldLink RX9 89 "GrazeBookModel" "hPiece" "[I") (List.mem_cons_of_mem _ mw_821)) (fun _ h9 => h9) rfl dX9_drive_43 ?_
        refine lv_iload_n hx hb dX9_drive_46 rfl (lv_at hl 1 rfl) ?_
        refine va_iald_k (k := (a1.toNatClampNeg)) (v := (σ 38 (a1.toNatClampNeg))) hx hb hK hP 27 0 wm_a38 rfl rfl rfl (ix_isIn c_2 (ir_6 hI)) dX9_drive_47 ?_
        refine lv_if_lt (tgt := 73) hx hb dX9_drive_48 (by decide) (fun c_9 => ?_) (fun c_9 => ?_)
        · have hR := (if_pos c_9).symm.trans hR
          refine lv_aload_n hx hb dX9_drive_73 rfl (lv_at hl 0 rfl) ?_
          refine lv_bipush (v := (-3 : Int32)) hx hb dX9_drive_74 (by decide) ?_
          have hF := pw_free hD hS hA
          refine va_calli (va_runV (As := [.int (-3 : Int32)]) (rest := []) ⟨hx, hb, hml, hown, hts⟩ (k_X9_refuse l D ca h ad σ (-3 : Int32) H.size hI (by unfold vp_in; decide) _ rfl) (cwV 1 hts gX9_drive_X9_refuse rfl rfl rfl (by decide +kernel) ⟨Nat.le_of_ble_eq_true rfl, Nat.le_of_ble_eq_true rfl⟩) ⟨pw_blind, va_recv hK hP (ci := 9) (q0 := 0) rfl wm_0, pw_give hP hK hD⟩ rfl rfl hl.1 rfl (lv_room (Nat.le_of_ble_eq_true rfl)) dX9_drive_76 ⟨Nat.le_of_ble_eq_true rfl, Nat.le_of_ble_eq_true rfl⟩) hS (fun q _ h => hF q h) hF (fun r_10 u t H1 locs ht hvm hw hB hz1 hk1 hS => ?_)
          subst hw
          obtain ⟨hB, hI_11⟩ := hB
          obtain ⟨hP, hD⟩ := pw_back hF ht hB
          clear hB hk1 hz1 hF
          generalize H1 = H at hP hS ⊢
          have hI9 : IR ((s_X9_refuse σ (-3 : Int32)).2) := hI_11
          subst hR
          rw [hQ]
          exact W.iret (v := ((s_X9_refuse σ (-3 : Int32)).1)) hx hb hr (fun t ht hW => ⟨⟨((s_X9_refuse σ (-3 : Int32)).1), (), rfl, rfl, ⟨by rw [ht]; exact hP, va_K.moved hW.alike hK, by rw [← hAe]; exact hD⟩, hI9⟩, hS.F ht⟩) hS.2.2 dX9_drive_79
        · have hR := (if_neg c_9).symm.trans hR
          refine lv_iload_n hx hb dX9_drive_51 rfl (lv_at hl 2 rfl) ?_
          refine lv_if_lt (tgt := 80) hx hb dX9_drive_52 (by decide) (fun c_12 => ?_) (fun c_12 => ?_)
          · have hR := (if_pos c_12).symm.trans hR
            refine lv_aload_n hx hb dX9_drive_80 rfl (lv_at hl 0 rfl) ?_
            refine va_get (D := D) (ci := 9) (v := .ref (ad 38)) (C := RX9) (T := TX9) (N := 51) hx hb hts hu9 hown hK hP 0 wm_0 rfl 38 (by decide) (hts (.fieldLink RX9 89 "GrazeBookModel" "hPiece" "[I") (List.mem_cons_of_mem _ mw_821)) (fun _ h9 => h9) rfl dX9_drive_81 ?_
            refine lv_iload_n hx hb dX9_drive_84 rfl (lv_at hl 1 rfl) ?_
            refine va_iald_k (k := (a1.toNatClampNeg)) (v := (σ 38 (a1.toNatClampNeg))) hx hb hK hP 27 0 wm_a38 rfl rfl rfl (ix_isIn c_2 (ir_6 hI)) dX9_drive_85 ?_
            refine lv_istore_n (lv' := [(3, .int (σ 38 (a1.toNatClampNeg))), (0, .ref h), (1, .int a1), (2, .int a2)]) hx hb dX9_drive_86 rfl hl (by decide) rfl (fun ls hl => ?_)
            refine lv_aload_n hx hb dX9_drive_87 rfl (lv_at hl 1 rfl) ?_
            refine va_get (D := D) (ci := 9) (v := .ref (ad 38)) (C := RX9) (T := TX9) (N := 51) hx hb hts hu9 hown hK hP 0 wm_0 rfl 38 (by decide) (hts (.fieldLink RX9 89 "GrazeBookModel" "hPiece" "[I") (List.mem_cons_of_mem _ mw_821)) (fun _ h9 => h9) rfl dX9_drive_88 ?_
            refine lv_iload_n hx hb dX9_drive_91 rfl (lv_at hl 2 rfl) ?_
            refine lv_iload_n hx hb dX9_drive_92 rfl (lv_at hl 3 rfl) ?_
            refine va_iast_k (k := (a1.toNatClampNeg)) hx hb hK hP hD hS 27 0 wm_a38 rfl rfl (ix_isIn c_2 (ir_6 hI)) dX9_drive_93 (fun H locs hP hD hS => ?_)
            rw [wm_s38] at hP hD
            refine lv_iload_n hx hb dX9_drive_94 rfl (lv_at hl 3 rfl) ?_
            refine lv_if_lt (tgt := 118) hx hb dX9_drive_95 (by decide) (fun _ => ?_) (fun c_13 => absurd c_12 c_13)
            refine lv_iload_n hx hb dX9_drive_118 rfl (lv_at hl 0 rfl) ?_
            have hI9 : IR (put σ 38 (a1.toNatClampNeg) a2) := hI
            subst hR
            rw [hQ]
            exact W.iret (v := (σ 38 (a1.toNatClampNeg))) hx hb hr (fun t ht hW => ⟨⟨(σ 38 (a1.toNatClampNeg)), (), rfl, rfl, ⟨by rw [ht]; exact hP, va_K.moved hW.alike hK, by rw [← hAe]; exact hD⟩, hI9⟩, hS.F ht⟩) hS.2.2 dX9_drive_119
          · have hR := (if_neg c_12).symm.trans hR
            refine lv_aload_n hx hb dX9_drive_55 rfl (lv_at hl 0 rfl) ?_
            refine lv_iload_n hx hb dX9_drive_56 rfl (lv_at hl 2 rfl) ?_
            have hF := pw_free hD hS hA
            refine va_calli (va_runV (As := [.int a2]) (rest := []) ⟨hx, hb, hml, hown, hts⟩ (k_X9_rests l D ca h ad σ a2 H.size hI (absurd (by rw [c_5]; decide) c_12) _ rfl) (cwV 1 hts gX9_drive_X9_rests rfl rfl rfl (by decide +kernel) ⟨Nat.le_of_ble_eq_true rfl, Nat.le_of_ble_eq_true rfl⟩) ⟨pw_blind, va_recv hK hP (ci := 9) (q0 := 0) rfl wm_0, pw_give hP hK hD⟩ rfl rfl hl.1 rfl (lv_room (Nat.le_of_ble_eq_true rfl)) dX9_drive_57 ⟨Nat.le_of_ble_eq_true rfl, Nat.le_of_ble_eq_true rfl⟩) hS (fun q _ h => hF q h) hF (fun r_14 u t H1 locs ht hvm hw hB hz1 hk1 hS => ?_)
            subst hw
            obtain ⟨hP, hD⟩ := pw_back hF ht hB
            clear hB hk1 hz1 hF
            generalize H1 = H at hP hS ⊢
            refine lv_if_ne (tgt := 73) hx hb dX9_drive_60 (by decide) (fun c_15 => ?_) (fun c_15 => ?_)
            · have hR := (if_neg c_15).symm.trans hR
              refine lv_aload_n hx hb dX9_drive_73 rfl (lv_at hl 0 rfl) ?_
              refine lv_bipush (v := (-3 : Int32)) hx hb dX9_drive_74 (by decide) ?_
              have hF := pw_free hD hS hA
              refine va_calli (va_runV (As := [.int (-3 : Int32)]) (rest := []) ⟨hx, hb, hml, hown, hts⟩ (k_X9_refuse l D ca h ad σ (-3 : Int32) H.size hI (by unfold vp_in; decide) _ rfl) (cwV 1 hts gX9_drive_X9_refuse rfl rfl rfl (by decide +kernel) ⟨Nat.le_of_ble_eq_true rfl, Nat.le_of_ble_eq_true rfl⟩) ⟨pw_blind, va_recv hK hP (ci := 9) (q0 := 0) rfl wm_0, pw_give hP hK hD⟩ rfl rfl hl.1 rfl (lv_room (Nat.le_of_ble_eq_true rfl)) dX9_drive_76 ⟨Nat.le_of_ble_eq_true rfl, Nat.le_of_ble_eq_true rfl⟩) hS (fun q _ h => hF q h) hF (fun r_16 u t H1 locs ht hvm hw hB hz1 hk1 hS => ?_)
              subst hw
              obtain ⟨hB, hI_17⟩ := hB
              obtain ⟨hP, hD⟩ := pw_back hF ht hB
              clear hB hk1 hz1 hF
              generalize H1 = H at hP hS ⊢
              have hI9 : IR ((s_X9_refuse σ (-3 : Int32)).2) := hI_17
              subst hR
              rw [hQ]
              exact W.iret (v := ((s_X9_refuse σ (-3 : Int32)).1)) hx hb hr (fun t ht hW => ⟨⟨((s_X9_refuse σ (-3 : Int32)).1), (), rfl, rfl, ⟨by rw [ht]; exact hP, va_K.moved hW.alike hK, by rw [← hAe]; exact hD⟩, hI9⟩, hS.F ht⟩) hS.2.2 dX9_drive_79
            · have hR := (if_pos c_15).symm.trans hR
              refine lv_aload_n hx hb dX9_drive_63 rfl (lv_at hl 0 rfl) ?_
              refine va_get (D := D) (ci := 9) (v := .ref (ad 38)) (C := RX9) (T := TX9) (N := 51) hx hb hts hu9 hown hK hP 0 wm_0 rfl 38 (by decide) (hts (.fieldLink RX9 89 "GrazeBookModel" "hPiece" "[I") (List.mem_cons_of_mem _ mw_821)) (fun _ h9 => h9) rfl dX9_drive_64 ?_
              refine lv_iload_n hx hb dX9_drive_67 rfl (lv_at hl 1 rfl) ?_
              refine va_iald_k (k := (a1.toNatClampNeg)) (v := (σ 38 (a1.toNatClampNeg))) hx hb hK hP 27 0 wm_a38 rfl rfl rfl (ix_isIn c_2 (ir_6 hI)) dX9_drive_68 ?_
              refine lv_iload_n hx hb dX9_drive_69 rfl (lv_at hl 2 rfl) ?_
              refine lv_icmp_ne (tgt := 80) hx hb dX9_drive_70 (by decide) (fun c_18 => ?_) (fun c_18 => ?_)
              · have hR := (if_neg c_18).symm.trans hR
                refine lv_aload_n hx hb dX9_drive_80 rfl (lv_at hl 0 rfl) ?_
                refine va_get (D := D) (ci := 9) (v := .ref (ad 38)) (C := RX9) (T := TX9) (N := 51) hx hb hts hu9 hown hK hP 0 wm_0 rfl 38 (by decide) (hts (.fieldLink RX9 89 "GrazeBookModel" "hPiece" "[I") (List.mem_cons_of_mem _ mw_821)) (fun _ h9 => h9) rfl dX9_drive_81 ?_
                refine lv_iload_n hx hb dX9_drive_84 rfl (lv_at hl 1 rfl) ?_
                refine va_iald_k (k := (a1.toNatClampNeg)) (v := (σ 38 (a1.toNatClampNeg))) hx hb hK hP 27 0 wm_a38 rfl rfl rfl (ix_isIn c_2 (ir_6 hI)) dX9_drive_85 ?_
                refine lv_istore_n (lv' := [(3, .int (σ 38 (a1.toNatClampNeg))), (0, .ref h), (1, .int a1), (2, .int a2)]) hx hb dX9_drive_86 rfl hl (by decide) rfl (fun ls hl => ?_)
                refine lv_aload_n hx hb dX9_drive_87 rfl (lv_at hl 1 rfl) ?_
                refine va_get (D := D) (ci := 9) (v := .ref (ad 38)) (C := RX9) (T := TX9) (N := 51) hx hb hts hu9 hown hK hP 0 wm_0 rfl 38 (by decide) (hts (.fieldLink RX9 89 "GrazeBookModel" "hPiece" "[I") (List.mem_cons_of_mem _ mw_821)) (fun _ h9 => h9) rfl dX9_drive_88 ?_
                refine lv_iload_n hx hb dX9_drive_91 rfl (lv_at hl 2 rfl) ?_
                refine lv_iload_n hx hb dX9_drive_92 rfl (lv_at hl 3 rfl) ?_
                refine va_iast_k (k := (a1.toNatClampNeg)) hx hb hK hP hD hS 27 0 wm_a38 rfl rfl (ix_isIn c_2 (ir_6 hI)) dX9_drive_93 (fun H locs hP hD hS => ?_)
                rw [wm_s38] at hP hD
                refine lv_iload_n hx hb dX9_drive_94 rfl (lv_at hl 3 rfl) ?_
                refine lv_if_lt (tgt := 118) hx hb dX9_drive_95 (by decide) (fun c_19 => absurd c_19 c_12) (fun _ => ?_)
                refine lv_aload_n hx hb dX9_drive_98 rfl (lv_at hl 1 rfl) ?_
                refine va_get (D := D) (ci := 9) (v := .ref (ad 39)) (C := RX9) (T := TX9) (N := 51) hx hb hts hu9 hown hK hP 0 wm_0 rfl 39 (by decide) (hts (.fieldLink RX9 92 "GrazeBookModel" "hOrder" "[I") (List.mem_cons_of_mem _ mw_822)) (fun _ h9 => h9) rfl dX9_drive_99 ?_
                refine lv_iload_n hx hb dX9_drive_102 rfl (lv_at hl 2 rfl) ?_
                refine lv_aload_n hx hb dX9_drive_103 rfl (lv_at hl 1 rfl) ?_
                refine va_get (D := D) (ci := 9) (v := .int (σ 7 0)) (C := RX9) (T := TX9) (N := 51) hx hb hts hu9 hown hK hP 0 wm_0 rfl 7 (by decide) (hts (.fieldLink RX9 188 "GrazeBookModel" "orders" "I") (List.mem_cons_of_mem _ mw_790)) (fun _ h9 => h9) rfl dX9_drive_104 ?_
                refine va_iast_k (k := (a1.toNatClampNeg)) hx hb hK hP hD hS 28 0 wm_a39 rfl rfl (ix_isIn c_2 (ir_6 hI)) dX9_drive_107 (fun H locs hP hD hS => ?_)
                rw [wm_s39] at hP hD
                refine lv_aload_n hx hb dX9_drive_108 rfl (lv_at hl 1 rfl) ?_
                refine lv_dup hx hb dX9_drive_109 rfl ?_
                refine va_get (D := D) (ci := 9) (v := .int (σ 7 0)) (C := RX9) (T := TX9) (N := 51) hx hb hts hu9 hown hK hP 0 wm_0 rfl 7 (by decide) (hts (.fieldLink RX9 188 "GrazeBookModel" "orders" "I") (List.mem_cons_of_mem _ mw_790)) (fun _ h9 => h9) rfl dX9_drive_110 ?_
                refine lv_iconst (v := (1 : Int32)) hx hb dX9_drive_113 (by decide) ?_
                refine lv_iadd hx hb dX9_drive_114 ?_
                refine va_put (D := D) (ci := 9) (v := .int ((σ 7 0) + (1 : Int32))) (ty := .int) (C := RX9) (T := TX9) (N := 51) hx hb hts hu9 tyX9 tyX9_ok nmX9 hown hK hP hD hS 0 wm_0 rfl 7 (by decide) (hts (.fieldLink RX9 188 "GrazeBookModel" "orders" "I") (List.mem_cons_of_mem _ mw_790)) (fun _ h9 => h9) rfl (by decide +kernel) rfl rfl (Nat.le_of_ble_eq_true rfl) dX9_drive_115 (fun H locs hP hD hS => ?_)
                rw [wm_p7] at hP hD
                refine lv_iload_n hx hb dX9_drive_118 rfl (lv_at hl 0 rfl) ?_
                have hI9 : IR (put (put (put σ 38 (a1.toNatClampNeg) a2) 39 (a1.toNatClampNeg) (σ 7 0)) 7 0 ((σ 7 0) + (1 : Int32))) := hI
                subst hR
                rw [hQ]
                exact W.iret (v := (σ 38 (a1.toNatClampNeg))) hx hb hr (fun t ht hW => ⟨⟨(σ 38 (a1.toNatClampNeg)), (), rfl, rfl, ⟨by rw [ht]; exact hP, va_K.moved hW.alike hK, by rw [← hAe]; exact hD⟩, hI9⟩, hS.F ht⟩) hS.2.2 dX9_drive_119
              · have hR := (if_pos c_18).symm.trans hR
                refine lv_aload_n hx hb dX9_drive_73 rfl (lv_at hl 0 rfl) ?_
                refine lv_bipush (v := (-3 : Int32)) hx hb dX9_drive_74 (by decide) ?_
                have hF := pw_free hD hS hA
                refine va_calli (va_runV (As := [.int (-3 : Int32)]) (rest := []) ⟨hx, hb, hml, hown, hts⟩ (k_X9_refuse l D ca h ad σ (-3 : Int32) H.size hI (by unfold vp_in; decide) _ rfl) (cwV 1 hts gX9_drive_X9_refuse rfl rfl rfl (by decide +kernel) ⟨Nat.le_of_ble_eq_true rfl, Nat.le_of_ble_eq_true rfl⟩) ⟨pw_blind, va_recv hK hP (ci := 9) (q0 := 0) rfl wm_0, pw_give hP hK hD⟩ rfl rfl hl.1 rfl (lv_room (Nat.le_of_ble_eq_true rfl)) dX9_drive_76 ⟨Nat.le_of_ble_eq_true rfl, Nat.le_of_ble_eq_true rfl⟩) hS (fun q _ h => hF q h) hF (fun r_20 u t H1 locs ht hvm hw hB hz1 hk1 hS => ?_)
                subst hw
                obtain ⟨hB, hI_21⟩ := hB
                obtain ⟨hP, hD⟩ := pw_back hF ht hB
                clear hB hk1 hz1 hF
                generalize H1 = H at hP hS ⊢
                have hI9 : IR ((s_X9_refuse σ (-3 : Int32)).2) := hI_21
                subst hR
                rw [hQ]
                exact W.iret (v := ((s_X9_refuse σ (-3 : Int32)).1)) hx hb hr (fun t ht hW => ⟨⟨((s_X9_refuse σ (-3 : Int32)).1), (), rfl, rfl, ⟨by rw [ht]; exact hP, va_K.moved hW.alike hK, by rw [← hAe]; exact hD⟩, hI9⟩, hS.F ht⟩) hS.2.2 dX9_drive_79
    · have hR := (if_neg c_5).symm.trans hR
      refine lv_iload_n hx hb dX9_drive_16 rfl (lv_at hl 2 rfl) ?_
      refine lv_aload_n hx hb dX9_drive_17 rfl (lv_at hl 0 rfl) ?_
      refine va_get (D := D) (ci := 9) (v := .int (σ 2 0)) (C := RX9) (T := TX9) (N := 51) hx hb hts hu9 hown hK hP 0 wm_0 rfl 2 (by decide) (hts (.fieldLink RX9 127 "GrazeBookModel" "pieces" "I") (List.mem_cons_of_mem _ mw_785)) (fun _ h9 => h9) rfl dX9_drive_18 ?_
      have hF := pw_free (pn_D (A := A)) hS hA
      refine va_calli (va_runS (As := [.int a2, .int (σ 2 0)]) (rest := []) ⟨hx, hb, hml, hown, hts⟩ (k_X9_isIn l D ca a2 (σ 2 0) H.size _ rfl) (va_cwS 2 hts gX9_drive_X9_isIn rfl rfl rfl (by decide +kernel) ⟨Nat.le_of_ble_eq_true rfl, Nat.le_of_ble_eq_true rfl⟩) ⟨pw_blind, pw_give pn_P hK (pn_D (A := A))⟩ rfl rfl hl.1 rfl (lv_room (Nat.le_of_ble_eq_true rfl)) dX9_drive_21 ⟨Nat.le_of_ble_eq_true rfl, Nat.le_of_ble_eq_true rfl⟩) hS (fun q _ h => hF q h) hF (fun r_22 u t H1 locs ht hvm hw hB hz1 hk1 hS => ?_)
      subst hw
      have hP := pn_back hP hk1
      clear hB hk1 hz1 hF
      generalize H1 = H at hP hS ⊢
      refine lv_if_ne (tgt := 33) hx hb dX9_drive_24 (by decide) (fun c_23 => ?_) (fun c_23 => ?_)
      · have hR := (if_neg c_23).symm.trans hR
        refine lv_aload_n hx hb dX9_drive_33 rfl (lv_at hl 0 rfl) ?_
        refine va_get (D := D) (ci := 9) (v := .ref (ad 41)) (C := RX9) (T := TX9) (N := 51) hx hb hts hu9 hown hK hP 0 wm_0 rfl 41 (by decide) (hts (.fieldLink RX9 98 "GrazeBookModel" "hState" "[I") (List.mem_cons_of_mem _ mw_824)) (fun _ h9 => h9) rfl dX9_drive_34 ?_
        refine lv_iload_n hx hb dX9_drive_37 rfl (lv_at hl 1 rfl) ?_
        refine va_iald_k (k := (a1.toNatClampNeg)) (v := (σ 41 (a1.toNatClampNeg))) hx hb hK hP 30 0 wm_a41 rfl rfl rfl (ix_isIn c_2 (ir_6 hI)) dX9_drive_38 ?_
        refine lv_if_ne (tgt := 73) hx hb dX9_drive_39 (by decide) (fun c_24 => ?_) (fun c_24 => ?_)
        · have hR := (if_neg c_24).symm.trans hR
          refine lv_aload_n hx hb dX9_drive_73 rfl (lv_at hl 0 rfl) ?_
          refine lv_bipush (v := (-3 : Int32)) hx hb dX9_drive_74 (by decide) ?_
          have hF := pw_free hD hS hA
          refine va_calli (va_runV (As := [.int (-3 : Int32)]) (rest := []) ⟨hx, hb, hml, hown, hts⟩ (k_X9_refuse l D ca h ad σ (-3 : Int32) H.size hI (by unfold vp_in; decide) _ rfl) (cwV 1 hts gX9_drive_X9_refuse rfl rfl rfl (by decide +kernel) ⟨Nat.le_of_ble_eq_true rfl, Nat.le_of_ble_eq_true rfl⟩) ⟨pw_blind, va_recv hK hP (ci := 9) (q0 := 0) rfl wm_0, pw_give hP hK hD⟩ rfl rfl hl.1 rfl (lv_room (Nat.le_of_ble_eq_true rfl)) dX9_drive_76 ⟨Nat.le_of_ble_eq_true rfl, Nat.le_of_ble_eq_true rfl⟩) hS (fun q _ h => hF q h) hF (fun r_25 u t H1 locs ht hvm hw hB hz1 hk1 hS => ?_)
          subst hw
          obtain ⟨hB, hI_26⟩ := hB
          obtain ⟨hP, hD⟩ := pw_back hF ht hB
          clear hB hk1 hz1 hF
          generalize H1 = H at hP hS ⊢
          have hI9 : IR ((s_X9_refuse σ (-3 : Int32)).2) := hI_26
          subst hR
          rw [hQ]
          exact W.iret (v := ((s_X9_refuse σ (-3 : Int32)).1)) hx hb hr (fun t ht hW => ⟨⟨((s_X9_refuse σ (-3 : Int32)).1), (), rfl, rfl, ⟨by rw [ht]; exact hP, va_K.moved hW.alike hK, by rw [← hAe]; exact hD⟩, hI9⟩, hS.F ht⟩) hS.2.2 dX9_drive_79
        · have hR := (if_pos c_24).symm.trans hR
          refine lv_aload_n hx hb dX9_drive_42 rfl (lv_at hl 0 rfl) ?_
          refine va_get (D := D) (ci := 9) (v := .ref (ad 38)) (C := RX9) (T := TX9) (N := 51) hx hb hts hu9 hown hK hP 0 wm_0 rfl 38 (by decide) (hts (.fieldLink RX9 89 "GrazeBookModel" "hPiece" "[I") (List.mem_cons_of_mem _ mw_821)) (fun _ h9 => h9) rfl dX9_drive_43 ?_
          refine lv_iload_n hx hb dX9_drive_46 rfl (lv_at hl 1 rfl) ?_
          refine va_iald_k (k := (a1.toNatClampNeg)) (v := (σ 38 (a1.toNatClampNeg))) hx hb hK hP 27 0 wm_a38 rfl rfl rfl (ix_isIn c_2 (ir_6 hI)) dX9_drive_47 ?_
          refine lv_if_lt (tgt := 73) hx hb dX9_drive_48 (by decide) (fun c_27 => ?_) (fun c_27 => ?_)
          · have hR := (if_pos c_27).symm.trans hR
            refine lv_aload_n hx hb dX9_drive_73 rfl (lv_at hl 0 rfl) ?_
            refine lv_bipush (v := (-3 : Int32)) hx hb dX9_drive_74 (by decide) ?_
            have hF := pw_free hD hS hA
            refine va_calli (va_runV (As := [.int (-3 : Int32)]) (rest := []) ⟨hx, hb, hml, hown, hts⟩ (k_X9_refuse l D ca h ad σ (-3 : Int32) H.size hI (by unfold vp_in; decide) _ rfl) (cwV 1 hts gX9_drive_X9_refuse rfl rfl rfl (by decide +kernel) ⟨Nat.le_of_ble_eq_true rfl, Nat.le_of_ble_eq_true rfl⟩) ⟨pw_blind, va_recv hK hP (ci := 9) (q0 := 0) rfl wm_0, pw_give hP hK hD⟩ rfl rfl hl.1 rfl (lv_room (Nat.le_of_ble_eq_true rfl)) dX9_drive_76 ⟨Nat.le_of_ble_eq_true rfl, Nat.le_of_ble_eq_true rfl⟩) hS (fun q _ h => hF q h) hF (fun r_28 u t H1 locs ht hvm hw hB hz1 hk1 hS => ?_)
            subst hw
            obtain ⟨hB, hI_29⟩ := hB
            obtain ⟨hP, hD⟩ := pw_back hF ht hB
            clear hB hk1 hz1 hF
            generalize H1 = H at hP hS ⊢
            have hI9 : IR ((s_X9_refuse σ (-3 : Int32)).2) := hI_29
            subst hR
            rw [hQ]
            exact W.iret (v := ((s_X9_refuse σ (-3 : Int32)).1)) hx hb hr (fun t ht hW => ⟨⟨((s_X9_refuse σ (-3 : Int32)).1), (), rfl, rfl, ⟨by rw [ht]; exact hP, va_K.moved hW.alike hK, by rw [← hAe]; exact hD⟩, hI9⟩, hS.F ht⟩) hS.2.2 dX9_drive_79
          · have hR := (if_neg c_27).symm.trans hR
            refine lv_iload_n hx hb dX9_drive_51 rfl (lv_at hl 2 rfl) ?_
            refine lv_if_lt (tgt := 80) hx hb dX9_drive_52 (by decide) (fun c_30 => ?_) (fun c_30 => ?_)
            · have hR := (if_pos c_30).symm.trans hR
              refine lv_aload_n hx hb dX9_drive_80 rfl (lv_at hl 0 rfl) ?_
              refine va_get (D := D) (ci := 9) (v := .ref (ad 38)) (C := RX9) (T := TX9) (N := 51) hx hb hts hu9 hown hK hP 0 wm_0 rfl 38 (by decide) (hts (.fieldLink RX9 89 "GrazeBookModel" "hPiece" "[I") (List.mem_cons_of_mem _ mw_821)) (fun _ h9 => h9) rfl dX9_drive_81 ?_
              refine lv_iload_n hx hb dX9_drive_84 rfl (lv_at hl 1 rfl) ?_
              refine va_iald_k (k := (a1.toNatClampNeg)) (v := (σ 38 (a1.toNatClampNeg))) hx hb hK hP 27 0 wm_a38 rfl rfl rfl (ix_isIn c_2 (ir_6 hI)) dX9_drive_85 ?_
              refine lv_istore_n (lv' := [(3, .int (σ 38 (a1.toNatClampNeg))), (0, .ref h), (1, .int a1), (2, .int a2)]) hx hb dX9_drive_86 rfl hl (by decide) rfl (fun ls hl => ?_)
              refine lv_aload_n hx hb dX9_drive_87 rfl (lv_at hl 1 rfl) ?_
              refine va_get (D := D) (ci := 9) (v := .ref (ad 38)) (C := RX9) (T := TX9) (N := 51) hx hb hts hu9 hown hK hP 0 wm_0 rfl 38 (by decide) (hts (.fieldLink RX9 89 "GrazeBookModel" "hPiece" "[I") (List.mem_cons_of_mem _ mw_821)) (fun _ h9 => h9) rfl dX9_drive_88 ?_
              refine lv_iload_n hx hb dX9_drive_91 rfl (lv_at hl 2 rfl) ?_
              refine lv_iload_n hx hb dX9_drive_92 rfl (lv_at hl 3 rfl) ?_
              refine va_iast_k (k := (a1.toNatClampNeg)) hx hb hK hP hD hS 27 0 wm_a38 rfl rfl (ix_isIn c_2 (ir_6 hI)) dX9_drive_93 (fun H locs hP hD hS => ?_)
              rw [wm_s38] at hP hD
              refine lv_iload_n hx hb dX9_drive_94 rfl (lv_at hl 3 rfl) ?_
              refine lv_if_lt (tgt := 118) hx hb dX9_drive_95 (by decide) (fun _ => ?_) (fun c_31 => absurd c_30 c_31)
              refine lv_iload_n hx hb dX9_drive_118 rfl (lv_at hl 0 rfl) ?_
              have hI9 : IR (put σ 38 (a1.toNatClampNeg) a2) := hI
              subst hR
              rw [hQ]
              exact W.iret (v := (σ 38 (a1.toNatClampNeg))) hx hb hr (fun t ht hW => ⟨⟨(σ 38 (a1.toNatClampNeg)), (), rfl, rfl, ⟨by rw [ht]; exact hP, va_K.moved hW.alike hK, by rw [← hAe]; exact hD⟩, hI9⟩, hS.F ht⟩) hS.2.2 dX9_drive_119
            · have hR := (if_neg c_30).symm.trans hR
              refine lv_aload_n hx hb dX9_drive_55 rfl (lv_at hl 0 rfl) ?_
              refine lv_iload_n hx hb dX9_drive_56 rfl (lv_at hl 2 rfl) ?_
              have hF := pw_free hD hS hA
              refine va_calli (va_runV (As := [.int a2]) (rest := []) ⟨hx, hb, hml, hown, hts⟩ (k_X9_rests l D ca h ad σ a2 H.size hI (ix_isIn c_23 (ir_2 hI)) _ rfl) (cwV 1 hts gX9_drive_X9_rests rfl rfl rfl (by decide +kernel) ⟨Nat.le_of_ble_eq_true rfl, Nat.le_of_ble_eq_true rfl⟩) ⟨pw_blind, va_recv hK hP (ci := 9) (q0 := 0) rfl wm_0, pw_give hP hK hD⟩ rfl rfl hl.1 rfl (lv_room (Nat.le_of_ble_eq_true rfl)) dX9_drive_57 ⟨Nat.le_of_ble_eq_true rfl, Nat.le_of_ble_eq_true rfl⟩) hS (fun q _ h => hF q h) hF (fun r_32 u t H1 locs ht hvm hw hB hz1 hk1 hS => ?_)
              subst hw
              obtain ⟨hP, hD⟩ := pw_back hF ht hB
              clear hB hk1 hz1 hF
              generalize H1 = H at hP hS ⊢
              refine lv_if_ne (tgt := 73) hx hb dX9_drive_60 (by decide) (fun c_33 => ?_) (fun c_33 => ?_)
              · have hR := (if_neg c_33).symm.trans hR
                refine lv_aload_n hx hb dX9_drive_73 rfl (lv_at hl 0 rfl) ?_
                refine lv_bipush (v := (-3 : Int32)) hx hb dX9_drive_74 (by decide) ?_
                have hF := pw_free hD hS hA
                refine va_calli (va_runV (As := [.int (-3 : Int32)]) (rest := []) ⟨hx, hb, hml, hown, hts⟩ (k_X9_refuse l D ca h ad σ (-3 : Int32) H.size hI (by unfold vp_in; decide) _ rfl) (cwV 1 hts gX9_drive_X9_refuse rfl rfl rfl (by decide +kernel) ⟨Nat.le_of_ble_eq_true rfl, Nat.le_of_ble_eq_true rfl⟩) ⟨pw_blind, va_recv hK hP (ci := 9) (q0 := 0) rfl wm_0, pw_give hP hK hD⟩ rfl rfl hl.1 rfl (lv_room (Nat.le_of_ble_eq_true rfl)) dX9_drive_76 ⟨Nat.le_of_ble_eq_true rfl, Nat.le_of_ble_eq_true rfl⟩) hS (fun q _ h => hF q h) hF (fun r_34 u t H1 locs ht hvm hw hB hz1 hk1 hS => ?_)
                subst hw
                obtain ⟨hB, hI_35⟩ := hB
                obtain ⟨hP, hD⟩ := pw_back hF ht hB
                clear hB hk1 hz1 hF
                generalize H1 = H at hP hS ⊢
                have hI9 : IR ((s_X9_refuse σ (-3 : Int32)).2) := hI_35
                subst hR
                rw [hQ]
                exact W.iret (v := ((s_X9_refuse σ (-3 : Int32)).1)) hx hb hr (fun t ht hW => ⟨⟨((s_X9_refuse σ (-3 : Int32)).1), (), rfl, rfl, ⟨by rw [ht]; exact hP, va_K.moved hW.alike hK, by rw [← hAe]; exact hD⟩, hI9⟩, hS.F ht⟩) hS.2.2 dX9_drive_79
              · have hR := (if_pos c_33).symm.trans hR
                refine lv_aload_n hx hb dX9_drive_63 rfl (lv_at hl 0 rfl) ?_
                refine va_get (D := D) (ci := 9) (v := .ref (ad 38)) (C := RX9) (T := TX9) (N := 51) hx hb hts hu9 hown hK hP 0 wm_0 rfl 38 (by decide) (hts (.fieldLink RX9 89 "GrazeBookModel" "hPiece" "[I") (List.mem_cons_of_mem _ mw_821)) (fun _ h9 => h9) rfl dX9_drive_64 ?_
                refine lv_iload_n hx hb dX9_drive_67 rfl (lv_at hl 1 rfl) ?_
                refine va_iald_k (k := (a1.toNatClampNeg)) (v := (σ 38 (a1.toNatClampNeg))) hx hb hK hP 27 0 wm_a38 rfl rfl rfl (ix_isIn c_2 (ir_6 hI)) dX9_drive_68 ?_
                refine lv_iload_n hx hb dX9_drive_69 rfl (lv_at hl 2 rfl) ?_
                refine lv_icmp_ne (tgt := 80) hx hb dX9_drive_70 (by decide) (fun c_36 => ?_) (fun c_36 => ?_)
                · have hR := (if_neg c_36).symm.trans hR
                  refine lv_aload_n hx hb dX9_drive_80 rfl (lv_at hl 0 rfl) ?_
                  refine va_get (D := D) (ci := 9) (v := .ref (ad 38)) (C := RX9) (T := TX9) (N := 51) hx hb hts hu9 hown hK hP 0 wm_0 rfl 38 (by decide) (hts (.fieldLink RX9 89 "GrazeBookModel" "hPiece" "[I") (List.mem_cons_of_mem _ mw_821)) (fun _ h9 => h9) rfl dX9_drive_81 ?_
                  refine lv_iload_n hx hb dX9_drive_84 rfl (lv_at hl 1 rfl) ?_
                  refine va_iald_k (k := (a1.toNatClampNeg)) (v := (σ 38 (a1.toNatClampNeg))) hx hb hK hP 27 0 wm_a38 rfl rfl rfl (ix_isIn c_2 (ir_6 hI)) dX9_drive_85 ?_
                  refine lv_istore_n (lv' := [(3, .int (σ 38 (a1.toNatClampNeg))), (0, .ref h), (1, .int a1), (2, .int a2)]) hx hb dX9_drive_86 rfl hl (by decide) rfl (fun ls hl => ?_)
                  refine lv_aload_n hx hb dX9_drive_87 rfl (lv_at hl 1 rfl) ?_
                  refine va_get (D := D) (ci := 9) (v := .ref (ad 38)) (C := RX9) (T := TX9) (N := 51) hx hb hts hu9 hown hK hP 0 wm_0 rfl 38 (by decide) (hts (.fieldLink RX9 89 "GrazeBookModel" "hPiece" "[I") (List.mem_cons_of_mem _ mw_821)) (fun _ h9 => h9) rfl dX9_drive_88 ?_
                  refine lv_iload_n hx hb dX9_drive_91 rfl (lv_at hl 2 rfl) ?_
                  refine lv_iload_n hx hb dX9_drive_92 rfl (lv_at hl 3 rfl) ?_
                  refine va_iast_k (k := (a1.toNatClampNeg)) hx hb hK hP hD hS 27 0 wm_a38 rfl rfl (ix_isIn c_2 (ir_6 hI)) dX9_drive_93 (fun H locs hP hD hS => ?_)
                  rw [wm_s38] at hP hD
                  refine lv_iload_n hx hb dX9_drive_94 rfl (lv_at hl 3 rfl) ?_
                  refine lv_if_lt (tgt := 118) hx hb dX9_drive_95 (by decide) (fun c_37 => absurd c_37 c_30) (fun _ => ?_)
                  refine lv_aload_n hx hb dX9_drive_98 rfl (lv_at hl 1 rfl) ?_
                  refine va_get (D := D) (ci := 9) (v := .ref (ad 39)) (C := RX9) (T := TX9) (N := 51) hx hb hts hu9 hown hK hP 0 wm_0 rfl 39 (by decide) (hts (.fieldLink RX9 92 "GrazeBookModel" "hOrder" "[I") (List.mem_cons_of_mem _ mw_822)) (fun _ h9 => h9) rfl dX9_drive_99 ?_
                  refine lv_iload_n hx hb dX9_drive_102 rfl (lv_at hl 2 rfl) ?_
                  refine lv_aload_n hx hb dX9_drive_103 rfl (lv_at hl 1 rfl) ?_
                  refine va_get (D := D) (ci := 9) (v := .int (σ 7 0)) (C := RX9) (T := TX9) (N := 51) hx hb hts hu9 hown hK hP 0 wm_0 rfl 7 (by decide) (hts (.fieldLink RX9 188 "GrazeBookModel" "orders" "I") (List.mem_cons_of_mem _ mw_790)) (fun _ h9 => h9) rfl dX9_drive_104 ?_
                  refine va_iast_k (k := (a1.toNatClampNeg)) hx hb hK hP hD hS 28 0 wm_a39 rfl rfl (ix_isIn c_2 (ir_6 hI)) dX9_drive_107 (fun H locs hP hD hS => ?_)
                  rw [wm_s39] at hP hD
                  refine lv_aload_n hx hb dX9_drive_108 rfl (lv_at hl 1 rfl) ?_
                  refine lv_dup hx hb dX9_drive_109 rfl ?_
                  refine va_get (D := D) (ci := 9) (v := .int (σ 7 0)) (C := RX9) (T := TX9) (N := 51) hx hb hts hu9 hown hK hP 0 wm_0 rfl 7 (by decide) (hts (.fieldLink RX9 188 "GrazeBookModel" "orders" "I") (List.mem_cons_of_mem _ mw_790)) (fun _ h9 => h9) rfl dX9_drive_110 ?_
                  refine lv_iconst (v := (1 : Int32)) hx hb dX9_drive_113 (by decide) ?_
                  refine lv_iadd hx hb dX9_drive_114 ?_
                  refine va_put (D := D) (ci := 9) (v := .int ((σ 7 0) + (1 : Int32))) (ty := .int) (C := RX9) (T := TX9) (N := 51) hx hb hts hu9 tyX9 tyX9_ok nmX9 hown hK hP hD hS 0 wm_0 rfl 7 (by decide) (hts (.fieldLink RX9 188 "GrazeBookModel" "orders" "I") (List.mem_cons_of_mem _ mw_790)) (fun _ h9 => h9) rfl (by decide +kernel) rfl rfl (Nat.le_of_ble_eq_true rfl) dX9_drive_115 (fun H locs hP hD hS => ?_)
                  rw [wm_p7] at hP hD
                  refine lv_iload_n hx hb dX9_drive_118 rfl (lv_at hl 0 rfl) ?_
                  have hI9 : IR (put (put (put σ 38 (a1.toNatClampNeg) a2) 39 (a1.toNatClampNeg) (σ 7 0)) 7 0 ((σ 7 0) + (1 : Int32))) := hI
                  subst hR
                  rw [hQ]
                  exact W.iret (v := (σ 38 (a1.toNatClampNeg))) hx hb hr (fun t ht hW => ⟨⟨(σ 38 (a1.toNatClampNeg)), (), rfl, rfl, ⟨by rw [ht]; exact hP, va_K.moved hW.alike hK, by rw [← hAe]; exact hD⟩, hI9⟩, hS.F ht⟩) hS.2.2 dX9_drive_119
                · have hR := (if_pos c_36).symm.trans hR
                  refine lv_aload_n hx hb dX9_drive_73 rfl (lv_at hl 0 rfl) ?_
                  refine lv_bipush (v := (-3 : Int32)) hx hb dX9_drive_74 (by decide) ?_
                  have hF := pw_free hD hS hA
                  refine va_calli (va_runV (As := [.int (-3 : Int32)]) (rest := []) ⟨hx, hb, hml, hown, hts⟩ (k_X9_refuse l D ca h ad σ (-3 : Int32) H.size hI (by unfold vp_in; decide) _ rfl) (cwV 1 hts gX9_drive_X9_refuse rfl rfl rfl (by decide +kernel) ⟨Nat.le_of_ble_eq_true rfl, Nat.le_of_ble_eq_true rfl⟩) ⟨pw_blind, va_recv hK hP (ci := 9) (q0 := 0) rfl wm_0, pw_give hP hK hD⟩ rfl rfl hl.1 rfl (lv_room (Nat.le_of_ble_eq_true rfl)) dX9_drive_76 ⟨Nat.le_of_ble_eq_true rfl, Nat.le_of_ble_eq_true rfl⟩) hS (fun q _ h => hF q h) hF (fun r_38 u t H1 locs ht hvm hw hB hz1 hk1 hS => ?_)
                  subst hw
                  obtain ⟨hB, hI_39⟩ := hB
                  obtain ⟨hP, hD⟩ := pw_back hF ht hB
                  clear hB hk1 hz1 hF
                  generalize H1 = H at hP hS ⊢
                  have hI9 : IR ((s_X9_refuse σ (-3 : Int32)).2) := hI_39
                  subst hR
                  rw [hQ]
                  exact W.iret (v := ((s_X9_refuse σ (-3 : Int32)).1)) hx hb hr (fun t ht hW => ⟨⟨((s_X9_refuse σ (-3 : Int32)).1), (), rfl, rfl, ⟨by rw [ht]; exact hP, va_K.moved hW.alike hK, by rw [← hAe]; exact hD⟩, hI9⟩, hS.F ht⟩) hS.2.2 dX9_drive_79
      · have hR := (if_pos c_23).symm.trans hR
        refine lv_aload_n hx hb dX9_drive_27 rfl (lv_at hl 0 rfl) ?_
        refine lv_iconst (v := (-1 : Int32)) hx hb dX9_drive_28 (by decide) ?_
        have hF := pw_free hD hS hA
        refine va_calli (va_runV (As := [.int (-1 : Int32)]) (rest := []) ⟨hx, hb, hml, hown, hts⟩ (k_X9_refuse l D ca h ad σ (-1 : Int32) H.size hI (by unfold vp_in; decide) _ rfl) (cwV 1 hts gX9_drive_X9_refuse rfl rfl rfl (by decide +kernel) ⟨Nat.le_of_ble_eq_true rfl, Nat.le_of_ble_eq_true rfl⟩) ⟨pw_blind, va_recv hK hP (ci := 9) (q0 := 0) rfl wm_0, pw_give hP hK hD⟩ rfl rfl hl.1 rfl (lv_room (Nat.le_of_ble_eq_true rfl)) dX9_drive_29 ⟨Nat.le_of_ble_eq_true rfl, Nat.le_of_ble_eq_true rfl⟩) hS (fun q _ h => hF q h) hF (fun r_40 u t H1 locs ht hvm hw hB hz1 hk1 hS => ?_)
        subst hw
        obtain ⟨hB, hI_41⟩ := hB
        obtain ⟨hP, hD⟩ := pw_back hF ht hB
        clear hB hk1 hz1 hF
        generalize H1 = H at hP hS ⊢
        have hI9 : IR ((s_X9_refuse σ (-1 : Int32)).2) := hI_41
        subst hR
        rw [hQ]
        exact W.iret (v := ((s_X9_refuse σ (-1 : Int32)).1)) hx hb hr (fun t ht hW => ⟨⟨((s_X9_refuse σ (-1 : Int32)).1), (), rfl, rfl, ⟨by rw [ht]; exact hP, va_K.moved hW.alike hK, by rw [← hAe]; exact hD⟩, hI9⟩, hS.F ht⟩) hS.2.2 dX9_drive_32

def s_X9_covered (σ : St) (a1 : Int32) : Int32 × St := (if (s_X9_isIn a1 (σ 3 0)) = (0 : Int32) then (((s_X9_refuse σ (-1 : Int32)).1), (s_X9_refuse σ (-1 : Int32)).2) else (if (s_X9_lacksOf σ a1) = (0 : Int32) then ((1 : Int32), σ) else ((0 : Int32), σ)))
theorem fr_s_X9_covered (σ : St) (a1 : Int32) {f : Nat} (h0 : f ≠ 0) : (s_X9_covered σ a1 ).2 f = σ f := by
  unfold s_X9_covered
  all_goals ((try dsimp only) <;> ((repeat' split) <;> (try simp only [put_fr, ne_eq, not_false_eq_true, h0, fr_s_X9_refuse])))
set_option maxHeartbeats 1000000 in
set_option maxRecDepth 100000 in
theorem k_X9_covered (l : Launch) (D : va_G) (ca : Nat → ClassId) (h : Nat) (ad : Nat → Nat) (σ : St) (a1 : Int32) (sz : Nat) (hI : IR σ)  (R : Int32 × St) (hR : s_X9_covered σ a1 = R) : Met l yX9_covered wsX9_covered ({ frames := 3, cells := 0, slots := 0, locals := 74 }) (va_Pc [.ref h, .int a1] (pw_pre D ca (WM ca h ad σ) sz)) (va_Qi (fun (r : Int32) (_ : Unit) => r = R.1) (fun (_ : Unit) (t : State) => pw_post D ca (WM ca h ad σ) sz (WM ca h ad (R.2)) t ∧ IR R.2) (va_A (WM ca h ad σ) sz)) 0 0 (va_A (WM ca h ad σ) sz) := by
  refine Met.ofW (cc := cX9_covered) (maxL := 2) (ret := (some .int)) (by decide) rfl ?_
  intro p e s m args below meth c s₁ B hml hv
  obtain ⟨rfl, hsz, hP, hK, hD0⟩ := hv
  have hx := B.exec
  have hb := B.bytes
  have hr := B.returns
  have hts := atoms_spec (ws := wsX9_covered) B.pre
  have hown : s.vm.findClass RX9 = some m.cls := findClass_of_methodNamed B.named
  have hlocks := B.notSynchronized
  have hu9 : ∀ w ∈ u_ws RX9 TX9 51, w ∈ wsX9_covered := fun w h => List.mem_cons_of_mem _ (uw9 w h)
  subst hsz
  have hD := hD0.self (sz := s.heap.size)
  obtain ⟨A, hAe⟩ : ∃ A, A = va_A (WM ca h ad σ) s.heap.size := ⟨_, rfl⟩
  rw [← hAe] at hD ⊢
  have hA : ∀ q : Nat, s.heap.size ≤ q → A q := fun q h => by rw [hAe]; exact Or.inr h
  have hS : va_S A s.heap s.heap [] := va_S.rf
  have hl := lv_entry ([.ref h, .int a1]) (n := 2) (Nat.le_of_ble_eq_true rfl)
  rw [lg_entry_eq]
  generalize (lg_sl ([.ref h, .int a1]) ++ List.replicate (2 - (lg_sl ([.ref h, .int a1])).length) Slot.unset).toArray = ls at hl ⊢
  have hl : lv_has ls 2 [(0, .ref h), (1, .int a1)] := hl
  obtain ⟨H, hH⟩ : ∃ H, H = s.heap := ⟨_, rfl⟩
  have hP : va_P D vwCl (WM ca h ad σ) H := by rw [hH]; exact hP
  have hS : va_S A s.heap H [] := by rw [hH]; exact hS
  obtain ⟨QQ, hQ⟩ : ∃ Q9, Q9 = MQ below (va_Qi (fun (r : Int32) (_ : Unit) => r = R.1) (fun (_ : Unit) (t : State) => pw_post D ca (WM ca h ad σ) s.heap.size (WM ca h ad (R.2)) t ∧ IR R.2) A) ([.ref h, .int a1] : List Value).toArray s 0 0 A := ⟨_, rfl⟩
  rw [← hQ]
  show W _ _ _ _ _ _ _ _ _ _ s.heap _ _ _ _ _
  rw [← hH]
  have hR : (if (s_X9_isIn a1 (σ 3 0)) = (0 : Int32) then (((s_X9_refuse σ (-1 : Int32)).1), (s_X9_refuse σ (-1 : Int32)).2) else (if (s_X9_lacksOf σ a1) = (0 : Int32) then ((1 : Int32), σ) else ((0 : Int32), σ))) = R := hR
  refine lv_iload_n hx hb dX9_covered_0 rfl (lv_at hl 1 rfl) ?_
  refine lv_aload_n hx hb dX9_covered_1 rfl (lv_at hl 0 rfl) ?_
  refine va_get (D := D) (ci := 9) (v := .int (σ 3 0)) (C := RX9) (T := TX9) (N := 51) hx hb hts hu9 hown hK hP 0 wm_0 rfl 3 (by decide) (hts (.fieldLink RX9 131 "GrazeBookModel" "owners" "I") (List.mem_cons_of_mem _ mw_786)) (fun _ h9 => h9) rfl dX9_covered_2 ?_
  have hF := pw_free (pn_D (A := A)) hS hA
  refine va_calli (va_runS (As := [.int a1, .int (σ 3 0)]) (rest := []) ⟨hx, hb, hml, hown, hts⟩ (k_X9_isIn l D ca a1 (σ 3 0) H.size _ rfl) (va_cwS 2 hts gX9_covered_X9_isIn rfl rfl rfl (by decide +kernel) ⟨Nat.le_of_ble_eq_true rfl, Nat.le_of_ble_eq_true rfl⟩) ⟨pw_blind, pw_give pn_P hK (pn_D (A := A))⟩ rfl rfl hl.1 rfl (lv_room (Nat.le_of_ble_eq_true rfl)) dX9_covered_5 ⟨Nat.le_of_ble_eq_true rfl, Nat.le_of_ble_eq_true rfl⟩) hS (fun q _ h => hF q h) hF (fun r_1 u t H1 locs ht hvm hw hB hz1 hk1 hS => ?_)
  subst hw
  have hP := pn_back hP hk1
  clear hB hk1 hz1 hF
  generalize H1 = H at hP hS ⊢
  refine lv_if_eq (tgt := 27) hx hb dX9_covered_8 (by decide) (fun c_2 => ?_) (fun c_2 => ?_)
  · have hR := (if_pos c_2).symm.trans hR
    refine lv_aload_n hx hb dX9_covered_27 rfl (lv_at hl 0 rfl) ?_
    refine lv_iconst (v := (-1 : Int32)) hx hb dX9_covered_28 (by decide) ?_
    have hF := pw_free hD hS hA
    refine va_calli (va_runV (As := [.int (-1 : Int32)]) (rest := []) ⟨hx, hb, hml, hown, hts⟩ (k_X9_refuse l D ca h ad σ (-1 : Int32) H.size hI (by unfold vp_in; decide) _ rfl) (cwV 1 hts gX9_covered_X9_refuse rfl rfl rfl (by decide +kernel) ⟨Nat.le_of_ble_eq_true rfl, Nat.le_of_ble_eq_true rfl⟩) ⟨pw_blind, va_recv hK hP (ci := 9) (q0 := 0) rfl wm_0, pw_give hP hK hD⟩ rfl rfl hl.1 rfl (lv_room (Nat.le_of_ble_eq_true rfl)) dX9_covered_29 ⟨Nat.le_of_ble_eq_true rfl, Nat.le_of_ble_eq_true rfl⟩) hS (fun q _ h => hF q h) hF (fun r_3 u t H1 locs ht hvm hw hB hz1 hk1 hS => ?_)
    subst hw
    obtain ⟨hB, hI_4⟩ := hB
    obtain ⟨hP, hD⟩ := pw_back hF ht hB
    clear hB hk1 hz1 hF
    generalize H1 = H at hP hS ⊢
    have hI9 : IR ((s_X9_refuse σ (-1 : Int32)).2) := hI_4
    subst hR
    rw [hQ]
    exact W.iret (v := ((s_X9_refuse σ (-1 : Int32)).1)) hx hb hr (fun t ht hW => ⟨⟨((s_X9_refuse σ (-1 : Int32)).1), (), rfl, rfl, ⟨by rw [ht]; exact hP, va_K.moved hW.alike hK, by rw [← hAe]; exact hD⟩, hI9⟩, hS.F ht⟩) hS.2.2 dX9_covered_32
  · have hR := (if_neg c_2).symm.trans hR
    refine lv_aload_n hx hb dX9_covered_11 rfl (lv_at hl 0 rfl) ?_
    refine lv_iload_n hx hb dX9_covered_12 rfl (lv_at hl 1 rfl) ?_
    have hF := pw_free hD hS hA
    refine va_calli (va_runV (As := [.int a1]) (rest := []) ⟨hx, hb, hml, hown, hts⟩ (k_X9_lacksOf l D ca h ad σ a1 H.size hI _ rfl) (cwV 1 hts gX9_covered_X9_lacksOf rfl rfl rfl (by decide +kernel) ⟨Nat.le_of_ble_eq_true rfl, Nat.le_of_ble_eq_true rfl⟩) ⟨pw_blind, va_recv hK hP (ci := 9) (q0 := 0) rfl wm_0, pw_give hP hK hD⟩ rfl rfl hl.1 rfl (lv_room (Nat.le_of_ble_eq_true rfl)) dX9_covered_13 ⟨Nat.le_of_ble_eq_true rfl, Nat.le_of_ble_eq_true rfl⟩) hS (fun q _ h => hF q h) hF (fun r_5 u t H1 locs ht hvm hw hB hz1 hk1 hS => ?_)
    subst hw
    obtain ⟨hP, hD⟩ := pw_back hF ht hB
    clear hB hk1 hz1 hF
    generalize H1 = H at hP hS ⊢
    refine lv_if_ne (tgt := 23) hx hb dX9_covered_16 (by decide) (fun c_6 => ?_) (fun c_6 => ?_)
    · have hR := (if_neg c_6).symm.trans hR
      refine lv_iconst (v := (0 : Int32)) hx hb dX9_covered_23 (by decide) ?_
      refine lv_goto (tgt := 32) hx hb dX9_covered_24 (by decide) ?_
      have hI9 : IR σ := hI
      subst hR
      rw [hQ]
      exact W.iret (v := (0 : Int32)) hx hb hr (fun t ht hW => ⟨⟨(0 : Int32), (), rfl, rfl, ⟨by rw [ht]; exact hP, va_K.moved hW.alike hK, by rw [← hAe]; exact hD⟩, hI9⟩, hS.F ht⟩) hS.2.2 dX9_covered_32
    · have hR := (if_pos c_6).symm.trans hR
      refine lv_iconst (v := (1 : Int32)) hx hb dX9_covered_19 (by decide) ?_
      refine lv_goto (tgt := 32) hx hb dX9_covered_20 (by decide) ?_
      have hI9 : IR σ := hI
      subst hR
      rw [hQ]
      exact W.iret (v := (1 : Int32)) hx hb hr (fun t ht hW => ⟨⟨(1 : Int32), (), rfl, rfl, ⟨by rw [ht]; exact hP, va_K.moved hW.alike hK, by rw [← hAe]; exact hD⟩, hI9⟩, hS.F ht⟩) hS.2.2 dX9_covered_32

def s_X9_lacks (σ : St) (a1 : Int32) : Int32 × St := (if (s_X9_isIn a1 (σ 3 0)) = (0 : Int32) then (((s_X9_refuse σ (-1 : Int32)).1), (s_X9_refuse σ (-1 : Int32)).2) else ((s_X9_lacksOf σ a1), σ))
theorem fr_s_X9_lacks (σ : St) (a1 : Int32) {f : Nat} (h0 : f ≠ 0) : (s_X9_lacks σ a1 ).2 f = σ f := by
  unfold s_X9_lacks
  all_goals ((try dsimp only) <;> ((repeat' split) <;> (try simp only [put_fr, ne_eq, not_false_eq_true, h0, fr_s_X9_refuse])))
set_option maxHeartbeats 1000000 in
set_option maxRecDepth 100000 in
theorem k_X9_lacks (l : Launch) (D : va_G) (ca : Nat → ClassId) (h : Nat) (ad : Nat → Nat) (σ : St) (a1 : Int32) (sz : Nat) (hI : IR σ)  (R : Int32 × St) (hR : s_X9_lacks σ a1 = R) : Met l yX9_lacks wsX9_lacks ({ frames := 3, cells := 0, slots := 0, locals := 74 }) (va_Pc [.ref h, .int a1] (pw_pre D ca (WM ca h ad σ) sz)) (va_Qi (fun (r : Int32) (_ : Unit) => r = R.1) (fun (_ : Unit) (t : State) => pw_post D ca (WM ca h ad σ) sz (WM ca h ad (R.2)) t ∧ IR R.2) (va_A (WM ca h ad σ) sz)) 0 0 (va_A (WM ca h ad σ) sz) := by
  refine Met.ofW (cc := cX9_lacks) (maxL := 2) (ret := (some .int)) (by decide) rfl ?_
  intro p e s m args below meth c s₁ B hml hv
  obtain ⟨rfl, hsz, hP, hK, hD0⟩ := hv
  have hx := B.exec
  have hb := B.bytes
  have hr := B.returns
  have hts := atoms_spec (ws := wsX9_lacks) B.pre
  have hown : s.vm.findClass RX9 = some m.cls := findClass_of_methodNamed B.named
  have hlocks := B.notSynchronized
  have hu9 : ∀ w ∈ u_ws RX9 TX9 51, w ∈ wsX9_lacks := fun w h => List.mem_cons_of_mem _ (uw9 w h)
  subst hsz
  have hD := hD0.self (sz := s.heap.size)
  obtain ⟨A, hAe⟩ : ∃ A, A = va_A (WM ca h ad σ) s.heap.size := ⟨_, rfl⟩
  rw [← hAe] at hD ⊢
  have hA : ∀ q : Nat, s.heap.size ≤ q → A q := fun q h => by rw [hAe]; exact Or.inr h
  have hS : va_S A s.heap s.heap [] := va_S.rf
  have hl := lv_entry ([.ref h, .int a1]) (n := 2) (Nat.le_of_ble_eq_true rfl)
  rw [lg_entry_eq]
  generalize (lg_sl ([.ref h, .int a1]) ++ List.replicate (2 - (lg_sl ([.ref h, .int a1])).length) Slot.unset).toArray = ls at hl ⊢
  have hl : lv_has ls 2 [(0, .ref h), (1, .int a1)] := hl
  obtain ⟨H, hH⟩ : ∃ H, H = s.heap := ⟨_, rfl⟩
  have hP : va_P D vwCl (WM ca h ad σ) H := by rw [hH]; exact hP
  have hS : va_S A s.heap H [] := by rw [hH]; exact hS
  obtain ⟨QQ, hQ⟩ : ∃ Q9, Q9 = MQ below (va_Qi (fun (r : Int32) (_ : Unit) => r = R.1) (fun (_ : Unit) (t : State) => pw_post D ca (WM ca h ad σ) s.heap.size (WM ca h ad (R.2)) t ∧ IR R.2) A) ([.ref h, .int a1] : List Value).toArray s 0 0 A := ⟨_, rfl⟩
  rw [← hQ]
  show W _ _ _ _ _ _ _ _ _ _ s.heap _ _ _ _ _
  rw [← hH]
  have hR : (if (s_X9_isIn a1 (σ 3 0)) = (0 : Int32) then (((s_X9_refuse σ (-1 : Int32)).1), (s_X9_refuse σ (-1 : Int32)).2) else ((s_X9_lacksOf σ a1), σ)) = R := hR
  refine lv_iload_n hx hb dX9_lacks_0 rfl (lv_at hl 1 rfl) ?_
  refine lv_aload_n hx hb dX9_lacks_1 rfl (lv_at hl 0 rfl) ?_
  refine va_get (D := D) (ci := 9) (v := .int (σ 3 0)) (C := RX9) (T := TX9) (N := 51) hx hb hts hu9 hown hK hP 0 wm_0 rfl 3 (by decide) (hts (.fieldLink RX9 131 "GrazeBookModel" "owners" "I") (List.mem_cons_of_mem _ mw_786)) (fun _ h9 => h9) rfl dX9_lacks_2 ?_
  have hF := pw_free (pn_D (A := A)) hS hA
  refine va_calli (va_runS (As := [.int a1, .int (σ 3 0)]) (rest := []) ⟨hx, hb, hml, hown, hts⟩ (k_X9_isIn l D ca a1 (σ 3 0) H.size _ rfl) (va_cwS 2 hts gX9_lacks_X9_isIn rfl rfl rfl (by decide +kernel) ⟨Nat.le_of_ble_eq_true rfl, Nat.le_of_ble_eq_true rfl⟩) ⟨pw_blind, pw_give pn_P hK (pn_D (A := A))⟩ rfl rfl hl.1 rfl (lv_room (Nat.le_of_ble_eq_true rfl)) dX9_lacks_5 ⟨Nat.le_of_ble_eq_true rfl, Nat.le_of_ble_eq_true rfl⟩) hS (fun q _ h => hF q h) hF (fun r_1 u t H1 locs ht hvm hw hB hz1 hk1 hS => ?_)
  subst hw
  have hP := pn_back hP hk1
  clear hB hk1 hz1 hF
  generalize H1 = H at hP hS ⊢
  refine lv_if_eq (tgt := 19) hx hb dX9_lacks_8 (by decide) (fun c_2 => ?_) (fun c_2 => ?_)
  · have hR := (if_pos c_2).symm.trans hR
    refine lv_aload_n hx hb dX9_lacks_19 rfl (lv_at hl 0 rfl) ?_
    refine lv_iconst (v := (-1 : Int32)) hx hb dX9_lacks_20 (by decide) ?_
    have hF := pw_free hD hS hA
    refine va_calli (va_runV (As := [.int (-1 : Int32)]) (rest := []) ⟨hx, hb, hml, hown, hts⟩ (k_X9_refuse l D ca h ad σ (-1 : Int32) H.size hI (by unfold vp_in; decide) _ rfl) (cwV 1 hts gX9_lacks_X9_refuse rfl rfl rfl (by decide +kernel) ⟨Nat.le_of_ble_eq_true rfl, Nat.le_of_ble_eq_true rfl⟩) ⟨pw_blind, va_recv hK hP (ci := 9) (q0 := 0) rfl wm_0, pw_give hP hK hD⟩ rfl rfl hl.1 rfl (lv_room (Nat.le_of_ble_eq_true rfl)) dX9_lacks_21 ⟨Nat.le_of_ble_eq_true rfl, Nat.le_of_ble_eq_true rfl⟩) hS (fun q _ h => hF q h) hF (fun r_3 u t H1 locs ht hvm hw hB hz1 hk1 hS => ?_)
    subst hw
    obtain ⟨hB, hI_4⟩ := hB
    obtain ⟨hP, hD⟩ := pw_back hF ht hB
    clear hB hk1 hz1 hF
    generalize H1 = H at hP hS ⊢
    have hI9 : IR ((s_X9_refuse σ (-1 : Int32)).2) := hI_4
    subst hR
    rw [hQ]
    exact W.iret (v := ((s_X9_refuse σ (-1 : Int32)).1)) hx hb hr (fun t ht hW => ⟨⟨((s_X9_refuse σ (-1 : Int32)).1), (), rfl, rfl, ⟨by rw [ht]; exact hP, va_K.moved hW.alike hK, by rw [← hAe]; exact hD⟩, hI9⟩, hS.F ht⟩) hS.2.2 dX9_lacks_24
  · have hR := (if_neg c_2).symm.trans hR
    refine lv_aload_n hx hb dX9_lacks_11 rfl (lv_at hl 0 rfl) ?_
    refine lv_iload_n hx hb dX9_lacks_12 rfl (lv_at hl 1 rfl) ?_
    have hF := pw_free hD hS hA
    refine va_calli (va_runV (As := [.int a1]) (rest := []) ⟨hx, hb, hml, hown, hts⟩ (k_X9_lacksOf l D ca h ad σ a1 H.size hI _ rfl) (cwV 1 hts gX9_lacks_X9_lacksOf rfl rfl rfl (by decide +kernel) ⟨Nat.le_of_ble_eq_true rfl, Nat.le_of_ble_eq_true rfl⟩) ⟨pw_blind, va_recv hK hP (ci := 9) (q0 := 0) rfl wm_0, pw_give hP hK hD⟩ rfl rfl hl.1 rfl (lv_room (Nat.le_of_ble_eq_true rfl)) dX9_lacks_13 ⟨Nat.le_of_ble_eq_true rfl, Nat.le_of_ble_eq_true rfl⟩) hS (fun q _ h => hF q h) hF (fun r_5 u t H1 locs ht hvm hw hB hz1 hk1 hS => ?_)
    subst hw
    obtain ⟨hP, hD⟩ := pw_back hF ht hB
    clear hB hk1 hz1 hF
    generalize H1 = H at hP hS ⊢
    refine lv_goto (tgt := 24) hx hb dX9_lacks_16 (by decide) ?_
    have hI9 : IR σ := hI
    subst hR
    rw [hQ]
    exact W.iret (v := (s_X9_lacksOf σ a1)) hx hb hr (fun t ht hW => ⟨⟨(s_X9_lacksOf σ a1), (), rfl, rfl, ⟨by rw [ht]; exact hP, va_K.moved hW.alike hK, by rw [← hAe]; exact hD⟩, hI9⟩, hS.F ht⟩) hS.2.2 dX9_lacks_24

def s_X9_partsOn_c4  : Int32 → Int32 := fun x9 => match x9 with
  | v2_1 => v2_1
def s_X9_partsOn_l4 (σ : St) (a1 : Int32) (k_1 : Nat) : Int32 → Int32 := fun x9 => match x9 with
  | v2_1 => (if (s_X9_isOut σ (nI k_1)) = (0 : Int32) then (v2_1 + (0 : Int32)) else (if (σ 38 k_1) = a1 then (v2_1 + (s_X9_partsOfHerd σ (nI k_1))) else (v2_1 + (0 : Int32))))
def s_X9_partsOn (σ : St) (a1 : Int32) : Int32 := (s_X9_partsOn_c4 (iter (s_X9_partsOn_l4 σ a1) ((σ 6 0).toNatClampNeg - 0) 0 (0 : Int32)))
set_option maxHeartbeats 1000000 in
set_option maxRecDepth 100000 in
theorem k_X9_partsOn (l : Launch) (D : va_G) (ca : Nat → ClassId) (h : Nat) (ad : Nat → Nat) (σ : St) (a1 : Int32) (sz : Nat) (hI : IR σ)  (R : Int32) (hR : s_X9_partsOn σ a1 = R) : Met l yX9_partsOn wsX9_partsOn ({ frames := 2, cells := 0, slots := 0, locals := 41 }) (va_Pc [.ref h, .int a1] (pw_pre D ca (WM ca h ad σ) sz)) (va_Qi (fun (r : Int32) (_ : Unit) => r = R) (fun (_ : Unit) (t : State) => pw_post D ca (WM ca h ad σ) sz (WM ca h ad σ) t) (va_A (WM ca h ad σ) sz)) 0 0 (va_A (WM ca h ad σ) sz) := by
  refine Met.ofW (cc := cX9_partsOn) (maxL := 4) (ret := (some .int)) (by decide) rfl ?_
  intro p e s m args below meth c s₁ B hml hv
  obtain ⟨rfl, hsz, hP, hK, hD0⟩ := hv
  have hx := B.exec
  have hb := B.bytes
  have hr := B.returns
  have hts := atoms_spec (ws := wsX9_partsOn) B.pre
  have hown : s.vm.findClass RX9 = some m.cls := findClass_of_methodNamed B.named
  have hlocks := B.notSynchronized
  have hu9 : ∀ w ∈ u_ws RX9 TX9 51, w ∈ wsX9_partsOn := fun w h => List.mem_cons_of_mem _ (uw9 w h)
  subst hsz
  have hD := hD0.self (sz := s.heap.size)
  obtain ⟨A, hAe⟩ : ∃ A, A = va_A (WM ca h ad σ) s.heap.size := ⟨_, rfl⟩
  rw [← hAe] at hD ⊢
  have hA : ∀ q : Nat, s.heap.size ≤ q → A q := fun q h => by rw [hAe]; exact Or.inr h
  have hS : va_S A s.heap s.heap [] := va_S.rf
  have hl := lv_entry ([.ref h, .int a1]) (n := 4) (Nat.le_of_ble_eq_true rfl)
  rw [lg_entry_eq]
  generalize (lg_sl ([.ref h, .int a1]) ++ List.replicate (4 - (lg_sl ([.ref h, .int a1])).length) Slot.unset).toArray = ls at hl ⊢
  have hl : lv_has ls 4 [(0, .ref h), (1, .int a1)] := hl
  obtain ⟨H, hH⟩ : ∃ H, H = s.heap := ⟨_, rfl⟩
  have hP : va_P D vwCl (WM ca h ad σ) H := by rw [hH]; exact hP
  have hS : va_S A s.heap H [] := by rw [hH]; exact hS
  obtain ⟨QQ, hQ⟩ : ∃ Q9, Q9 = MQ below (va_Qi (fun (r : Int32) (_ : Unit) => r = R) (fun (_ : Unit) (t : State) => pw_post D ca (WM ca h ad σ) s.heap.size (WM ca h ad σ) t) A) ([.ref h, .int a1] : List Value).toArray s 0 0 A := ⟨_, rfl⟩
  rw [← hQ]
  show W _ _ _ _ _ _ _ _ _ _ s.heap _ _ _ _ _
  rw [← hH]
  have hR : (s_X9_partsOn_c4 (iter (s_X9_partsOn_l4 σ a1) ((σ 6 0).toNatClampNeg - 0) 0 (0 : Int32))) = R := hR
  refine lv_iconst (v := (0 : Int32)) hx hb dX9_partsOn_0 (by decide) ?_
  refine lv_istore_n (lv' := [(2, .int (0 : Int32)), (0, .ref h), (1, .int a1)]) hx hb dX9_partsOn_1 rfl hl (by decide) rfl (fun ls hl => ?_)
  refine lv_iconst (v := (0 : Int32)) hx hb dX9_partsOn_2 (by decide) ?_
  refine lv_istore_n (lv' := [(3, .int (0 : Int32)), (2, .int (0 : Int32)), (0, .ref h), (1, .int a1)]) hx hb dX9_partsOn_3 rfl hl (by decide) rfl (fun ls hl => ?_)
  have hE_1 : ∀ (v2_1 : Int32) (H : Heap) (locs : List Loc) (ls : Array Slot), s_X9_partsOn_c4 v2_1 = R → va_P D vwCl (WM ca h ad σ) H → va_D A (WM ca h ad σ) → va_S A s.heap H locs → lv_has ls 4 [(2, .int v2_1)] → W p l e ((headSpec wsX9_partsOn ({ frames := 2, cells := 0, slots := 0, locals := 41 })).room) s m ([.ref h, .int a1] : List Value).toArray below meth c H locs 0 0 QQ (F0 m 48 ls []) := by
    intro v2_1 H locs ls hR hP hD hS hl
    have hR : v2_1 = R := hR
    refine lv_iload_n hx hb dX9_partsOn_48 rfl (lv_at hl 0 rfl) ?_
    subst hR
    rw [hQ]
    exact W.iret (v := v2_1) hx hb hr (fun t ht hW => ⟨⟨v2_1, (), rfl, rfl, ⟨by rw [ht]; exact hP, va_K.moved hW.alike hK, by rw [← hAe]; exact hD⟩⟩, hS.F ht⟩) hS.2.2 dX9_partsOn_49
  have hL_1 : ∀ (n k_1 : Nat) (v2_1 : Int32) (hk_1 : lpk (σ 6 0) k_1 n) (H : Heap) (locs : List Loc) (ls : Array Slot), s_X9_partsOn_c4 (iter (s_X9_partsOn_l4 σ a1) n k_1 v2_1) = R → va_P D vwCl (WM ca h ad σ) H → va_D A (WM ca h ad σ) → va_S A s.heap H locs → lv_has ls 4 [(3, .int (nI k_1)), (2, .int v2_1), (0, .ref h), (1, .int a1)] → W p l e ((headSpec wsX9_partsOn ({ frames := 2, cells := 0, slots := 0, locals := 41 })).room) s m ([.ref h, .int a1] : List Value).toArray below meth c H locs 0 0 QQ (F0 m 4 ls []) := by
    intro n
    induction n with
    | zero =>
      intro k_1 v2_1 hk_1 H locs ls hR hP hD hS hl
      refine lv_iload_n hx hb dX9_partsOn_4 rfl (lv_at hl 0 rfl) ?_
      refine lv_aload_n hx hb dX9_partsOn_5 rfl (lv_at hl 2 rfl) ?_
      refine va_get (D := D) (ci := 9) (v := .int (σ 6 0)) (C := RX9) (T := TX9) (N := 51) hx hb hts hu9 hown hK hP 0 wm_0 rfl 6 (by decide) (hts (.fieldLink RX9 164 "GrazeBookModel" "herds" "I") (List.mem_cons_of_mem _ mw_789)) (fun _ h9 => h9) rfl dX9_partsOn_6 ?_
      refine lv_icmp_ge (tgt := 48) hx hb dX9_partsOn_9 (by decide) (fun _ => ?_) (fun c_2 => absurd (ge_end hk_1) c_2)
      exact hE_1 v2_1 _ _ _ hR hP hD hS (lv_sub hl [1] rfl)
    | succ n ih =>
      intro k_1 v2_1 hk_1 H locs ls hR hP hD hS hl
      obtain ⟨S_1, hB_1⟩ : ∃ s9, s_X9_partsOn_l4 σ a1 k_1 v2_1 = s9 := ⟨_, rfl⟩
      have hR : s_X9_partsOn_c4 (iter (s_X9_partsOn_l4 σ a1) n (k_1 + 1) S_1) = R := by rw [← hB_1]; exact hR
      have hB_1 : (if (s_X9_isOut σ (nI k_1)) = (0 : Int32) then (v2_1 + (0 : Int32)) else (if (σ 38 k_1) = a1 then (v2_1 + (s_X9_partsOfHerd σ (nI k_1))) else (v2_1 + (0 : Int32)))) = S_1 := hB_1
      refine lv_iload_n hx hb dX9_partsOn_4 rfl (lv_at hl 0 rfl) ?_
      refine lv_aload_n hx hb dX9_partsOn_5 rfl (lv_at hl 2 rfl) ?_
      refine va_get (D := D) (ci := 9) (v := .int (σ 6 0)) (C := RX9) (T := TX9) (N := 51) hx hb hts hu9 hown hK hP 0 wm_0 rfl 6 (by decide) (hts (.fieldLink RX9 164 "GrazeBookModel" "herds" "I") (List.mem_cons_of_mem _ mw_789)) (fun _ h9 => h9) rfl dX9_partsOn_6 ?_
      refine lv_icmp_ge (tgt := 48) hx hb dX9_partsOn_9 (by decide) (fun c_3 => absurd c_3 (ge_go hk_1)) (fun _ => ?_)
      refine lv_iload_n hx hb dX9_partsOn_12 rfl (lv_at hl 1 rfl) ?_
      refine lv_aload_n hx hb dX9_partsOn_13 rfl (lv_at hl 2 rfl) ?_
      refine lv_iload_n hx hb dX9_partsOn_14 rfl (lv_at hl 0 rfl) ?_
      have hF := pw_free hD hS hA
      refine va_calli (va_runV (As := [.int (nI k_1)]) (rest := [.int v2_1]) ⟨hx, hb, hml, hown, hts⟩ (k_X9_isOut l D ca h ad σ (nI k_1) H.size hI (ix_loop (N := 20) hk_1 (ir_6 hI) (by decide) (by decide)) _ rfl) (cwV 1 hts gX9_partsOn_X9_isOut rfl rfl rfl (by decide +kernel) ⟨Nat.le_of_ble_eq_true rfl, Nat.le_of_ble_eq_true rfl⟩) ⟨pw_blind, va_recv hK hP (ci := 9) (q0 := 0) rfl wm_0, pw_give hP hK hD⟩ rfl rfl hl.1 rfl (lv_room (Nat.le_of_ble_eq_true rfl)) dX9_partsOn_15 ⟨Nat.le_of_ble_eq_true rfl, Nat.le_of_ble_eq_true rfl⟩) hS (fun q _ h => hF q h) hF (fun r_4 u t H1 locs ht hvm hw hB hz1 hk1 hS => ?_)
      subst hw
      obtain ⟨hP, hD⟩ := pw_back hF ht hB
      clear hB hk1 hz1 hF
      generalize H1 = H at hP hS ⊢
      refine lv_if_eq (tgt := 39) hx hb dX9_partsOn_18 (by decide) (fun c_5 => ?_) (fun c_5 => ?_)
      · have hB_1 := (if_pos c_5).symm.trans hB_1
        refine lv_iconst (v := (0 : Int32)) hx hb dX9_partsOn_39 (by decide) ?_
        refine lv_iadd hx hb dX9_partsOn_40 ?_
        refine lv_istore_n (lv' := [(2, .int (v2_1 + (0 : Int32))), (3, .int (nI k_1)), (0, .ref h), (1, .int a1)]) hx hb dX9_partsOn_41 rfl hl (by decide) rfl (fun ls hl => ?_)
        refine lv_iinc (v := (nI (k_1 + 1))) (lv' := [(3, .int (nI (k_1 + 1))), (2, .int (v2_1 + (0 : Int32))), (0, .ref h), (1, .int a1)]) hx hb dX9_partsOn_42 hl (k := 1) rfl (by rw [show Int32.ofInt 1 = 1 from by decide]; exact nI_1 _) (by decide) rfl (fun ls hl => ?_)
        refine lv_goto (tgt := 4) hx hb dX9_partsOn_45 (by decide) ?_
        subst hB_1
        exact ih (k_1 + 1) (v2_1 + (0 : Int32)) (ge_next hk_1)  _ _ _ hR hP hD hS (lv_sub hl [0, 1, 2, 3] rfl)
      · have hB_1 := (if_neg c_5).symm.trans hB_1
        refine lv_aload_n hx hb dX9_partsOn_21 rfl (lv_at hl 2 rfl) ?_
        refine va_get (D := D) (ci := 9) (v := .ref (ad 38)) (C := RX9) (T := TX9) (N := 51) hx hb hts hu9 hown hK hP 0 wm_0 rfl 38 (by decide) (hts (.fieldLink RX9 89 "GrazeBookModel" "hPiece" "[I") (List.mem_cons_of_mem _ mw_821)) (fun _ h9 => h9) rfl dX9_partsOn_22 ?_
        refine lv_iload_n hx hb dX9_partsOn_25 rfl (lv_at hl 0 rfl) ?_
        refine va_iald_k (k := k_1) (v := (σ 38 k_1)) hx hb hK hP 27 0 wm_a38 rfl (ix_cl hk_1) rfl (ix_loop (N := 20) hk_1 (ir_6 hI) (by decide) (by decide)) dX9_partsOn_26 ?_
        refine lv_iload_n hx hb dX9_partsOn_27 rfl (lv_at hl 3 rfl) ?_
        refine lv_icmp_ne (tgt := 39) hx hb dX9_partsOn_28 (by decide) (fun c_6 => ?_) (fun c_6 => ?_)
        · have hB_1 := (if_neg c_6).symm.trans hB_1
          refine lv_iconst (v := (0 : Int32)) hx hb dX9_partsOn_39 (by decide) ?_
          refine lv_iadd hx hb dX9_partsOn_40 ?_
          refine lv_istore_n (lv' := [(2, .int (v2_1 + (0 : Int32))), (3, .int (nI k_1)), (0, .ref h), (1, .int a1)]) hx hb dX9_partsOn_41 rfl hl (by decide) rfl (fun ls hl => ?_)
          refine lv_iinc (v := (nI (k_1 + 1))) (lv' := [(3, .int (nI (k_1 + 1))), (2, .int (v2_1 + (0 : Int32))), (0, .ref h), (1, .int a1)]) hx hb dX9_partsOn_42 hl (k := 1) rfl (by rw [show Int32.ofInt 1 = 1 from by decide]; exact nI_1 _) (by decide) rfl (fun ls hl => ?_)
          refine lv_goto (tgt := 4) hx hb dX9_partsOn_45 (by decide) ?_
          subst hB_1
          exact ih (k_1 + 1) (v2_1 + (0 : Int32)) (ge_next hk_1)  _ _ _ hR hP hD hS (lv_sub hl [0, 1, 2, 3] rfl)
        · have hB_1 := (if_pos c_6).symm.trans hB_1
          refine lv_aload_n hx hb dX9_partsOn_31 rfl (lv_at hl 2 rfl) ?_
          refine lv_iload_n hx hb dX9_partsOn_32 rfl (lv_at hl 0 rfl) ?_
          have hF := pw_free hD hS hA
          refine va_calli (va_runV (As := [.int (nI k_1)]) (rest := [.int v2_1]) ⟨hx, hb, hml, hown, hts⟩ (k_X9_partsOfHerd l D ca h ad σ (nI k_1) H.size hI (ix_loop (N := 20) hk_1 (ir_6 hI) (by decide) (by decide)) _ rfl) (cwV 1 hts gX9_partsOn_X9_partsOfHerd rfl rfl rfl (by decide +kernel) ⟨Nat.le_of_ble_eq_true rfl, Nat.le_of_ble_eq_true rfl⟩) ⟨pw_blind, va_recv hK hP (ci := 9) (q0 := 0) rfl wm_0, pw_give hP hK hD⟩ rfl rfl hl.1 rfl (lv_room (Nat.le_of_ble_eq_true rfl)) dX9_partsOn_33 ⟨Nat.le_of_ble_eq_true rfl, Nat.le_of_ble_eq_true rfl⟩) hS (fun q _ h => hF q h) hF (fun r_7 u t H1 locs ht hvm hw hB hz1 hk1 hS => ?_)
          subst hw
          obtain ⟨hP, hD⟩ := pw_back hF ht hB
          clear hB hk1 hz1 hF
          generalize H1 = H at hP hS ⊢
          refine lv_goto (tgt := 40) hx hb dX9_partsOn_36 (by decide) ?_
          refine lv_iadd hx hb dX9_partsOn_40 ?_
          refine lv_istore_n (lv' := [(2, .int (v2_1 + (s_X9_partsOfHerd σ (nI k_1)))), (3, .int (nI k_1)), (0, .ref h), (1, .int a1)]) hx hb dX9_partsOn_41 rfl hl (by decide) rfl (fun ls hl => ?_)
          refine lv_iinc (v := (nI (k_1 + 1))) (lv' := [(3, .int (nI (k_1 + 1))), (2, .int (v2_1 + (s_X9_partsOfHerd σ (nI k_1)))), (0, .ref h), (1, .int a1)]) hx hb dX9_partsOn_42 hl (k := 1) rfl (by rw [show Int32.ofInt 1 = 1 from by decide]; exact nI_1 _) (by decide) rfl (fun ls hl => ?_)
          refine lv_goto (tgt := 4) hx hb dX9_partsOn_45 (by decide) ?_
          subst hB_1
          exact ih (k_1 + 1) (v2_1 + (s_X9_partsOfHerd σ (nI k_1))) (ge_next hk_1)  _ _ _ hR hP hD hS (lv_sub hl [0, 1, 2, 3] rfl)
  exact hL_1 _ 0 (0 : Int32) ⟨rfl, by decide⟩  _ _ _ hR hP hD hS (lv_sub hl [0, 1, 2, 3] rfl)

def s_X9_places_c2  : St → St := fun x9 => match x9 with
  | τ_1 => τ_1
def s_X9_places_l2  (k_1 : Nat) : St → St := fun x9 => match x9 with
  | τ_1 => (if (τ_1 6 0) ≤ (nI k_1) then (put τ_1 45 k_1 (-1 : Int32)) else (if (s_X9_isOut τ_1 (nI k_1)) = (0 : Int32) then (put τ_1 45 k_1 (-1 : Int32)) else (put τ_1 45 k_1 (τ_1 38 k_1))))
def s_X9_places (σ : St) : St := (s_X9_places_c2 (iter s_X9_places_l2 ((20 : Int32).toNatClampNeg - 0) 0 σ))
theorem fr_s_X9_places_c2  (s : St) {f : Nat} (h45 : f ≠ 45) : (s_X9_places_c2 s) f = s f := by
  unfold s_X9_places_c2
  all_goals ((try dsimp only) <;> ((repeat' split) <;> (try simp only [put_fr, ne_eq, not_false_eq_true, h45])))
theorem fr_s_X9_places_l2  (k_1 : Nat) (s : St) {f : Nat} (h45 : f ≠ 45) : (s_X9_places_l2 k_1 s) f = s f := by
  unfold s_X9_places_l2
  all_goals ((try dsimp only) <;> ((repeat' split) <;> (try simp only [put_fr, ne_eq, not_false_eq_true, h45, fr_s_X9_places_c2])))
theorem fri_s_X9_places_l2  (n k : Nat) (s : St) {f : Nat} (h45 : f ≠ 45) : (iter s_X9_places_l2 n k s) f = s f := iter_fr (P := (fun s => s f)) (fun k s => fr_s_X9_places_l2  k s h45) n k s
theorem fr_s_X9_places (σ : St) {f : Nat} (h45 : f ≠ 45) : (s_X9_places σ ) f = σ f := by
  unfold s_X9_places
  all_goals ((try dsimp only) <;> ((repeat' split) <;> (try simp only [put_fr, ne_eq, not_false_eq_true, h45, fr_s_X9_places_c2, fri_s_X9_places_l2])))
set_option maxHeartbeats 1000000 in
set_option maxRecDepth 100000 in
theorem k_X9_places (l : Launch) (D : va_G) (ca : Nat → ClassId) (h : Nat) (ad : Nat → Nat) (σ : St) (sz : Nat) (hI : IR σ)  (R : St) (hR : s_X9_places σ = R) : Met l yX9_places wsX9_places ({ frames := 1, cells := 0, slots := 0, locals := 21 }) (va_Pc [.ref h] (pw_pre D ca (WM ca h ad σ) sz)) (va_Qv (fun _ : Unit => True) (fun (_ : Unit) (t : State) => pw_post D ca (WM ca h ad σ) sz (WM ca h ad R) t ∧ IR R) (va_A (WM ca h ad σ) sz)) 0 0 (va_A (WM ca h ad σ) sz) := by
  refine Met.ofW (cc := cX9_places) (maxL := 2) (ret := none) (by decide) rfl ?_
  intro p e s m args below meth c s₁ B hml hv
  obtain ⟨rfl, hsz, hP, hK, hD0⟩ := hv
  have hx := B.exec
  have hb := B.bytes
  have hr := B.returns
  have hts := atoms_spec (ws := wsX9_places) B.pre
  have hown : s.vm.findClass RX9 = some m.cls := findClass_of_methodNamed B.named
  have hlocks := B.notSynchronized
  have hu9 : ∀ w ∈ u_ws RX9 TX9 51, w ∈ wsX9_places := fun w h => List.mem_cons_of_mem _ (uw9 w h)
  subst hsz
  have hD := hD0.self (sz := s.heap.size)
  obtain ⟨A, hAe⟩ : ∃ A, A = va_A (WM ca h ad σ) s.heap.size := ⟨_, rfl⟩
  rw [← hAe] at hD ⊢
  have hA : ∀ q : Nat, s.heap.size ≤ q → A q := fun q h => by rw [hAe]; exact Or.inr h
  have hS : va_S A s.heap s.heap [] := va_S.rf
  have hl := lv_entry ([.ref h]) (n := 2) (Nat.le_of_ble_eq_true rfl)
  rw [lg_entry_eq]
  generalize (lg_sl ([.ref h]) ++ List.replicate (2 - (lg_sl ([.ref h])).length) Slot.unset).toArray = ls at hl ⊢
  have hl : lv_has ls 2 [(0, .ref h)] := hl
  obtain ⟨H, hH⟩ : ∃ H, H = s.heap := ⟨_, rfl⟩
  have hP : va_P D vwCl (WM ca h ad σ) H := by rw [hH]; exact hP
  have hS : va_S A s.heap H [] := by rw [hH]; exact hS
  obtain ⟨QQ, hQ⟩ : ∃ Q9, Q9 = MQ below (va_Qv (fun _ : Unit => True) (fun (_ : Unit) (t : State) => pw_post D ca (WM ca h ad σ) s.heap.size (WM ca h ad R) t ∧ IR R) A) ([.ref h] : List Value).toArray s 0 0 A := ⟨_, rfl⟩
  rw [← hQ]
  show W _ _ _ _ _ _ _ _ _ _ s.heap _ _ _ _ _
  rw [← hH]
  have hR : (s_X9_places_c2 (iter s_X9_places_l2 ((20 : Int32).toNatClampNeg - 0) 0 σ)) = R := hR
  refine lv_iconst (v := (0 : Int32)) hx hb dX9_places_0 (by decide) ?_
  refine lv_istore_n (lv' := [(1, .int (0 : Int32)), (0, .ref h)]) hx hb dX9_places_1 rfl hl (by decide) rfl (fun ls hl => ?_)
  have hE_1 : ∀ (τ_1 : St) (hI_1 : IR τ_1) (H : Heap) (locs : List Loc) (ls : Array Slot), s_X9_places_c2 τ_1 = R → va_P D vwCl (WM ca h ad τ_1) H → va_D A (WM ca h ad τ_1) → va_S A s.heap H locs → lv_has ls 2 [] → W p l e ((headSpec wsX9_places ({ frames := 1, cells := 0, slots := 0, locals := 21 })).room) s m ([.ref h] : List Value).toArray below meth c H locs 0 0 QQ (F0 m 46 ls []) := by
    intro τ_1 hI_1 H locs ls hR hP hD hS hl
    have hR : τ_1 = R := hR
    have hI9 : IR τ_1 := hI_1
    subst hR
    rw [hQ]
    exact W.vret hx hb hr (fun t ht hW => ⟨⟨(), rfl, trivial, ⟨by rw [ht]; exact hP, va_K.moved hW.alike hK, by rw [← hAe]; exact hD⟩, hI9⟩, hS.F ht⟩) hS.2.2 dX9_places_46
  have hL_1 : ∀ (n k_1 : Nat) (τ_1 : St) (hk_1 : lpk (20 : Int32) k_1 n) (hI_1 : IR τ_1) (H : Heap) (locs : List Loc) (ls : Array Slot), s_X9_places_c2 (iter s_X9_places_l2 n k_1 τ_1) = R → va_P D vwCl (WM ca h ad τ_1) H → va_D A (WM ca h ad τ_1) → va_S A s.heap H locs → lv_has ls 2 [(1, .int (nI k_1)), (0, .ref h)] → W p l e ((headSpec wsX9_places ({ frames := 1, cells := 0, slots := 0, locals := 21 })).room) s m ([.ref h] : List Value).toArray below meth c H locs 0 0 QQ (F0 m 2 ls []) := by
    intro n
    induction n with
    | zero =>
      intro k_1 τ_1 hk_1 hI_1 H locs ls hR hP hD hS hl
      refine lv_iload_n hx hb dX9_places_2 rfl (lv_at hl 0 rfl) ?_
      refine lv_bipush (v := (20 : Int32)) hx hb dX9_places_3 (by decide) ?_
      refine lv_icmp_ge (tgt := 46) hx hb dX9_places_5 (by decide) (fun _ => ?_) (fun c_2 => absurd (ge_end hk_1) c_2)
      exact hE_1 τ_1 hI_1 _ _ _ hR hP hD hS (lv_sub hl [] rfl)
    | succ n ih =>
      intro k_1 τ_1 hk_1 hI_1 H locs ls hR hP hD hS hl
      obtain ⟨S_1, hB_1⟩ : ∃ s9, s_X9_places_l2 k_1 τ_1 = s9 := ⟨_, rfl⟩
      have hR : s_X9_places_c2 (iter s_X9_places_l2 n (k_1 + 1) S_1) = R := by rw [← hB_1]; exact hR
      have hB_1 : (if (τ_1 6 0) ≤ (nI k_1) then (put τ_1 45 k_1 (-1 : Int32)) else (if (s_X9_isOut τ_1 (nI k_1)) = (0 : Int32) then (put τ_1 45 k_1 (-1 : Int32)) else (put τ_1 45 k_1 (τ_1 38 k_1)))) = S_1 := hB_1
      refine lv_iload_n hx hb dX9_places_2 rfl (lv_at hl 0 rfl) ?_
      refine lv_bipush (v := (20 : Int32)) hx hb dX9_places_3 (by decide) ?_
      refine lv_icmp_ge (tgt := 46) hx hb dX9_places_5 (by decide) (fun c_3 => absurd c_3 (ge_go hk_1)) (fun _ => ?_)
      refine lv_aload_n hx hb dX9_places_8 rfl (lv_at hl 1 rfl) ?_
      refine va_get (D := D) (ci := 9) (v := .ref (ad 45)) (C := RX9) (T := TX9) (N := 51) hx hb hts hu9 hown hK hP 0 wm_0 rfl 45 (by decide) (hts (.fieldLink RX9 110 "GrazeBookModel" "tryPiece" "[I") (List.mem_cons_of_mem _ mw_828)) (fun _ h9 => h9) rfl dX9_places_9 ?_
      refine lv_iload_n hx hb dX9_places_12 rfl (lv_at hl 0 rfl) ?_
      refine lv_iload_n hx hb dX9_places_13 rfl (lv_at hl 0 rfl) ?_
      refine lv_aload_n hx hb dX9_places_14 rfl (lv_at hl 1 rfl) ?_
      refine va_get (D := D) (ci := 9) (v := .int (τ_1 6 0)) (C := RX9) (T := TX9) (N := 51) hx hb hts hu9 hown hK hP 0 wm_0 rfl 6 (by decide) (hts (.fieldLink RX9 164 "GrazeBookModel" "herds" "I") (List.mem_cons_of_mem _ mw_789)) (fun _ h9 => h9) rfl dX9_places_15 ?_
      refine lv_icmp_ge (tgt := 38) hx hb dX9_places_18 (by decide) (fun c_4 => ?_) (fun c_4 => ?_)
      · have hB_1 := (if_pos c_4).symm.trans hB_1
        refine lv_iconst (v := (-1 : Int32)) hx hb dX9_places_38 (by decide) ?_
        refine va_iast_k (k := k_1) hx hb hK hP hD hS 34 0 wm_a45 rfl (ix_cl hk_1) (ix_loop (N := 20) hk_1 (show 0 ≤ (20 : Int32).toInt ∧ (20 : Int32).toInt ≤ ((20 : Nat) : Int) by decide) (by decide) (by decide)) dX9_places_39 (fun H locs hP hD hS => ?_)
        rw [wm_s45] at hP hD
        refine lv_iinc (v := (nI (k_1 + 1))) (lv' := [(1, .int (nI (k_1 + 1))), (0, .ref h)]) hx hb dX9_places_40 hl (k := 0) rfl (by rw [show Int32.ofInt 1 = 1 from by decide]; exact nI_1 _) (by decide) rfl (fun ls hl => ?_)
        refine lv_goto (tgt := 2) hx hb dX9_places_43 (by decide) ?_
        subst hB_1
        exact ih (k_1 + 1) (put τ_1 45 k_1 (-1 : Int32)) (ge_next hk_1) hI_1 _ _ _ hR hP hD hS (lv_sub hl [0, 1] rfl)
      · have hB_1 := (if_neg c_4).symm.trans hB_1
        refine lv_aload_n hx hb dX9_places_21 rfl (lv_at hl 1 rfl) ?_
        refine lv_iload_n hx hb dX9_places_22 rfl (lv_at hl 0 rfl) ?_
        have hF := pw_free hD hS hA
        refine va_calli (va_runV (As := [.int (nI k_1)]) (rest := [.int (nI k_1), .ref (ad 45)]) ⟨hx, hb, hml, hown, hts⟩ (k_X9_isOut l D ca h ad τ_1 (nI k_1) H.size hI_1 (ix_loop (N := 20) hk_1 (show 0 ≤ (20 : Int32).toInt ∧ (20 : Int32).toInt ≤ ((20 : Nat) : Int) by decide) (by decide) (by decide)) _ rfl) (cwV 1 hts gX9_places_X9_isOut rfl rfl rfl (by decide +kernel) ⟨Nat.le_of_ble_eq_true rfl, Nat.le_of_ble_eq_true rfl⟩) ⟨pw_blind, va_recv hK hP (ci := 9) (q0 := 0) rfl wm_0, pw_give hP hK hD⟩ rfl rfl hl.1 rfl (lv_room (Nat.le_of_ble_eq_true rfl)) dX9_places_23 ⟨Nat.le_of_ble_eq_true rfl, Nat.le_of_ble_eq_true rfl⟩) hS (fun q _ h => hF q h) hF (fun r_5 u t H1 locs ht hvm hw hB hz1 hk1 hS => ?_)
        subst hw
        obtain ⟨hP, hD⟩ := pw_back hF ht hB
        clear hB hk1 hz1 hF
        generalize H1 = H at hP hS ⊢
        refine lv_if_eq (tgt := 38) hx hb dX9_places_26 (by decide) (fun c_6 => ?_) (fun c_6 => ?_)
        · have hB_1 := (if_pos c_6).symm.trans hB_1
          refine lv_iconst (v := (-1 : Int32)) hx hb dX9_places_38 (by decide) ?_
          refine va_iast_k (k := k_1) hx hb hK hP hD hS 34 0 wm_a45 rfl (ix_cl hk_1) (ix_loop (N := 20) hk_1 (show 0 ≤ (20 : Int32).toInt ∧ (20 : Int32).toInt ≤ ((20 : Nat) : Int) by decide) (by decide) (by decide)) dX9_places_39 (fun H locs hP hD hS => ?_)
          rw [wm_s45] at hP hD
          refine lv_iinc (v := (nI (k_1 + 1))) (lv' := [(1, .int (nI (k_1 + 1))), (0, .ref h)]) hx hb dX9_places_40 hl (k := 0) rfl (by rw [show Int32.ofInt 1 = 1 from by decide]; exact nI_1 _) (by decide) rfl (fun ls hl => ?_)
          refine lv_goto (tgt := 2) hx hb dX9_places_43 (by decide) ?_
          subst hB_1
          exact ih (k_1 + 1) (put τ_1 45 k_1 (-1 : Int32)) (ge_next hk_1) hI_1 _ _ _ hR hP hD hS (lv_sub hl [0, 1] rfl)
        · have hB_1 := (if_neg c_6).symm.trans hB_1
          refine lv_aload_n hx hb dX9_places_29 rfl (lv_at hl 1 rfl) ?_
          refine va_get (D := D) (ci := 9) (v := .ref (ad 38)) (C := RX9) (T := TX9) (N := 51) hx hb hts hu9 hown hK hP 0 wm_0 rfl 38 (by decide) (hts (.fieldLink RX9 89 "GrazeBookModel" "hPiece" "[I") (List.mem_cons_of_mem _ mw_821)) (fun _ h9 => h9) rfl dX9_places_30 ?_
          refine lv_iload_n hx hb dX9_places_33 rfl (lv_at hl 0 rfl) ?_
          refine va_iald_k (k := k_1) (v := (τ_1 38 k_1)) hx hb hK hP 27 0 wm_a38 rfl (ix_cl hk_1) rfl (ix_loop (N := 20) hk_1 (show 0 ≤ (20 : Int32).toInt ∧ (20 : Int32).toInt ≤ ((20 : Nat) : Int) by decide) (by decide) (by decide)) dX9_places_34 ?_
          refine lv_goto (tgt := 39) hx hb dX9_places_35 (by decide) ?_
          refine va_iast_k (k := k_1) hx hb hK hP hD hS 34 0 wm_a45 rfl (ix_cl hk_1) (ix_loop (N := 20) hk_1 (show 0 ≤ (20 : Int32).toInt ∧ (20 : Int32).toInt ≤ ((20 : Nat) : Int) by decide) (by decide) (by decide)) dX9_places_39 (fun H locs hP hD hS => ?_)
          rw [wm_s45] at hP hD
          refine lv_iinc (v := (nI (k_1 + 1))) (lv' := [(1, .int (nI (k_1 + 1))), (0, .ref h)]) hx hb dX9_places_40 hl (k := 0) rfl (by rw [show Int32.ofInt 1 = 1 from by decide]; exact nI_1 _) (by decide) rfl (fun ls hl => ?_)
          refine lv_goto (tgt := 2) hx hb dX9_places_43 (by decide) ?_
          subst hB_1
          exact ih (k_1 + 1) (put τ_1 45 k_1 (τ_1 38 k_1)) (ge_next hk_1) hI_1 _ _ _ hR hP hD hS (lv_sub hl [0, 1] rfl)
  exact hL_1 _ 0 σ ⟨rfl, by decide⟩ hI _ _ _ hR hP hD hS (lv_sub hl [0, 1] rfl)

def s_X9_sells_c2  : St → St := fun x9 => match x9 with
  | τ_1 => τ_1
def s_X9_sells_l2  (k_1 : Nat) : St → St := fun x9 => match x9 with
  | τ_1 => (if (τ_1 41 k_1) = (1 : Int32) then (if (31 : Int32) ≤ (((τ_1 1 0) - (τ_1 42 k_1)) + (1 : Int32)) then (put (put (put τ_1 41 k_1 (2 : Int32)) 8 0 ((τ_1 8 0) + (if ((31 : Int32) * (τ_1 37 k_1)) < (s_X9_partsOfHerd τ_1 (nI k_1)) then ((31 : Int32) * (τ_1 37 k_1)) else (s_X9_partsOfHerd τ_1 (nI k_1))))) 19 ((τ_1 35 k_1).toNatClampNeg) ((τ_1 19 ((τ_1 35 k_1).toNatClampNeg)) + ((s_X9_partsOfHerd τ_1 (nI k_1)) - (if ((31 : Int32) * (τ_1 37 k_1)) < (s_X9_partsOfHerd τ_1 (nI k_1)) then ((31 : Int32) * (τ_1 37 k_1)) else (s_X9_partsOfHerd τ_1 (nI k_1)))))) else τ_1) else τ_1)
def s_X9_sells (σ : St) : St := (s_X9_sells_c2 (iter s_X9_sells_l2 ((σ 6 0).toNatClampNeg - 0) 0 σ))
theorem fr_s_X9_sells_c2  (s : St) {f : Nat} (h8 : f ≠ 8) (h19 : f ≠ 19) (h41 : f ≠ 41) : (s_X9_sells_c2 s) f = s f := by
  unfold s_X9_sells_c2
  all_goals ((try dsimp only) <;> ((repeat' split) <;> (try simp only [put_fr, ne_eq, not_false_eq_true, h8, h19, h41])))
theorem fr_s_X9_sells_l2  (k_1 : Nat) (s : St) {f : Nat} (h8 : f ≠ 8) (h19 : f ≠ 19) (h41 : f ≠ 41) : (s_X9_sells_l2 k_1 s) f = s f := by
  unfold s_X9_sells_l2
  all_goals ((try dsimp only) <;> ((repeat' split) <;> (try simp only [put_fr, ne_eq, not_false_eq_true, h8, h19, h41, fr_s_X9_sells_c2])))
theorem fri_s_X9_sells_l2  (n k : Nat) (s : St) {f : Nat} (h8 : f ≠ 8) (h19 : f ≠ 19) (h41 : f ≠ 41) : (iter s_X9_sells_l2 n k s) f = s f := iter_fr (P := (fun s => s f)) (fun k s => fr_s_X9_sells_l2  k s h8 h19 h41) n k s
theorem fr_s_X9_sells (σ : St) {f : Nat} (h8 : f ≠ 8) (h19 : f ≠ 19) (h41 : f ≠ 41) : (s_X9_sells σ ) f = σ f := by
  unfold s_X9_sells
  all_goals ((try dsimp only) <;> ((repeat' split) <;> (try simp only [put_fr, ne_eq, not_false_eq_true, h8, h19, h41, fr_s_X9_sells_c2, fri_s_X9_sells_l2])))
set_option maxHeartbeats 1000000 in
set_option maxRecDepth 100000 in
theorem k_X9_sells (l : Launch) (D : va_G) (ca : Nat → ClassId) (h : Nat) (ad : Nat → Nat) (σ : St) (sz : Nat) (hI : IR σ)  (R : St) (hR : s_X9_sells σ = R) : Met l yX9_sells wsX9_sells ({ frames := 2, cells := 0, slots := 0, locals := 41 }) (va_Pc [.ref h] (pw_pre D ca (WM ca h ad σ) sz)) (va_Qv (fun _ : Unit => True) (fun (_ : Unit) (t : State) => pw_post D ca (WM ca h ad σ) sz (WM ca h ad R) t ∧ IR R) (va_A (WM ca h ad σ) sz)) 0 0 (va_A (WM ca h ad σ) sz) := by
  refine Met.ofW (cc := cX9_sells) (maxL := 4) (ret := none) (by decide) rfl ?_
  intro p e s m args below meth c s₁ B hml hv
  obtain ⟨rfl, hsz, hP, hK, hD0⟩ := hv
  have hx := B.exec
  have hb := B.bytes
  have hr := B.returns
  have hts := atoms_spec (ws := wsX9_sells) B.pre
  have hown : s.vm.findClass RX9 = some m.cls := findClass_of_methodNamed B.named
  have hlocks := B.notSynchronized
  have hu9 : ∀ w ∈ u_ws RX9 TX9 51, w ∈ wsX9_sells := fun w h => List.mem_cons_of_mem _ (uw9 w h)
  subst hsz
  have hD := hD0.self (sz := s.heap.size)
  obtain ⟨A, hAe⟩ : ∃ A, A = va_A (WM ca h ad σ) s.heap.size := ⟨_, rfl⟩
  rw [← hAe] at hD ⊢
  have hA : ∀ q : Nat, s.heap.size ≤ q → A q := fun q h => by rw [hAe]; exact Or.inr h
  have hS : va_S A s.heap s.heap [] := va_S.rf
  have hl := lv_entry ([.ref h]) (n := 4) (Nat.le_of_ble_eq_true rfl)
  rw [lg_entry_eq]
  generalize (lg_sl ([.ref h]) ++ List.replicate (4 - (lg_sl ([.ref h])).length) Slot.unset).toArray = ls at hl ⊢
  have hl : lv_has ls 4 [(0, .ref h)] := hl
  obtain ⟨H, hH⟩ : ∃ H, H = s.heap := ⟨_, rfl⟩
  have hP : va_P D vwCl (WM ca h ad σ) H := by rw [hH]; exact hP
  have hS : va_S A s.heap H [] := by rw [hH]; exact hS
  obtain ⟨QQ, hQ⟩ : ∃ Q9, Q9 = MQ below (va_Qv (fun _ : Unit => True) (fun (_ : Unit) (t : State) => pw_post D ca (WM ca h ad σ) s.heap.size (WM ca h ad R) t ∧ IR R) A) ([.ref h] : List Value).toArray s 0 0 A := ⟨_, rfl⟩
  rw [← hQ]
  show W _ _ _ _ _ _ _ _ _ _ s.heap _ _ _ _ _
  rw [← hH]
  have hR : (s_X9_sells_c2 (iter s_X9_sells_l2 ((σ 6 0).toNatClampNeg - 0) 0 σ)) = R := hR
  refine lv_iconst (v := (0 : Int32)) hx hb dX9_sells_0 (by decide) ?_
  refine lv_istore_n (lv' := [(1, .int (0 : Int32)), (0, .ref h)]) hx hb dX9_sells_1 rfl hl (by decide) rfl (fun ls hl => ?_)
  have hE_1 : ∀ (τ_1 : St) (hI_1 : IR τ_1) (H : Heap) (locs : List Loc) (ls : Array Slot), s_X9_sells_c2 τ_1 = R → va_P D vwCl (WM ca h ad τ_1) H → va_D A (WM ca h ad τ_1) → va_S A s.heap H locs → lv_has ls 4 [] → W p l e ((headSpec wsX9_sells ({ frames := 2, cells := 0, slots := 0, locals := 41 })).room) s m ([.ref h] : List Value).toArray below meth c H locs 0 0 QQ (F0 m 101 ls []) := by
    intro τ_1 hI_1 H locs ls hR hP hD hS hl
    have hR : τ_1 = R := hR
    have hI9 : IR τ_1 := hI_1
    subst hR
    rw [hQ]
    exact W.vret hx hb hr (fun t ht hW => ⟨⟨(), rfl, trivial, ⟨by rw [ht]; exact hP, va_K.moved hW.alike hK, by rw [← hAe]; exact hD⟩, hI9⟩, hS.F ht⟩) hS.2.2 dX9_sells_101
  have hL_1 : ∀ (n k_1 : Nat) (τ_1 : St) (hk_1 : lpk (τ_1 6 0) k_1 n) (hI_1 : IR τ_1) (H : Heap) (locs : List Loc) (ls : Array Slot), s_X9_sells_c2 (iter s_X9_sells_l2 n k_1 τ_1) = R → va_P D vwCl (WM ca h ad τ_1) H → va_D A (WM ca h ad τ_1) → va_S A s.heap H locs → lv_has ls 4 [(1, .int (nI k_1)), (0, .ref h)] → W p l e ((headSpec wsX9_sells ({ frames := 2, cells := 0, slots := 0, locals := 41 })).room) s m ([.ref h] : List Value).toArray below meth c H locs 0 0 QQ (F0 m 2 ls []) := by
    intro n
    induction n with
    | zero =>
      intro k_1 τ_1 hk_1 hI_1 H locs ls hR hP hD hS hl
      refine lv_iload_n hx hb dX9_sells_2 rfl (lv_at hl 0 rfl) ?_
      refine lv_aload_n hx hb dX9_sells_3 rfl (lv_at hl 1 rfl) ?_
      refine va_get (D := D) (ci := 9) (v := .int (τ_1 6 0)) (C := RX9) (T := TX9) (N := 51) hx hb hts hu9 hown hK hP 0 wm_0 rfl 6 (by decide) (hts (.fieldLink RX9 164 "GrazeBookModel" "herds" "I") (List.mem_cons_of_mem _ mw_789)) (fun _ h9 => h9) rfl dX9_sells_4 ?_
      refine lv_icmp_ge (tgt := 101) hx hb dX9_sells_7 (by decide) (fun _ => ?_) (fun c_2 => absurd (ge_end hk_1) c_2)
      exact hE_1 τ_1 hI_1 _ _ _ hR hP hD hS (lv_sub hl [] rfl)
    | succ n ih =>
      intro k_1 τ_1 hk_1 hI_1 H locs ls hR hP hD hS hl
      obtain ⟨S_1, hB_1⟩ : ∃ s9, s_X9_sells_l2 k_1 τ_1 = s9 := ⟨_, rfl⟩
      have hR : s_X9_sells_c2 (iter s_X9_sells_l2 n (k_1 + 1) S_1) = R := by rw [← hB_1]; exact hR
      have hB_1 : (if (τ_1 41 k_1) = (1 : Int32) then (if (31 : Int32) ≤ (((τ_1 1 0) - (τ_1 42 k_1)) + (1 : Int32)) then (put (put (put τ_1 41 k_1 (2 : Int32)) 8 0 ((τ_1 8 0) + (if ((31 : Int32) * (τ_1 37 k_1)) < (s_X9_partsOfHerd τ_1 (nI k_1)) then ((31 : Int32) * (τ_1 37 k_1)) else (s_X9_partsOfHerd τ_1 (nI k_1))))) 19 ((τ_1 35 k_1).toNatClampNeg) ((τ_1 19 ((τ_1 35 k_1).toNatClampNeg)) + ((s_X9_partsOfHerd τ_1 (nI k_1)) - (if ((31 : Int32) * (τ_1 37 k_1)) < (s_X9_partsOfHerd τ_1 (nI k_1)) then ((31 : Int32) * (τ_1 37 k_1)) else (s_X9_partsOfHerd τ_1 (nI k_1)))))) else τ_1) else τ_1) = S_1 := hB_1
      refine lv_iload_n hx hb dX9_sells_2 rfl (lv_at hl 0 rfl) ?_
      refine lv_aload_n hx hb dX9_sells_3 rfl (lv_at hl 1 rfl) ?_
      refine va_get (D := D) (ci := 9) (v := .int (τ_1 6 0)) (C := RX9) (T := TX9) (N := 51) hx hb hts hu9 hown hK hP 0 wm_0 rfl 6 (by decide) (hts (.fieldLink RX9 164 "GrazeBookModel" "herds" "I") (List.mem_cons_of_mem _ mw_789)) (fun _ h9 => h9) rfl dX9_sells_4 ?_
      refine lv_icmp_ge (tgt := 101) hx hb dX9_sells_7 (by decide) (fun c_3 => absurd c_3 (ge_go hk_1)) (fun _ => ?_)
      refine lv_aload_n hx hb dX9_sells_10 rfl (lv_at hl 1 rfl) ?_
      refine va_get (D := D) (ci := 9) (v := .ref (ad 41)) (C := RX9) (T := TX9) (N := 51) hx hb hts hu9 hown hK hP 0 wm_0 rfl 41 (by decide) (hts (.fieldLink RX9 98 "GrazeBookModel" "hState" "[I") (List.mem_cons_of_mem _ mw_824)) (fun _ h9 => h9) rfl dX9_sells_11 ?_
      refine lv_iload_n hx hb dX9_sells_14 rfl (lv_at hl 0 rfl) ?_
      refine va_iald_k (k := k_1) (v := (τ_1 41 k_1)) hx hb hK hP 30 0 wm_a41 rfl (ix_cl hk_1) rfl (ix_loop (N := 20) hk_1 (ir_6 hI_1) (by decide) (by decide)) dX9_sells_15 ?_
      refine lv_iconst (v := (1 : Int32)) hx hb dX9_sells_16 (by decide) ?_
      refine lv_icmp_ne (tgt := 95) hx hb dX9_sells_17 (by decide) (fun c_4 => ?_) (fun c_4 => ?_)
      · have hB_1 := (if_neg c_4).symm.trans hB_1
        refine lv_iinc (v := (nI (k_1 + 1))) (lv' := [(1, .int (nI (k_1 + 1))), (0, .ref h)]) hx hb dX9_sells_95 hl (k := 0) rfl (by rw [show Int32.ofInt 1 = 1 from by decide]; exact nI_1 _) (by decide) rfl (fun ls hl => ?_)
        refine lv_goto (tgt := 2) hx hb dX9_sells_98 (by decide) ?_
        subst hB_1
        exact ih (k_1 + 1) τ_1 (ge_next hk_1) hI_1 _ _ _ hR hP hD hS (lv_sub hl [0, 1] rfl)
      · have hB_1 := (if_pos c_4).symm.trans hB_1
        refine lv_aload_n hx hb dX9_sells_20 rfl (lv_at hl 1 rfl) ?_
        refine va_get (D := D) (ci := 9) (v := .int (τ_1 1 0)) (C := RX9) (T := TX9) (N := 51) hx hb hts hu9 hown hK hP 0 wm_0 rfl 1 (by decide) (hts (.fieldLink RX9 141 "GrazeBookModel" "day" "I") (List.mem_cons_of_mem _ mw_784)) (fun _ h9 => h9) rfl dX9_sells_21 ?_
        refine lv_aload_n hx hb dX9_sells_24 rfl (lv_at hl 1 rfl) ?_
        refine va_get (D := D) (ci := 9) (v := .ref (ad 42)) (C := RX9) (T := TX9) (N := 51) hx hb hts hu9 hown hK hP 0 wm_0 rfl 42 (by decide) (hts (.fieldLink RX9 101 "GrazeBookModel" "hSince" "[I") (List.mem_cons_of_mem _ mw_825)) (fun _ h9 => h9) rfl dX9_sells_25 ?_
        refine lv_iload_n hx hb dX9_sells_28 rfl (lv_at hl 0 rfl) ?_
        refine va_iald_k (k := k_1) (v := (τ_1 42 k_1)) hx hb hK hP 31 0 wm_a42 rfl (ix_cl hk_1) rfl (ix_loop (N := 20) hk_1 (ir_6 hI_1) (by decide) (by decide)) dX9_sells_29 ?_
        refine lv_isub hx hb dX9_sells_30 ?_
        refine lv_iconst (v := (1 : Int32)) hx hb dX9_sells_31 (by decide) ?_
        refine lv_iadd hx hb dX9_sells_32 ?_
        refine lv_bipush (v := (31 : Int32)) hx hb dX9_sells_33 (by decide) ?_
        refine lv_icmp_ge (tgt := 41) hx hb dX9_sells_35 (by decide) (fun c_5 => ?_) (fun c_5 => ?_)
        · have hB_1 := (if_pos c_5).symm.trans hB_1
          refine lv_aload_n hx hb dX9_sells_41 rfl (lv_at hl 1 rfl) ?_
          refine lv_iload_n hx hb dX9_sells_42 rfl (lv_at hl 0 rfl) ?_
          have hF := pw_free hD hS hA
          refine va_calli (va_runV (As := [.int (nI k_1)]) (rest := []) ⟨hx, hb, hml, hown, hts⟩ (k_X9_partsOfHerd l D ca h ad τ_1 (nI k_1) H.size hI_1 (ix_loop (N := 20) hk_1 (ir_6 hI_1) (by decide) (by decide)) _ rfl) (cwV 1 hts gX9_sells_X9_partsOfHerd rfl rfl rfl (by decide +kernel) ⟨Nat.le_of_ble_eq_true rfl, Nat.le_of_ble_eq_true rfl⟩) ⟨pw_blind, va_recv hK hP (ci := 9) (q0 := 0) rfl wm_0, pw_give hP hK hD⟩ rfl rfl hl.1 rfl (lv_room (Nat.le_of_ble_eq_true rfl)) dX9_sells_43 ⟨Nat.le_of_ble_eq_true rfl, Nat.le_of_ble_eq_true rfl⟩) hS (fun q _ h => hF q h) hF (fun r_6 u t H1 locs ht hvm hw hB hz1 hk1 hS => ?_)
          subst hw
          obtain ⟨hP, hD⟩ := pw_back hF ht hB
          clear hB hk1 hz1 hF
          generalize H1 = H at hP hS ⊢
          refine lv_istore_n (lv' := [(2, .int (s_X9_partsOfHerd τ_1 (nI k_1))), (1, .int (nI k_1)), (0, .ref h)]) hx hb dX9_sells_46 rfl hl (by decide) rfl (fun ls hl => ?_)
          refine lv_iload_n hx hb dX9_sells_47 rfl (lv_at hl 0 rfl) ?_
          refine lv_bipush (v := (31 : Int32)) hx hb dX9_sells_48 (by decide) ?_
          refine lv_aload_n hx hb dX9_sells_50 rfl (lv_at hl 2 rfl) ?_
          refine va_get (D := D) (ci := 9) (v := .ref (ad 37)) (C := RX9) (T := TX9) (N := 51) hx hb hts hu9 hown hK hP 0 wm_0 rfl 37 (by decide) (hts (.fieldLink RX9 86 "GrazeBookModel" "hMany" "[I") (List.mem_cons_of_mem _ mw_820)) (fun _ h9 => h9) rfl dX9_sells_51 ?_
          refine lv_iload_n hx hb dX9_sells_54 rfl (lv_at hl 1 rfl) ?_
          refine va_iald_k (k := k_1) (v := (τ_1 37 k_1)) hx hb hK hP 26 0 wm_a37 rfl (ix_cl hk_1) rfl (ix_loop (N := 20) hk_1 (ir_6 hI_1) (by decide) (by decide)) dX9_sells_55 ?_
          refine lv_imul hx hb dX9_sells_56 ?_
          refine va_mmin hx hb (hml.trans hl.1.symm) hown (hts (.methodLink RX9 173 Lib.Math.min.name) (List.mem_cons_of_mem _ mw_1025)) (hts (.static Lib.Math.min.name) (List.mem_cons_of_mem _ mw_588)) (hts (.initialized "java/lang/Math") (List.mem_cons_of_mem _ mw_68)) (hts (.code Lib.Math.min.name Lib.Math.min.code 2 (some .int)) (List.mem_cons_of_mem _ mw_589)) (Nat.le_of_ble_eq_true rfl) (Nat.le_of_ble_eq_true rfl) (Nat.le_of_ble_eq_true rfl) (Nat.le_of_ble_eq_true rfl) dX9_sells_57 ?_
          refine lv_istore_n (lv' := [(3, .int (if ((31 : Int32) * (τ_1 37 k_1)) < (s_X9_partsOfHerd τ_1 (nI k_1)) then ((31 : Int32) * (τ_1 37 k_1)) else (s_X9_partsOfHerd τ_1 (nI k_1)))), (2, .int (s_X9_partsOfHerd τ_1 (nI k_1))), (1, .int (nI k_1)), (0, .ref h)]) hx hb dX9_sells_60 rfl hl (by decide) rfl (fun ls hl => ?_)
          refine lv_aload_n hx hb dX9_sells_61 rfl (lv_at hl 3 rfl) ?_
          refine va_get (D := D) (ci := 9) (v := .ref (ad 41)) (C := RX9) (T := TX9) (N := 51) hx hb hts hu9 hown hK hP 0 wm_0 rfl 41 (by decide) (hts (.fieldLink RX9 98 "GrazeBookModel" "hState" "[I") (List.mem_cons_of_mem _ mw_824)) (fun _ h9 => h9) rfl dX9_sells_62 ?_
          refine lv_iload_n hx hb dX9_sells_65 rfl (lv_at hl 2 rfl) ?_
          refine lv_iconst (v := (2 : Int32)) hx hb dX9_sells_66 (by decide) ?_
          refine va_iast_k (k := k_1) hx hb hK hP hD hS 30 0 wm_a41 rfl (ix_cl hk_1) (ix_loop (N := 20) hk_1 (ir_6 hI_1) (by decide) (by decide)) dX9_sells_67 (fun H locs hP hD hS => ?_)
          rw [wm_s41] at hP hD
          refine lv_aload_n hx hb dX9_sells_68 rfl (lv_at hl 3 rfl) ?_
          refine lv_dup hx hb dX9_sells_69 rfl ?_
          refine va_get (D := D) (ci := 9) (v := .int (τ_1 8 0)) (C := RX9) (T := TX9) (N := 51) hx hb hts hu9 hown hK hP 0 wm_0 rfl 8 (by decide) (hts (.fieldLink RX9 205 "GrazeBookModel" "reeveCoins" "I") (List.mem_cons_of_mem _ mw_791)) (fun _ h9 => h9) rfl dX9_sells_70 ?_
          refine lv_iload_n hx hb dX9_sells_73 rfl (lv_at hl 0 rfl) ?_
          refine lv_iadd hx hb dX9_sells_74 ?_
          refine va_put (D := D) (ci := 9) (v := .int ((τ_1 8 0) + (if ((31 : Int32) * (τ_1 37 k_1)) < (s_X9_partsOfHerd τ_1 (nI k_1)) then ((31 : Int32) * (τ_1 37 k_1)) else (s_X9_partsOfHerd τ_1 (nI k_1))))) (ty := .int) (C := RX9) (T := TX9) (N := 51) hx hb hts hu9 tyX9 tyX9_ok nmX9 hown hK hP hD hS 0 wm_0 rfl 8 (by decide) (hts (.fieldLink RX9 205 "GrazeBookModel" "reeveCoins" "I") (List.mem_cons_of_mem _ mw_791)) (fun _ h9 => h9) rfl (by decide +kernel) rfl rfl (Nat.le_of_ble_eq_true rfl) dX9_sells_75 (fun H locs hP hD hS => ?_)
          rw [wm_p8] at hP hD
          refine lv_aload_n hx hb dX9_sells_78 rfl (lv_at hl 3 rfl) ?_
          refine va_get (D := D) (ci := 9) (v := .ref (ad 19)) (C := RX9) (T := TX9) (N := 51) hx hb hts hu9 hown hK hP 0 wm_0 rfl 19 (by decide) (hts (.fieldLink RX9 32 "GrazeBookModel" "coins" "[I") (List.mem_cons_of_mem _ mw_802)) (fun _ h9 => h9) rfl dX9_sells_79 ?_
          refine lv_aload_n hx hb dX9_sells_82 rfl (lv_at hl 3 rfl) ?_
          refine va_get (D := D) (ci := 9) (v := .ref (ad 35)) (C := RX9) (T := TX9) (N := 51) hx hb hts hu9 hown hK hP 0 wm_0 rfl 35 (by decide) (hts (.fieldLink RX9 80 "GrazeBookModel" "hOwner" "[I") (List.mem_cons_of_mem _ mw_818)) (fun _ h9 => h9) rfl dX9_sells_83 ?_
          refine lv_iload_n hx hb dX9_sells_86 rfl (lv_at hl 2 rfl) ?_
          refine va_iald_k (k := k_1) (v := (τ_1 35 k_1)) hx hb hK hP 24 0 wm_a35 rfl (ix_cl hk_1) rfl (ix_loop (N := 20) hk_1 (ir_6 hI_1) (by decide) (by decide)) dX9_sells_87 ?_
          refine lv_dup2_11 hx hb dX9_sells_88 rfl rfl ?_
          refine va_iald_k (k := ((τ_1 35 k_1).toNatClampNeg)) (v := (τ_1 19 ((τ_1 35 k_1).toNatClampNeg))) hx hb hK hP 8 0 wm_a19 rfl rfl rfl (vp_mono (n := 10) (vp_in_iff.mpr (ir_35 hI_1 k_1)) (by decide)) dX9_sells_89 ?_
          refine lv_iload_n hx hb dX9_sells_90 rfl (lv_at hl 1 rfl) ?_
          refine lv_iload_n hx hb dX9_sells_91 rfl (lv_at hl 0 rfl) ?_
          refine lv_isub hx hb dX9_sells_92 ?_
          refine lv_iadd hx hb dX9_sells_93 ?_
          refine va_iast_k (k := ((τ_1 35 k_1).toNatClampNeg)) hx hb hK hP hD hS 8 0 wm_a19 rfl rfl (vp_mono (n := 10) (vp_in_iff.mpr (ir_35 hI_1 k_1)) (by decide)) dX9_sells_94 (fun H locs hP hD hS => ?_)
          rw [wm_s19] at hP hD
          refine lv_iinc (v := (nI (k_1 + 1))) (lv' := [(1, .int (nI (k_1 + 1))), (3, .int (if ((31 : Int32) * (τ_1 37 k_1)) < (s_X9_partsOfHerd τ_1 (nI k_1)) then ((31 : Int32) * (τ_1 37 k_1)) else (s_X9_partsOfHerd τ_1 (nI k_1)))), (2, .int (s_X9_partsOfHerd τ_1 (nI k_1))), (0, .ref h)]) hx hb dX9_sells_95 hl (k := 2) rfl (by rw [show Int32.ofInt 1 = 1 from by decide]; exact nI_1 _) (by decide) rfl (fun ls hl => ?_)
          refine lv_goto (tgt := 2) hx hb dX9_sells_98 (by decide) ?_
          subst hB_1
          exact ih (k_1 + 1) (put (put (put τ_1 41 k_1 (2 : Int32)) 8 0 ((τ_1 8 0) + (if ((31 : Int32) * (τ_1 37 k_1)) < (s_X9_partsOfHerd τ_1 (nI k_1)) then ((31 : Int32) * (τ_1 37 k_1)) else (s_X9_partsOfHerd τ_1 (nI k_1))))) 19 ((τ_1 35 k_1).toNatClampNeg) ((τ_1 19 ((τ_1 35 k_1).toNatClampNeg)) + ((s_X9_partsOfHerd τ_1 (nI k_1)) - (if ((31 : Int32) * (τ_1 37 k_1)) < (s_X9_partsOfHerd τ_1 (nI k_1)) then ((31 : Int32) * (τ_1 37 k_1)) else (s_X9_partsOfHerd τ_1 (nI k_1)))))) (ge_next hk_1) hI_1 _ _ _ hR hP hD hS (lv_sub hl [0, 3] rfl)
        · have hB_1 := (if_neg c_5).symm.trans hB_1
          refine lv_goto (tgt := 95) hx hb dX9_sells_38 (by decide) ?_
          refine lv_iinc (v := (nI (k_1 + 1))) (lv' := [(1, .int (nI (k_1 + 1))), (0, .ref h)]) hx hb dX9_sells_95 hl (k := 0) rfl (by rw [show Int32.ofInt 1 = 1 from by decide]; exact nI_1 _) (by decide) rfl (fun ls hl => ?_)
          refine lv_goto (tgt := 2) hx hb dX9_sells_98 (by decide) ?_
          subst hB_1
          exact ih (k_1 + 1) τ_1 (ge_next hk_1) hI_1 _ _ _ hR hP hD hS (lv_sub hl [0, 1] rfl)
  exact hL_1 _ 0 σ ⟨rfl, by decide⟩ hI _ _ _ hR hP hD hS (lv_sub hl [0, 1] rfl)

def s_X9_isAsked_c11  : Int32 → Int32 := fun x9 => match x9 with
  | v3_2 => v3_2
def s_X9_isAsked_l11 (σ : St) (a1 : Int32) (k_2 : Nat) : Int32 → Option Int32 := fun x9 => match x9 with
  | v3_2 => (if v3_2 = (0 : Int32) then (if (s_X9_isOut σ (nI k_2)) = (0 : Int32) then (some (0 : Int32)) else (if (σ 35 k_2) = (s_X9_ownerOfRight σ a1) then (if (σ 25 (a1.toNatClampNeg)) = (2 : Int32) then (if (σ 36 k_2) = (2 : Int32) then (if (σ 25 (a1.toNatClampNeg)) = (3 : Int32) then (if (σ 38 k_2) = (σ 30 (a1.toNatClampNeg)) then (some (1 : Int32)) else (some (0 : Int32))) else (some (1 : Int32))) else (some (0 : Int32))) else (if (σ 25 (a1.toNatClampNeg)) = (3 : Int32) then (if (σ 38 k_2) = (σ 30 (a1.toNatClampNeg)) then (some (1 : Int32)) else (some (0 : Int32))) else (some (1 : Int32)))) else (some (0 : Int32)))) else none)
def s_X9_isAsked (σ : St) (a1 : Int32) : Int32 := (s_X9_isAsked_c11 (iterC (s_X9_isAsked_l11 σ a1) ((σ 6 0).toNatClampNeg - 0) 0 (0 : Int32)))
set_option maxHeartbeats 1000000 in
set_option maxRecDepth 100000 in
theorem k_X9_isAsked (l : Launch) (D : va_G) (ca : Nat → ClassId) (h : Nat) (ad : Nat → Nat) (σ : St) (a1 : Int32) (sz : Nat) (hI : IR σ) (ha1 : vp_in a1 60) (R : Int32) (hR : s_X9_isAsked σ a1 = R) : Met l yX9_isAsked wsX9_isAsked ({ frames := 1, cells := 0, slots := 0, locals := 21 }) (va_Pc [.ref h, .int a1] (pw_pre D ca (WM ca h ad σ) sz)) (va_Qi (fun (r : Int32) (_ : Unit) => r = R) (fun (_ : Unit) (t : State) => pw_post D ca (WM ca h ad σ) sz (WM ca h ad σ) t) (va_A (WM ca h ad σ) sz)) 0 0 (va_A (WM ca h ad σ) sz) := by
  refine Met.ofW (cc := cX9_isAsked) (maxL := 5) (ret := (some .boolean)) (by decide) rfl ?_
  intro p e s m args below meth c s₁ B hml hv
  obtain ⟨rfl, hsz, hP, hK, hD0⟩ := hv
  have hx := B.exec
  have hb := B.bytes
  have hr := B.returns
  have hts := atoms_spec (ws := wsX9_isAsked) B.pre
  have hown : s.vm.findClass RX9 = some m.cls := findClass_of_methodNamed B.named
  have hlocks := B.notSynchronized
  have hu9 : ∀ w ∈ u_ws RX9 TX9 51, w ∈ wsX9_isAsked := fun w h => List.mem_cons_of_mem _ (uw9 w h)
  subst hsz
  have hD := hD0.self (sz := s.heap.size)
  obtain ⟨A, hAe⟩ : ∃ A, A = va_A (WM ca h ad σ) s.heap.size := ⟨_, rfl⟩
  rw [← hAe] at hD ⊢
  have hA : ∀ q : Nat, s.heap.size ≤ q → A q := fun q h => by rw [hAe]; exact Or.inr h
  have hS : va_S A s.heap s.heap [] := va_S.rf
  have hl := lv_entry ([.ref h, .int a1]) (n := 5) (Nat.le_of_ble_eq_true rfl)
  rw [lg_entry_eq]
  generalize (lg_sl ([.ref h, .int a1]) ++ List.replicate (5 - (lg_sl ([.ref h, .int a1])).length) Slot.unset).toArray = ls at hl ⊢
  have hl : lv_has ls 5 [(0, .ref h), (1, .int a1)] := hl
  obtain ⟨H, hH⟩ : ∃ H, H = s.heap := ⟨_, rfl⟩
  have hP : va_P D vwCl (WM ca h ad σ) H := by rw [hH]; exact hP
  have hS : va_S A s.heap H [] := by rw [hH]; exact hS
  obtain ⟨QQ, hQ⟩ : ∃ Q9, Q9 = MQ below (va_Qi (fun (r : Int32) (_ : Unit) => r = R) (fun (_ : Unit) (t : State) => pw_post D ca (WM ca h ad σ) s.heap.size (WM ca h ad σ) t) A) ([.ref h, .int a1] : List Value).toArray s 0 0 A := ⟨_, rfl⟩
  rw [← hQ]
  show W _ _ _ _ _ _ _ _ _ _ s.heap _ _ _ _ _
  rw [← hH]
  have hR : (s_X9_isAsked_c11 (iterC (s_X9_isAsked_l11 σ a1) ((σ 6 0).toNatClampNeg - 0) 0 (0 : Int32))) = R := hR
  refine lv_aload_n hx hb dX9_isAsked_0 rfl (lv_at hl 0 rfl) ?_
  refine lv_iload_n hx hb dX9_isAsked_1 rfl (lv_at hl 1 rfl) ?_
  have hF := pw_free hD hS hA
  refine va_calli (va_runV (As := [.int a1]) (rest := []) ⟨hx, hb, hml, hown, hts⟩ (k_X9_ownerOfRight l D ca h ad σ a1 H.size hI ha1 _ rfl) (cwV 1 hts gX9_isAsked_X9_ownerOfRight rfl rfl rfl (by decide +kernel) ⟨Nat.le_of_ble_eq_true rfl, Nat.le_of_ble_eq_true rfl⟩) ⟨pw_blind, va_recv hK hP (ci := 9) (q0 := 0) rfl wm_0, pw_give hP hK hD⟩ rfl rfl hl.1 rfl (lv_room (Nat.le_of_ble_eq_true rfl)) dX9_isAsked_2 ⟨Nat.le_of_ble_eq_true rfl, Nat.le_of_ble_eq_true rfl⟩) hS (fun q _ h => hF q h) hF (fun r_1 u t H1 locs ht hvm hw hB hz1 hk1 hS => ?_)
  subst hw
  obtain ⟨hP, hD⟩ := pw_back hF ht hB
  clear hB hk1 hz1 hF
  generalize H1 = H at hP hS ⊢
  refine lv_istore_n (lv' := [(2, .int (s_X9_ownerOfRight σ a1)), (0, .ref h), (1, .int a1)]) hx hb dX9_isAsked_5 rfl hl (by decide) rfl (fun ls hl => ?_)
  refine lv_iconst (v := (0 : Int32)) hx hb dX9_isAsked_6 (by decide) ?_
  refine lv_istore_n (lv' := [(3, .int (0 : Int32)), (2, .int (s_X9_ownerOfRight σ a1)), (0, .ref h), (1, .int a1)]) hx hb dX9_isAsked_7 rfl hl (by decide) rfl (fun ls hl => ?_)
  refine lv_iconst (v := (0 : Int32)) hx hb dX9_isAsked_8 (by decide) ?_
  refine lv_istore (lv' := [(4, .int (0 : Int32)), (3, .int (0 : Int32)), (2, .int (s_X9_ownerOfRight σ a1)), (0, .ref h), (1, .int a1)]) hx hb dX9_isAsked_9 hl (by decide) rfl (fun ls hl => ?_)
  have hE_2 : ∀ (v3_2 : Int32) (hz_2 : narrow .boolean (.int v3_2) = .int v3_2) (H : Heap) (locs : List Loc) (ls : Array Slot), s_X9_isAsked_c11 v3_2 = R → va_P D vwCl (WM ca h ad σ) H → va_D A (WM ca h ad σ) → va_S A s.heap H locs → lv_has ls 5 [(3, .int v3_2)] → W p l e ((headSpec wsX9_isAsked ({ frames := 1, cells := 0, slots := 0, locals := 21 })).room) s m ([.ref h, .int a1] : List Value).toArray below meth c H locs 0 0 QQ (F0 m 103 ls []) := by
    intro v3_2 hz_2 H locs ls hR hP hD hS hl
    have hR : v3_2 = R := hR
    refine lv_iload_n hx hb dX9_isAsked_103 rfl (lv_at hl 0 rfl) ?_
    subst hR
    rw [hQ]
    exact W.zret (v := v3_2) hx hb hr hz_2 (fun t ht hW => ⟨⟨v3_2, (), rfl, rfl, ⟨by rw [ht]; exact hP, va_K.moved hW.alike hK, by rw [← hAe]; exact hD⟩⟩, hS.F ht⟩) hS.2.2 dX9_isAsked_104
  have hL_2 : ∀ (n k_2 : Nat) (v3_2 : Int32) (hk_2 : lpk (σ 6 0) k_2 n) (hz_2 : narrow .boolean (.int v3_2) = .int v3_2) (H : Heap) (locs : List Loc) (ls : Array Slot), s_X9_isAsked_c11 (iterC (s_X9_isAsked_l11 σ a1) n k_2 v3_2) = R → va_P D vwCl (WM ca h ad σ) H → va_D A (WM ca h ad σ) → va_S A s.heap H locs → lv_has ls 5 [(4, .int (nI k_2)), (3, .int v3_2), (2, .int (s_X9_ownerOfRight σ a1)), (0, .ref h), (1, .int a1)] → W p l e ((headSpec wsX9_isAsked ({ frames := 1, cells := 0, slots := 0, locals := 21 })).room) s m ([.ref h, .int a1] : List Value).toArray below meth c H locs 0 0 QQ (F0 m 11 ls []) := by
    intro n
    induction n with
    | zero =>
      intro k_2 v3_2 hk_2 hz_2 H locs ls hR hP hD hS hl
      refine lv_iload hx hb dX9_isAsked_11 (lv_at hl 0 rfl) ?_
      refine lv_aload_n hx hb dX9_isAsked_13 rfl (lv_at hl 3 rfl) ?_
      refine va_get (D := D) (ci := 9) (v := .int (σ 6 0)) (C := RX9) (T := TX9) (N := 51) hx hb hts hu9 hown hK hP 0 wm_0 rfl 6 (by decide) (hts (.fieldLink RX9 164 "GrazeBookModel" "herds" "I") (List.mem_cons_of_mem _ mw_789)) (fun _ h9 => h9) rfl dX9_isAsked_14 ?_
      refine lv_icmp_ge (tgt := 103) hx hb dX9_isAsked_17 (by decide) (fun _ => ?_) (fun c_3 => absurd (ge_end hk_2) c_3)
      exact hE_2 v3_2 hz_2 _ _ _ hR hP hD hS (lv_sub hl [1] rfl)
    | succ n ih =>
      intro k_2 v3_2 hk_2 hz_2 H locs ls hR hP hD hS hl
      obtain ⟨S_2, hB_2⟩ : ∃ s9, s_X9_isAsked_l11 σ a1 k_2 v3_2 = s9 := ⟨_, rfl⟩
      have hR : s_X9_isAsked_c11 (iterC1 (s_X9_isAsked_l11 σ a1) n k_2 v3_2 S_2) = R := by rw [← hB_2]; exact hR
      have hB_2 : (if v3_2 = (0 : Int32) then (if (s_X9_isOut σ (nI k_2)) = (0 : Int32) then (some (0 : Int32)) else (if (σ 35 k_2) = (s_X9_ownerOfRight σ a1) then (if (σ 25 (a1.toNatClampNeg)) = (2 : Int32) then (if (σ 36 k_2) = (2 : Int32) then (if (σ 25 (a1.toNatClampNeg)) = (3 : Int32) then (if (σ 38 k_2) = (σ 30 (a1.toNatClampNeg)) then (some (1 : Int32)) else (some (0 : Int32))) else (some (1 : Int32))) else (some (0 : Int32))) else (if (σ 25 (a1.toNatClampNeg)) = (3 : Int32) then (if (σ 38 k_2) = (σ 30 (a1.toNatClampNeg)) then (some (1 : Int32)) else (some (0 : Int32))) else (some (1 : Int32)))) else (some (0 : Int32)))) else none) = S_2 := hB_2
      refine lv_iload hx hb dX9_isAsked_11 (lv_at hl 0 rfl) ?_
      refine lv_aload_n hx hb dX9_isAsked_13 rfl (lv_at hl 3 rfl) ?_
      refine va_get (D := D) (ci := 9) (v := .int (σ 6 0)) (C := RX9) (T := TX9) (N := 51) hx hb hts hu9 hown hK hP 0 wm_0 rfl 6 (by decide) (hts (.fieldLink RX9 164 "GrazeBookModel" "herds" "I") (List.mem_cons_of_mem _ mw_789)) (fun _ h9 => h9) rfl dX9_isAsked_14 ?_
      refine lv_icmp_ge (tgt := 103) hx hb dX9_isAsked_17 (by decide) (fun c_4 => absurd c_4 (ge_go hk_2)) (fun _ => ?_)
      refine lv_iload_n hx hb dX9_isAsked_20 rfl (lv_at hl 1 rfl) ?_
      refine lv_if_ne (tgt := 103) hx hb dX9_isAsked_21 (by decide) (fun c_5 => ?_) (fun c_5 => ?_)
      · have hB_2 := (if_neg c_5).symm.trans hB_2
        subst hB_2
        exact hE_2 v3_2 hz_2 _ _ _ hR hP hD hS (lv_sub hl [1] rfl)
      · have hB_2 := (if_pos c_5).symm.trans hB_2
        refine lv_aload_n hx hb dX9_isAsked_24 rfl (lv_at hl 3 rfl) ?_
        refine lv_iload hx hb dX9_isAsked_25 (lv_at hl 0 rfl) ?_
        have hF := pw_free hD hS hA
        refine va_calli (va_runV (As := [.int (nI k_2)]) (rest := []) ⟨hx, hb, hml, hown, hts⟩ (k_X9_isOut l D ca h ad σ (nI k_2) H.size hI (ix_loop (N := 20) hk_2 (ir_6 hI) (by decide) (by decide)) _ rfl) (cwV 1 hts gX9_isAsked_X9_isOut rfl rfl rfl (by decide +kernel) ⟨Nat.le_of_ble_eq_true rfl, Nat.le_of_ble_eq_true rfl⟩) ⟨pw_blind, va_recv hK hP (ci := 9) (q0 := 0) rfl wm_0, pw_give hP hK hD⟩ rfl rfl hl.1 rfl (lv_room (Nat.le_of_ble_eq_true rfl)) dX9_isAsked_27 ⟨Nat.le_of_ble_eq_true rfl, Nat.le_of_ble_eq_true rfl⟩) hS (fun q _ h => hF q h) hF (fun r_6 u t H1 locs ht hvm hw hB hz1 hk1 hS => ?_)
        subst hw
        obtain ⟨hP, hD⟩ := pw_back hF ht hB
        clear hB hk1 hz1 hF
        generalize H1 = H at hP hS ⊢
        refine lv_if_eq (tgt := 95) hx hb dX9_isAsked_30 (by decide) (fun c_7 => ?_) (fun c_7 => ?_)
        · have hB_2 := (if_pos c_7).symm.trans hB_2
          refine lv_iconst (v := (0 : Int32)) hx hb dX9_isAsked_95 (by decide) ?_
          refine lv_istore_n (lv' := [(3, .int (0 : Int32)), (4, .int (nI k_2)), (2, .int (s_X9_ownerOfRight σ a1)), (0, .ref h), (1, .int a1)]) hx hb dX9_isAsked_96 rfl hl (by decide) rfl (fun ls hl => ?_)
          refine lv_iinc (v := (nI (k_2 + 1))) (lv' := [(4, .int (nI (k_2 + 1))), (3, .int (0 : Int32)), (2, .int (s_X9_ownerOfRight σ a1)), (0, .ref h), (1, .int a1)]) hx hb dX9_isAsked_97 hl (k := 1) rfl (by rw [show Int32.ofInt 1 = 1 from by decide]; exact nI_1 _) (by decide) rfl (fun ls hl => ?_)
          refine lv_goto (tgt := 11) hx hb dX9_isAsked_100 (by decide) ?_
          subst hB_2
          exact ih (k_2 + 1) (0 : Int32) (ge_next hk_2) rfl _ _ _ hR hP hD hS (lv_sub hl [0, 1, 2, 3, 4] rfl)
        · have hB_2 := (if_neg c_7).symm.trans hB_2
          refine lv_aload_n hx hb dX9_isAsked_33 rfl (lv_at hl 3 rfl) ?_
          refine va_get (D := D) (ci := 9) (v := .ref (ad 35)) (C := RX9) (T := TX9) (N := 51) hx hb hts hu9 hown hK hP 0 wm_0 rfl 35 (by decide) (hts (.fieldLink RX9 80 "GrazeBookModel" "hOwner" "[I") (List.mem_cons_of_mem _ mw_818)) (fun _ h9 => h9) rfl dX9_isAsked_34 ?_
          refine lv_iload hx hb dX9_isAsked_37 (lv_at hl 0 rfl) ?_
          refine va_iald_k (k := k_2) (v := (σ 35 k_2)) hx hb hK hP 24 0 wm_a35 rfl (ix_cl hk_2) rfl (ix_loop (N := 20) hk_2 (ir_6 hI) (by decide) (by decide)) dX9_isAsked_39 ?_
          refine lv_iload_n hx hb dX9_isAsked_40 rfl (lv_at hl 2 rfl) ?_
          refine lv_icmp_ne (tgt := 95) hx hb dX9_isAsked_41 (by decide) (fun c_8 => ?_) (fun c_8 => ?_)
          · have hB_2 := (if_neg c_8).symm.trans hB_2
            refine lv_iconst (v := (0 : Int32)) hx hb dX9_isAsked_95 (by decide) ?_
            refine lv_istore_n (lv' := [(3, .int (0 : Int32)), (4, .int (nI k_2)), (2, .int (s_X9_ownerOfRight σ a1)), (0, .ref h), (1, .int a1)]) hx hb dX9_isAsked_96 rfl hl (by decide) rfl (fun ls hl => ?_)
            refine lv_iinc (v := (nI (k_2 + 1))) (lv' := [(4, .int (nI (k_2 + 1))), (3, .int (0 : Int32)), (2, .int (s_X9_ownerOfRight σ a1)), (0, .ref h), (1, .int a1)]) hx hb dX9_isAsked_97 hl (k := 1) rfl (by rw [show Int32.ofInt 1 = 1 from by decide]; exact nI_1 _) (by decide) rfl (fun ls hl => ?_)
            refine lv_goto (tgt := 11) hx hb dX9_isAsked_100 (by decide) ?_
            subst hB_2
            exact ih (k_2 + 1) (0 : Int32) (ge_next hk_2) rfl _ _ _ hR hP hD hS (lv_sub hl [0, 1, 2, 3, 4] rfl)
          · have hB_2 := (if_pos c_8).symm.trans hB_2
            refine lv_aload_n hx hb dX9_isAsked_44 rfl (lv_at hl 3 rfl) ?_
            refine va_get (D := D) (ci := 9) (v := .ref (ad 25)) (C := RX9) (T := TX9) (N := 51) hx hb hts hu9 hown hK hP 0 wm_0 rfl 25 (by decide) (hts (.fieldLink RX9 50 "GrazeBookModel" "rKind" "[I") (List.mem_cons_of_mem _ mw_808)) (fun _ h9 => h9) rfl dX9_isAsked_45 ?_
            refine lv_iload_n hx hb dX9_isAsked_48 rfl (lv_at hl 4 rfl) ?_
            refine va_iald_k (k := (a1.toNatClampNeg)) (v := (σ 25 (a1.toNatClampNeg))) hx hb hK hP 14 0 wm_a25 rfl rfl rfl ha1 dX9_isAsked_49 ?_
            refine lv_iconst (v := (2 : Int32)) hx hb dX9_isAsked_50 (by decide) ?_
            refine lv_icmp_ne (tgt := 65) hx hb dX9_isAsked_51 (by decide) (fun c_9 => ?_) (fun c_9 => ?_)
            · have hB_2 := (if_neg c_9).symm.trans hB_2
              refine lv_aload_n hx hb dX9_isAsked_65 rfl (lv_at hl 3 rfl) ?_
              refine va_get (D := D) (ci := 9) (v := .ref (ad 25)) (C := RX9) (T := TX9) (N := 51) hx hb hts hu9 hown hK hP 0 wm_0 rfl 25 (by decide) (hts (.fieldLink RX9 50 "GrazeBookModel" "rKind" "[I") (List.mem_cons_of_mem _ mw_808)) (fun _ h9 => h9) rfl dX9_isAsked_66 ?_
              refine lv_iload_n hx hb dX9_isAsked_69 rfl (lv_at hl 4 rfl) ?_
              refine va_iald_k (k := (a1.toNatClampNeg)) (v := (σ 25 (a1.toNatClampNeg))) hx hb hK hP 14 0 wm_a25 rfl rfl rfl ha1 dX9_isAsked_70 ?_
              refine lv_iconst (v := (3 : Int32)) hx hb dX9_isAsked_71 (by decide) ?_
              refine lv_icmp_ne (tgt := 91) hx hb dX9_isAsked_72 (by decide) (fun c_10 => ?_) (fun c_10 => ?_)
              · have hB_2 := (if_neg c_10).symm.trans hB_2
                refine lv_iconst (v := (1 : Int32)) hx hb dX9_isAsked_91 (by decide) ?_
                refine lv_goto (tgt := 96) hx hb dX9_isAsked_92 (by decide) ?_
                refine lv_istore_n (lv' := [(3, .int (1 : Int32)), (4, .int (nI k_2)), (2, .int (s_X9_ownerOfRight σ a1)), (0, .ref h), (1, .int a1)]) hx hb dX9_isAsked_96 rfl hl (by decide) rfl (fun ls hl => ?_)
                refine lv_iinc (v := (nI (k_2 + 1))) (lv' := [(4, .int (nI (k_2 + 1))), (3, .int (1 : Int32)), (2, .int (s_X9_ownerOfRight σ a1)), (0, .ref h), (1, .int a1)]) hx hb dX9_isAsked_97 hl (k := 1) rfl (by rw [show Int32.ofInt 1 = 1 from by decide]; exact nI_1 _) (by decide) rfl (fun ls hl => ?_)
                refine lv_goto (tgt := 11) hx hb dX9_isAsked_100 (by decide) ?_
                subst hB_2
                exact ih (k_2 + 1) (1 : Int32) (ge_next hk_2) rfl _ _ _ hR hP hD hS (lv_sub hl [0, 1, 2, 3, 4] rfl)
              · have hB_2 := (if_pos c_10).symm.trans hB_2
                refine lv_aload_n hx hb dX9_isAsked_75 rfl (lv_at hl 3 rfl) ?_
                refine va_get (D := D) (ci := 9) (v := .ref (ad 38)) (C := RX9) (T := TX9) (N := 51) hx hb hts hu9 hown hK hP 0 wm_0 rfl 38 (by decide) (hts (.fieldLink RX9 89 "GrazeBookModel" "hPiece" "[I") (List.mem_cons_of_mem _ mw_821)) (fun _ h9 => h9) rfl dX9_isAsked_76 ?_
                refine lv_iload hx hb dX9_isAsked_79 (lv_at hl 0 rfl) ?_
                refine va_iald_k (k := k_2) (v := (σ 38 k_2)) hx hb hK hP 27 0 wm_a38 rfl (ix_cl hk_2) rfl (ix_loop (N := 20) hk_2 (ir_6 hI) (by decide) (by decide)) dX9_isAsked_81 ?_
                refine lv_aload_n hx hb dX9_isAsked_82 rfl (lv_at hl 3 rfl) ?_
                refine va_get (D := D) (ci := 9) (v := .ref (ad 30)) (C := RX9) (T := TX9) (N := 51) hx hb hts hu9 hown hK hP 0 wm_0 rfl 30 (by decide) (hts (.fieldLink RX9 65 "GrazeBookModel" "rPiece" "[I") (List.mem_cons_of_mem _ mw_813)) (fun _ h9 => h9) rfl dX9_isAsked_83 ?_
                refine lv_iload_n hx hb dX9_isAsked_86 rfl (lv_at hl 4 rfl) ?_
                refine va_iald_k (k := (a1.toNatClampNeg)) (v := (σ 30 (a1.toNatClampNeg))) hx hb hK hP 19 0 wm_a30 rfl rfl rfl ha1 dX9_isAsked_87 ?_
                refine lv_icmp_ne (tgt := 95) hx hb dX9_isAsked_88 (by decide) (fun c_11 => ?_) (fun c_11 => ?_)
                · have hB_2 := (if_neg c_11).symm.trans hB_2
                  refine lv_iconst (v := (0 : Int32)) hx hb dX9_isAsked_95 (by decide) ?_
                  refine lv_istore_n (lv' := [(3, .int (0 : Int32)), (4, .int (nI k_2)), (2, .int (s_X9_ownerOfRight σ a1)), (0, .ref h), (1, .int a1)]) hx hb dX9_isAsked_96 rfl hl (by decide) rfl (fun ls hl => ?_)
                  refine lv_iinc (v := (nI (k_2 + 1))) (lv' := [(4, .int (nI (k_2 + 1))), (3, .int (0 : Int32)), (2, .int (s_X9_ownerOfRight σ a1)), (0, .ref h), (1, .int a1)]) hx hb dX9_isAsked_97 hl (k := 1) rfl (by rw [show Int32.ofInt 1 = 1 from by decide]; exact nI_1 _) (by decide) rfl (fun ls hl => ?_)
                  refine lv_goto (tgt := 11) hx hb dX9_isAsked_100 (by decide) ?_
                  subst hB_2
                  exact ih (k_2 + 1) (0 : Int32) (ge_next hk_2) rfl _ _ _ hR hP hD hS (lv_sub hl [0, 1, 2, 3, 4] rfl)
                · have hB_2 := (if_pos c_11).symm.trans hB_2
                  refine lv_iconst (v := (1 : Int32)) hx hb dX9_isAsked_91 (by decide) ?_
                  refine lv_goto (tgt := 96) hx hb dX9_isAsked_92 (by decide) ?_
                  refine lv_istore_n (lv' := [(3, .int (1 : Int32)), (4, .int (nI k_2)), (2, .int (s_X9_ownerOfRight σ a1)), (0, .ref h), (1, .int a1)]) hx hb dX9_isAsked_96 rfl hl (by decide) rfl (fun ls hl => ?_)
                  refine lv_iinc (v := (nI (k_2 + 1))) (lv' := [(4, .int (nI (k_2 + 1))), (3, .int (1 : Int32)), (2, .int (s_X9_ownerOfRight σ a1)), (0, .ref h), (1, .int a1)]) hx hb dX9_isAsked_97 hl (k := 1) rfl (by rw [show Int32.ofInt 1 = 1 from by decide]; exact nI_1 _) (by decide) rfl (fun ls hl => ?_)
                  refine lv_goto (tgt := 11) hx hb dX9_isAsked_100 (by decide) ?_
                  subst hB_2
                  exact ih (k_2 + 1) (1 : Int32) (ge_next hk_2) rfl _ _ _ hR hP hD hS (lv_sub hl [0, 1, 2, 3, 4] rfl)
            · have hB_2 := (if_pos c_9).symm.trans hB_2
              refine lv_aload_n hx hb dX9_isAsked_54 rfl (lv_at hl 3 rfl) ?_
              refine va_get (D := D) (ci := 9) (v := .ref (ad 36)) (C := RX9) (T := TX9) (N := 51) hx hb hts hu9 hown hK hP 0 wm_0 rfl 36 (by decide) (hts (.fieldLink RX9 83 "GrazeBookModel" "hSort" "[I") (List.mem_cons_of_mem _ mw_819)) (fun _ h9 => h9) rfl dX9_isAsked_55 ?_
              refine lv_iload hx hb dX9_isAsked_58 (lv_at hl 0 rfl) ?_
              refine va_iald_k (k := k_2) (v := (σ 36 k_2)) hx hb hK hP 25 0 wm_a36 rfl (ix_cl hk_2) rfl (ix_loop (N := 20) hk_2 (ir_6 hI) (by decide) (by decide)) dX9_isAsked_60 ?_
              refine lv_iconst (v := (2 : Int32)) hx hb dX9_isAsked_61 (by decide) ?_
              refine lv_icmp_ne (tgt := 95) hx hb dX9_isAsked_62 (by decide) (fun c_12 => ?_) (fun c_12 => ?_)
              · have hB_2 := (if_neg c_12).symm.trans hB_2
                refine lv_iconst (v := (0 : Int32)) hx hb dX9_isAsked_95 (by decide) ?_
                refine lv_istore_n (lv' := [(3, .int (0 : Int32)), (4, .int (nI k_2)), (2, .int (s_X9_ownerOfRight σ a1)), (0, .ref h), (1, .int a1)]) hx hb dX9_isAsked_96 rfl hl (by decide) rfl (fun ls hl => ?_)
                refine lv_iinc (v := (nI (k_2 + 1))) (lv' := [(4, .int (nI (k_2 + 1))), (3, .int (0 : Int32)), (2, .int (s_X9_ownerOfRight σ a1)), (0, .ref h), (1, .int a1)]) hx hb dX9_isAsked_97 hl (k := 1) rfl (by rw [show Int32.ofInt 1 = 1 from by decide]; exact nI_1 _) (by decide) rfl (fun ls hl => ?_)
                refine lv_goto (tgt := 11) hx hb dX9_isAsked_100 (by decide) ?_
                subst hB_2
                exact ih (k_2 + 1) (0 : Int32) (ge_next hk_2) rfl _ _ _ hR hP hD hS (lv_sub hl [0, 1, 2, 3, 4] rfl)
              · have hB_2 := (if_pos c_12).symm.trans hB_2
                refine lv_aload_n hx hb dX9_isAsked_65 rfl (lv_at hl 3 rfl) ?_
                refine va_get (D := D) (ci := 9) (v := .ref (ad 25)) (C := RX9) (T := TX9) (N := 51) hx hb hts hu9 hown hK hP 0 wm_0 rfl 25 (by decide) (hts (.fieldLink RX9 50 "GrazeBookModel" "rKind" "[I") (List.mem_cons_of_mem _ mw_808)) (fun _ h9 => h9) rfl dX9_isAsked_66 ?_
                refine lv_iload_n hx hb dX9_isAsked_69 rfl (lv_at hl 4 rfl) ?_
                refine va_iald_k (k := (a1.toNatClampNeg)) (v := (σ 25 (a1.toNatClampNeg))) hx hb hK hP 14 0 wm_a25 rfl rfl rfl ha1 dX9_isAsked_70 ?_
                refine lv_iconst (v := (3 : Int32)) hx hb dX9_isAsked_71 (by decide) ?_
                refine lv_icmp_ne (tgt := 91) hx hb dX9_isAsked_72 (by decide) (fun c_13 => ?_) (fun c_13 => ?_)
                · have hB_2 := (if_neg c_13).symm.trans hB_2
                  refine lv_iconst (v := (1 : Int32)) hx hb dX9_isAsked_91 (by decide) ?_
                  refine lv_goto (tgt := 96) hx hb dX9_isAsked_92 (by decide) ?_
                  refine lv_istore_n (lv' := [(3, .int (1 : Int32)), (4, .int (nI k_2)), (2, .int (s_X9_ownerOfRight σ a1)), (0, .ref h), (1, .int a1)]) hx hb dX9_isAsked_96 rfl hl (by decide) rfl (fun ls hl => ?_)
                  refine lv_iinc (v := (nI (k_2 + 1))) (lv' := [(4, .int (nI (k_2 + 1))), (3, .int (1 : Int32)), (2, .int (s_X9_ownerOfRight σ a1)), (0, .ref h), (1, .int a1)]) hx hb dX9_isAsked_97 hl (k := 1) rfl (by rw [show Int32.ofInt 1 = 1 from by decide]; exact nI_1 _) (by decide) rfl (fun ls hl => ?_)
                  refine lv_goto (tgt := 11) hx hb dX9_isAsked_100 (by decide) ?_
                  subst hB_2
                  exact ih (k_2 + 1) (1 : Int32) (ge_next hk_2) rfl _ _ _ hR hP hD hS (lv_sub hl [0, 1, 2, 3, 4] rfl)
                · have hB_2 := (if_pos c_13).symm.trans hB_2
                  refine lv_aload_n hx hb dX9_isAsked_75 rfl (lv_at hl 3 rfl) ?_
                  refine va_get (D := D) (ci := 9) (v := .ref (ad 38)) (C := RX9) (T := TX9) (N := 51) hx hb hts hu9 hown hK hP 0 wm_0 rfl 38 (by decide) (hts (.fieldLink RX9 89 "GrazeBookModel" "hPiece" "[I") (List.mem_cons_of_mem _ mw_821)) (fun _ h9 => h9) rfl dX9_isAsked_76 ?_
                  refine lv_iload hx hb dX9_isAsked_79 (lv_at hl 0 rfl) ?_
                  refine va_iald_k (k := k_2) (v := (σ 38 k_2)) hx hb hK hP 27 0 wm_a38 rfl (ix_cl hk_2) rfl (ix_loop (N := 20) hk_2 (ir_6 hI) (by decide) (by decide)) dX9_isAsked_81 ?_
                  refine lv_aload_n hx hb dX9_isAsked_82 rfl (lv_at hl 3 rfl) ?_
                  refine va_get (D := D) (ci := 9) (v := .ref (ad 30)) (C := RX9) (T := TX9) (N := 51) hx hb hts hu9 hown hK hP 0 wm_0 rfl 30 (by decide) (hts (.fieldLink RX9 65 "GrazeBookModel" "rPiece" "[I") (List.mem_cons_of_mem _ mw_813)) (fun _ h9 => h9) rfl dX9_isAsked_83 ?_
                  refine lv_iload_n hx hb dX9_isAsked_86 rfl (lv_at hl 4 rfl) ?_
                  refine va_iald_k (k := (a1.toNatClampNeg)) (v := (σ 30 (a1.toNatClampNeg))) hx hb hK hP 19 0 wm_a30 rfl rfl rfl ha1 dX9_isAsked_87 ?_
                  refine lv_icmp_ne (tgt := 95) hx hb dX9_isAsked_88 (by decide) (fun c_14 => ?_) (fun c_14 => ?_)
                  · have hB_2 := (if_neg c_14).symm.trans hB_2
                    refine lv_iconst (v := (0 : Int32)) hx hb dX9_isAsked_95 (by decide) ?_
                    refine lv_istore_n (lv' := [(3, .int (0 : Int32)), (4, .int (nI k_2)), (2, .int (s_X9_ownerOfRight σ a1)), (0, .ref h), (1, .int a1)]) hx hb dX9_isAsked_96 rfl hl (by decide) rfl (fun ls hl => ?_)
                    refine lv_iinc (v := (nI (k_2 + 1))) (lv' := [(4, .int (nI (k_2 + 1))), (3, .int (0 : Int32)), (2, .int (s_X9_ownerOfRight σ a1)), (0, .ref h), (1, .int a1)]) hx hb dX9_isAsked_97 hl (k := 1) rfl (by rw [show Int32.ofInt 1 = 1 from by decide]; exact nI_1 _) (by decide) rfl (fun ls hl => ?_)
                    refine lv_goto (tgt := 11) hx hb dX9_isAsked_100 (by decide) ?_
                    subst hB_2
                    exact ih (k_2 + 1) (0 : Int32) (ge_next hk_2) rfl _ _ _ hR hP hD hS (lv_sub hl [0, 1, 2, 3, 4] rfl)
                  · have hB_2 := (if_pos c_14).symm.trans hB_2
                    refine lv_iconst (v := (1 : Int32)) hx hb dX9_isAsked_91 (by decide) ?_
                    refine lv_goto (tgt := 96) hx hb dX9_isAsked_92 (by decide) ?_
                    refine lv_istore_n (lv' := [(3, .int (1 : Int32)), (4, .int (nI k_2)), (2, .int (s_X9_ownerOfRight σ a1)), (0, .ref h), (1, .int a1)]) hx hb dX9_isAsked_96 rfl hl (by decide) rfl (fun ls hl => ?_)
                    refine lv_iinc (v := (nI (k_2 + 1))) (lv' := [(4, .int (nI (k_2 + 1))), (3, .int (1 : Int32)), (2, .int (s_X9_ownerOfRight σ a1)), (0, .ref h), (1, .int a1)]) hx hb dX9_isAsked_97 hl (k := 1) rfl (by rw [show Int32.ofInt 1 = 1 from by decide]; exact nI_1 _) (by decide) rfl (fun ls hl => ?_)
                    refine lv_goto (tgt := 11) hx hb dX9_isAsked_100 (by decide) ?_
                    subst hB_2
                    exact ih (k_2 + 1) (1 : Int32) (ge_next hk_2) rfl _ _ _ hR hP hD hS (lv_sub hl [0, 1, 2, 3, 4] rfl)
  exact hL_2 _ 0 (0 : Int32) ⟨rfl, by decide⟩ rfl _ _ _ hR hP hD hS (lv_sub hl [0, 1, 2, 3, 4] rfl)

def s_X9_rest (σ : St) (a1 : Int32) (a2 : Int32) : Int32 × St := (if (s_X9_isIn a1 (σ 2 0)) = (0 : Int32) then (((s_X9_refuse σ (-1 : Int32)).1), (s_X9_refuse σ (-1 : Int32)).2) else (if (σ 1 0) ≤ a2 then (if a2 ≤ (740 : Int32) then ((σ 16 (a1.toNatClampNeg)), (put σ 16 (a1.toNatClampNeg) a2)) else (((s_X9_refuse σ (-6 : Int32)).1), (s_X9_refuse σ (-6 : Int32)).2)) else (((s_X9_refuse σ (-4 : Int32)).1), (s_X9_refuse σ (-4 : Int32)).2)))
theorem fr_s_X9_rest (σ : St) (a1 : Int32) (a2 : Int32) {f : Nat} (h0 : f ≠ 0) (h16 : f ≠ 16) : (s_X9_rest σ a1 a2 ).2 f = σ f := by
  unfold s_X9_rest
  all_goals ((try dsimp only) <;> ((repeat' split) <;> (try simp only [put_fr, ne_eq, not_false_eq_true, h0, h16, fr_s_X9_refuse])))
set_option maxHeartbeats 1000000 in
set_option maxRecDepth 100000 in
theorem k_X9_rest (l : Launch) (D : va_G) (ca : Nat → ClassId) (h : Nat) (ad : Nat → Nat) (σ : St) (a1 : Int32) (a2 : Int32) (sz : Nat) (hI : IR σ)  (R : Int32 × St) (hR : s_X9_rest σ a1 a2 = R) : Met l yX9_rest wsX9_rest ({ frames := 1, cells := 0, slots := 0, locals := 21 }) (va_Pc [.ref h, .int a1, .int a2] (pw_pre D ca (WM ca h ad σ) sz)) (va_Qi (fun (r : Int32) (_ : Unit) => r = R.1) (fun (_ : Unit) (t : State) => pw_post D ca (WM ca h ad σ) sz (WM ca h ad (R.2)) t ∧ IR R.2) (va_A (WM ca h ad σ) sz)) 0 0 (va_A (WM ca h ad σ) sz) := by
  refine Met.ofW (cc := cX9_rest) (maxL := 4) (ret := (some .int)) (by decide) rfl ?_
  intro p e s m args below meth c s₁ B hml hv
  obtain ⟨rfl, hsz, hP, hK, hD0⟩ := hv
  have hx := B.exec
  have hb := B.bytes
  have hr := B.returns
  have hts := atoms_spec (ws := wsX9_rest) B.pre
  have hown : s.vm.findClass RX9 = some m.cls := findClass_of_methodNamed B.named
  have hlocks := B.notSynchronized
  have hu9 : ∀ w ∈ u_ws RX9 TX9 51, w ∈ wsX9_rest := fun w h => List.mem_cons_of_mem _ (uw9 w h)
  subst hsz
  have hD := hD0.self (sz := s.heap.size)
  obtain ⟨A, hAe⟩ : ∃ A, A = va_A (WM ca h ad σ) s.heap.size := ⟨_, rfl⟩
  rw [← hAe] at hD ⊢
  have hA : ∀ q : Nat, s.heap.size ≤ q → A q := fun q h => by rw [hAe]; exact Or.inr h
  have hS : va_S A s.heap s.heap [] := va_S.rf
  have hl := lv_entry ([.ref h, .int a1, .int a2]) (n := 4) (Nat.le_of_ble_eq_true rfl)
  rw [lg_entry_eq]
  generalize (lg_sl ([.ref h, .int a1, .int a2]) ++ List.replicate (4 - (lg_sl ([.ref h, .int a1, .int a2])).length) Slot.unset).toArray = ls at hl ⊢
  have hl : lv_has ls 4 [(0, .ref h), (1, .int a1), (2, .int a2)] := hl
  obtain ⟨H, hH⟩ : ∃ H, H = s.heap := ⟨_, rfl⟩
  have hP : va_P D vwCl (WM ca h ad σ) H := by rw [hH]; exact hP
  have hS : va_S A s.heap H [] := by rw [hH]; exact hS
  obtain ⟨QQ, hQ⟩ : ∃ Q9, Q9 = MQ below (va_Qi (fun (r : Int32) (_ : Unit) => r = R.1) (fun (_ : Unit) (t : State) => pw_post D ca (WM ca h ad σ) s.heap.size (WM ca h ad (R.2)) t ∧ IR R.2) A) ([.ref h, .int a1, .int a2] : List Value).toArray s 0 0 A := ⟨_, rfl⟩
  rw [← hQ]
  show W _ _ _ _ _ _ _ _ _ _ s.heap _ _ _ _ _
  rw [← hH]
  have hR : (if (s_X9_isIn a1 (σ 2 0)) = (0 : Int32) then (((s_X9_refuse σ (-1 : Int32)).1), (s_X9_refuse σ (-1 : Int32)).2) else (if (σ 1 0) ≤ a2 then (if a2 ≤ (740 : Int32) then ((σ 16 (a1.toNatClampNeg)), (put σ 16 (a1.toNatClampNeg) a2)) else (((s_X9_refuse σ (-6 : Int32)).1), (s_X9_refuse σ (-6 : Int32)).2)) else (((s_X9_refuse σ (-4 : Int32)).1), (s_X9_refuse σ (-4 : Int32)).2))) = R := hR
  refine lv_iload_n hx hb dX9_rest_0 rfl (lv_at hl 1 rfl) ?_
  refine lv_aload_n hx hb dX9_rest_1 rfl (lv_at hl 0 rfl) ?_
  refine va_get (D := D) (ci := 9) (v := .int (σ 2 0)) (C := RX9) (T := TX9) (N := 51) hx hb hts hu9 hown hK hP 0 wm_0 rfl 2 (by decide) (hts (.fieldLink RX9 127 "GrazeBookModel" "pieces" "I") (List.mem_cons_of_mem _ mw_785)) (fun _ h9 => h9) rfl dX9_rest_2 ?_
  have hF := pw_free (pn_D (A := A)) hS hA
  refine va_calli (va_runS (As := [.int a1, .int (σ 2 0)]) (rest := []) ⟨hx, hb, hml, hown, hts⟩ (k_X9_isIn l D ca a1 (σ 2 0) H.size _ rfl) (va_cwS 2 hts gX9_rest_X9_isIn rfl rfl rfl (by decide +kernel) ⟨Nat.le_of_ble_eq_true rfl, Nat.le_of_ble_eq_true rfl⟩) ⟨pw_blind, pw_give pn_P hK (pn_D (A := A))⟩ rfl rfl hl.1 rfl (lv_room (Nat.le_of_ble_eq_true rfl)) dX9_rest_5 ⟨Nat.le_of_ble_eq_true rfl, Nat.le_of_ble_eq_true rfl⟩) hS (fun q _ h => hF q h) hF (fun r_1 u t H1 locs ht hvm hw hB hz1 hk1 hS => ?_)
  subst hw
  have hP := pn_back hP hk1
  clear hB hk1 hz1 hF
  generalize H1 = H at hP hS ⊢
  refine lv_if_ne (tgt := 17) hx hb dX9_rest_8 (by decide) (fun c_2 => ?_) (fun c_2 => ?_)
  · have hR := (if_neg c_2).symm.trans hR
    refine lv_iload_n hx hb dX9_rest_17 rfl (lv_at hl 2 rfl) ?_
    refine lv_aload_n hx hb dX9_rest_18 rfl (lv_at hl 0 rfl) ?_
    refine va_get (D := D) (ci := 9) (v := .int (σ 1 0)) (C := RX9) (T := TX9) (N := 51) hx hb hts hu9 hown hK hP 0 wm_0 rfl 1 (by decide) (hts (.fieldLink RX9 141 "GrazeBookModel" "day" "I") (List.mem_cons_of_mem _ mw_784)) (fun _ h9 => h9) rfl dX9_rest_19 ?_
    refine lv_icmp_ge (tgt := 32) hx hb dX9_rest_22 (by decide) (fun c_3 => ?_) (fun c_3 => ?_)
    · have hR := (if_pos c_3).symm.trans hR
      refine lv_iload_n hx hb dX9_rest_32 rfl (lv_at hl 2 rfl) ?_
      refine lv_sipush (v := (740 : Int32)) hx hb dX9_rest_33 (by decide) ?_
      refine lv_icmp_le (tgt := 46) hx hb dX9_rest_36 (by decide) (fun c_4 => ?_) (fun c_4 => ?_)
      · have hR := (if_pos c_4).symm.trans hR
        refine lv_aload_n hx hb dX9_rest_46 rfl (lv_at hl 0 rfl) ?_
        refine va_get (D := D) (ci := 9) (v := .ref (ad 16)) (C := RX9) (T := TX9) (N := 51) hx hb hts hu9 hown hK hP 0 wm_0 rfl 16 (by decide) (hts (.fieldLink RX9 22 "GrazeBookModel" "rest" "[I") (List.mem_cons_of_mem _ mw_799)) (fun _ h9 => h9) rfl dX9_rest_47 ?_
        refine lv_iload_n hx hb dX9_rest_50 rfl (lv_at hl 1 rfl) ?_
        refine va_iald_k (k := (a1.toNatClampNeg)) (v := (σ 16 (a1.toNatClampNeg))) hx hb hK hP 5 0 wm_a16 rfl rfl rfl (ix_isIn c_2 (ir_2 hI)) dX9_rest_51 ?_
        refine lv_istore_n (lv' := [(3, .int (σ 16 (a1.toNatClampNeg))), (0, .ref h), (1, .int a1), (2, .int a2)]) hx hb dX9_rest_52 rfl hl (by decide) rfl (fun ls hl => ?_)
        refine lv_aload_n hx hb dX9_rest_53 rfl (lv_at hl 1 rfl) ?_
        refine va_get (D := D) (ci := 9) (v := .ref (ad 16)) (C := RX9) (T := TX9) (N := 51) hx hb hts hu9 hown hK hP 0 wm_0 rfl 16 (by decide) (hts (.fieldLink RX9 22 "GrazeBookModel" "rest" "[I") (List.mem_cons_of_mem _ mw_799)) (fun _ h9 => h9) rfl dX9_rest_54 ?_
        refine lv_iload_n hx hb dX9_rest_57 rfl (lv_at hl 2 rfl) ?_
        refine lv_iload_n hx hb dX9_rest_58 rfl (lv_at hl 3 rfl) ?_
        refine va_iast_k (k := (a1.toNatClampNeg)) hx hb hK hP hD hS 5 0 wm_a16 rfl rfl (ix_isIn c_2 (ir_2 hI)) dX9_rest_59 (fun H locs hP hD hS => ?_)
        rw [wm_s16] at hP hD
        refine lv_iload_n hx hb dX9_rest_60 rfl (lv_at hl 0 rfl) ?_
        have hI9 : IR (put σ 16 (a1.toNatClampNeg) a2) := hI
        subst hR
        rw [hQ]
        exact W.iret (v := (σ 16 (a1.toNatClampNeg))) hx hb hr (fun t ht hW => ⟨⟨(σ 16 (a1.toNatClampNeg)), (), rfl, rfl, ⟨by rw [ht]; exact hP, va_K.moved hW.alike hK, by rw [← hAe]; exact hD⟩, hI9⟩, hS.F ht⟩) hS.2.2 dX9_rest_61
      · have hR := (if_neg c_4).symm.trans hR
        refine lv_aload_n hx hb dX9_rest_39 rfl (lv_at hl 0 rfl) ?_
        refine lv_bipush (v := (-6 : Int32)) hx hb dX9_rest_40 (by decide) ?_
        have hF := pw_free hD hS hA
        refine va_calli (va_runV (As := [.int (-6 : Int32)]) (rest := []) ⟨hx, hb, hml, hown, hts⟩ (k_X9_refuse l D ca h ad σ (-6 : Int32) H.size hI (by unfold vp_in; decide) _ rfl) (cwV 1 hts gX9_rest_X9_refuse rfl rfl rfl (by decide +kernel) ⟨Nat.le_of_ble_eq_true rfl, Nat.le_of_ble_eq_true rfl⟩) ⟨pw_blind, va_recv hK hP (ci := 9) (q0 := 0) rfl wm_0, pw_give hP hK hD⟩ rfl rfl hl.1 rfl (lv_room (Nat.le_of_ble_eq_true rfl)) dX9_rest_42 ⟨Nat.le_of_ble_eq_true rfl, Nat.le_of_ble_eq_true rfl⟩) hS (fun q _ h => hF q h) hF (fun r_5 u t H1 locs ht hvm hw hB hz1 hk1 hS => ?_)
        subst hw
        obtain ⟨hB, hI_6⟩ := hB
        obtain ⟨hP, hD⟩ := pw_back hF ht hB
        clear hB hk1 hz1 hF
        generalize H1 = H at hP hS ⊢
        have hI9 : IR ((s_X9_refuse σ (-6 : Int32)).2) := hI_6
        subst hR
        rw [hQ]
        exact W.iret (v := ((s_X9_refuse σ (-6 : Int32)).1)) hx hb hr (fun t ht hW => ⟨⟨((s_X9_refuse σ (-6 : Int32)).1), (), rfl, rfl, ⟨by rw [ht]; exact hP, va_K.moved hW.alike hK, by rw [← hAe]; exact hD⟩, hI9⟩, hS.F ht⟩) hS.2.2 dX9_rest_45
    · have hR := (if_neg c_3).symm.trans hR
      refine lv_aload_n hx hb dX9_rest_25 rfl (lv_at hl 0 rfl) ?_
      refine lv_bipush (v := (-4 : Int32)) hx hb dX9_rest_26 (by decide) ?_
      have hF := pw_free hD hS hA
      refine va_calli (va_runV (As := [.int (-4 : Int32)]) (rest := []) ⟨hx, hb, hml, hown, hts⟩ (k_X9_refuse l D ca h ad σ (-4 : Int32) H.size hI (by unfold vp_in; decide) _ rfl) (cwV 1 hts gX9_rest_X9_refuse rfl rfl rfl (by decide +kernel) ⟨Nat.le_of_ble_eq_true rfl, Nat.le_of_ble_eq_true rfl⟩) ⟨pw_blind, va_recv hK hP (ci := 9) (q0 := 0) rfl wm_0, pw_give hP hK hD⟩ rfl rfl hl.1 rfl (lv_room (Nat.le_of_ble_eq_true rfl)) dX9_rest_28 ⟨Nat.le_of_ble_eq_true rfl, Nat.le_of_ble_eq_true rfl⟩) hS (fun q _ h => hF q h) hF (fun r_7 u t H1 locs ht hvm hw hB hz1 hk1 hS => ?_)
      subst hw
      obtain ⟨hB, hI_8⟩ := hB
      obtain ⟨hP, hD⟩ := pw_back hF ht hB
      clear hB hk1 hz1 hF
      generalize H1 = H at hP hS ⊢
      have hI9 : IR ((s_X9_refuse σ (-4 : Int32)).2) := hI_8
      subst hR
      rw [hQ]
      exact W.iret (v := ((s_X9_refuse σ (-4 : Int32)).1)) hx hb hr (fun t ht hW => ⟨⟨((s_X9_refuse σ (-4 : Int32)).1), (), rfl, rfl, ⟨by rw [ht]; exact hP, va_K.moved hW.alike hK, by rw [← hAe]; exact hD⟩, hI9⟩, hS.F ht⟩) hS.2.2 dX9_rest_31
  · have hR := (if_pos c_2).symm.trans hR
    refine lv_aload_n hx hb dX9_rest_11 rfl (lv_at hl 0 rfl) ?_
    refine lv_iconst (v := (-1 : Int32)) hx hb dX9_rest_12 (by decide) ?_
    have hF := pw_free hD hS hA
    refine va_calli (va_runV (As := [.int (-1 : Int32)]) (rest := []) ⟨hx, hb, hml, hown, hts⟩ (k_X9_refuse l D ca h ad σ (-1 : Int32) H.size hI (by unfold vp_in; decide) _ rfl) (cwV 1 hts gX9_rest_X9_refuse rfl rfl rfl (by decide +kernel) ⟨Nat.le_of_ble_eq_true rfl, Nat.le_of_ble_eq_true rfl⟩) ⟨pw_blind, va_recv hK hP (ci := 9) (q0 := 0) rfl wm_0, pw_give hP hK hD⟩ rfl rfl hl.1 rfl (lv_room (Nat.le_of_ble_eq_true rfl)) dX9_rest_13 ⟨Nat.le_of_ble_eq_true rfl, Nat.le_of_ble_eq_true rfl⟩) hS (fun q _ h => hF q h) hF (fun r_9 u t H1 locs ht hvm hw hB hz1 hk1 hS => ?_)
    subst hw
    obtain ⟨hB, hI_10⟩ := hB
    obtain ⟨hP, hD⟩ := pw_back hF ht hB
    clear hB hk1 hz1 hF
    generalize H1 = H at hP hS ⊢
    have hI9 : IR ((s_X9_refuse σ (-1 : Int32)).2) := hI_10
    subst hR
    rw [hQ]
    exact W.iret (v := ((s_X9_refuse σ (-1 : Int32)).1)) hx hb hr (fun t ht hW => ⟨⟨((s_X9_refuse σ (-1 : Int32)).1), (), rfl, rfl, ⟨by rw [ht]; exact hP, va_K.moved hW.alike hK, by rw [← hAe]; exact hD⟩, hI9⟩, hS.F ht⟩) hS.2.2 dX9_rest_16

