def s_X8_graze_c119  : (Int32 × St) → Int32 × St := fun x9 => match x9 with
  | (v3_11, τ_11) => (v3_11, τ_11)
def s_X8_graze_l119 (a1 : Int32) (k_11 : Nat) : (Int32 × St) → (Int32 × St) := fun x9 => match x9 with
  | (v3_11, τ_11) => (if (τ_11 203 k_11) = a1 then ((v3_11 + (s_X3_hungerOf τ_11 (nI k_11))), (put τ_11 205 k_11 ((τ_11 205 k_11) + (s_X3_hungerOf τ_11 (nI k_11))))) else (v3_11, τ_11))
def s_X8_graze_c9 (a1 : Int32) : St → Int32 × St := fun x9 => match x9 with
  | τ_4 => (s_X8_graze_c119 (iter (s_X8_graze_l119 a1) ((((s_X3_passDay τ_4 (a1.toNatClampNeg) (τ_4 403 (a1.toNatClampNeg)) (s_X7_rainOn τ_4 (τ_4 816 0)) (s_X7_rateOn τ_4 (τ_4 816 0))).2) 815 0).toNatClampNeg - 0) 0 ((0 : Int32), (put (put ((s_X3_passDay τ_4 (a1.toNatClampNeg) (τ_4 403 (a1.toNatClampNeg)) (s_X7_rainOn τ_4 (τ_4 816 0)) (s_X7_rateOn τ_4 (τ_4 816 0))).2) 403 (a1.toNatClampNeg) ((s_X3_passDay τ_4 (a1.toNatClampNeg) (τ_4 403 (a1.toNatClampNeg)) (s_X7_rainOn τ_4 (τ_4 816 0)) (s_X7_rateOn τ_4 (τ_4 816 0))).1)) 405 (a1.toNatClampNeg) ((((s_X3_passDay τ_4 (a1.toNatClampNeg) (τ_4 403 (a1.toNatClampNeg)) (s_X7_rainOn τ_4 (τ_4 816 0)) (s_X7_rateOn τ_4 (τ_4 816 0))).2) 405 (a1.toNatClampNeg)) + (((s_X3_passDay τ_4 (a1.toNatClampNeg) (τ_4 403 (a1.toNatClampNeg)) (s_X7_rainOn τ_4 (τ_4 816 0)) (s_X7_rateOn τ_4 (τ_4 816 0))).2) 306 0))))))
def s_X8_graze_l9 (a1 : Int32) (k_4 : Nat) : St → St := fun x9 => match x9 with
  | τ_4 => (if (τ_4 203 k_4) = a1 then (s_X3_add τ_4 (nI k_4) (s_X2_parts τ_4 k_4)) else τ_4)
def s_X8_graze (σ : St) (a1 : Int32) : Int32 × St := (s_X8_graze_c9 a1 (iter (s_X8_graze_l9 a1) (((s_X3_clear σ) 815 0).toNatClampNeg - 0) 0 (s_X3_clear σ)))
theorem fr_s_X8_graze_c119  (s : (Int32 × St)) {f : Nat} (h205 : f ≠ 205) (h300 : f ≠ 300) (h301 : f ≠ 301) (h302 : f ≠ 302) (h303 : f ≠ 303) (h304 : f ≠ 304) (h305 : f ≠ 305) (h306 : f ≠ 306) (h403 : f ≠ 403) (h405 : f ≠ 405) : (s_X8_graze_c119 s).2 f = s.2 f := by
  obtain ⟨v3_11, τ_11⟩ := s
  unfold s_X8_graze_c119
  all_goals ((try dsimp only) <;> ((repeat' split) <;> (try simp only [put_fr, ne_eq, not_false_eq_true, h205, h300, h301, h302, h303, h304, h305, h306, h403, h405, fr_s_X3_clear, fr_s_X3_add, fr_s_X3_passDay])))
theorem fr_s_X8_graze_l119 (a1 : Int32) (k_11 : Nat) (s : (Int32 × St)) {f : Nat} (h205 : f ≠ 205) (h300 : f ≠ 300) (h301 : f ≠ 301) (h302 : f ≠ 302) (h303 : f ≠ 303) (h304 : f ≠ 304) (h305 : f ≠ 305) (h306 : f ≠ 306) (h403 : f ≠ 403) (h405 : f ≠ 405) : (s_X8_graze_l119 a1 k_11 s).2 f = s.2 f := by
  obtain ⟨v3_11, τ_11⟩ := s
  unfold s_X8_graze_l119
  all_goals ((try dsimp only) <;> ((repeat' split) <;> (try simp only [put_fr, ne_eq, not_false_eq_true, h205, h300, h301, h302, h303, h304, h305, h306, h403, h405, fr_s_X3_clear, fr_s_X3_add, fr_s_X3_passDay, fr_s_X8_graze_c119])))
theorem fri_s_X8_graze_l119 (a1 : Int32) (n k : Nat) (s : (Int32 × St)) {f : Nat} (h205 : f ≠ 205) (h300 : f ≠ 300) (h301 : f ≠ 301) (h302 : f ≠ 302) (h303 : f ≠ 303) (h304 : f ≠ 304) (h305 : f ≠ 305) (h306 : f ≠ 306) (h403 : f ≠ 403) (h405 : f ≠ 405) : (iter (s_X8_graze_l119 a1) n k s).2 f = s.2 f := iter_fr (P := (fun s => s.2 f)) (fun k s => fr_s_X8_graze_l119 a1 k s h205 h300 h301 h302 h303 h304 h305 h306 h403 h405) n k s
theorem fr_s_X8_graze_c9 (a1 : Int32) (s : St) {f : Nat} (h205 : f ≠ 205) (h300 : f ≠ 300) (h301 : f ≠ 301) (h302 : f ≠ 302) (h303 : f ≠ 303) (h304 : f ≠ 304) (h305 : f ≠ 305) (h306 : f ≠ 306) (h403 : f ≠ 403) (h405 : f ≠ 405) : (s_X8_graze_c9 a1 s).2 f = s f := by
  unfold s_X8_graze_c9
  all_goals ((try dsimp only) <;> ((repeat' split) <;> (try simp only [put_fr, ne_eq, not_false_eq_true, h205, h300, h301, h302, h303, h304, h305, h306, h403, h405, fr_s_X3_clear, fr_s_X3_add, fr_s_X3_passDay, fr_s_X8_graze_c119, fri_s_X8_graze_l119])))
theorem fr_s_X8_graze_l9 (a1 : Int32) (k_4 : Nat) (s : St) {f : Nat} (h205 : f ≠ 205) (h300 : f ≠ 300) (h301 : f ≠ 301) (h302 : f ≠ 302) (h303 : f ≠ 303) (h304 : f ≠ 304) (h305 : f ≠ 305) (h306 : f ≠ 306) (h403 : f ≠ 403) (h405 : f ≠ 405) : (s_X8_graze_l9 a1 k_4 s) f = s f := by
  unfold s_X8_graze_l9
  all_goals ((try dsimp only) <;> ((repeat' split) <;> (try simp only [put_fr, ne_eq, not_false_eq_true, h205, h300, h301, h302, h303, h304, h305, h306, h403, h405, fr_s_X3_clear, fr_s_X3_add, fr_s_X3_passDay, fr_s_X8_graze_c119, fri_s_X8_graze_l119, fr_s_X8_graze_c9])))
theorem fri_s_X8_graze_l9 (a1 : Int32) (n k : Nat) (s : St) {f : Nat} (h205 : f ≠ 205) (h300 : f ≠ 300) (h301 : f ≠ 301) (h302 : f ≠ 302) (h303 : f ≠ 303) (h304 : f ≠ 304) (h305 : f ≠ 305) (h306 : f ≠ 306) (h403 : f ≠ 403) (h405 : f ≠ 405) : (iter (s_X8_graze_l9 a1) n k s) f = s f := iter_fr (P := (fun s => s f)) (fun k s => fr_s_X8_graze_l9 a1 k s h205 h300 h301 h302 h303 h304 h305 h306 h403 h405) n k s
theorem fr_s_X8_graze (σ : St) (a1 : Int32) {f : Nat} (h205 : f ≠ 205) (h300 : f ≠ 300) (h301 : f ≠ 301) (h302 : f ≠ 302) (h303 : f ≠ 303) (h304 : f ≠ 304) (h305 : f ≠ 305) (h306 : f ≠ 306) (h403 : f ≠ 403) (h405 : f ≠ 405) : (s_X8_graze σ a1 ).2 f = σ f := by
  unfold s_X8_graze
  all_goals ((try dsimp only) <;> ((repeat' split) <;> (try simp only [put_fr, ne_eq, not_false_eq_true, h205, h300, h301, h302, h303, h304, h305, h306, h403, h405, fr_s_X3_clear, fr_s_X3_add, fr_s_X3_passDay, fr_s_X8_graze_c119, fri_s_X8_graze_l119, fr_s_X8_graze_c9, fri_s_X8_graze_l9])))
set_option maxHeartbeats 1000000 in
set_option maxRecDepth 100000 in
theorem k_X8_graze (l : Launch) (D : va_G) (ca : Nat → ClassId) (h : Nat) (ad : Nat → Nat) (pa : Nat → Nat → Nat) (tb : Nat) (σ : St) (a1 : Int32) (sz : Nat) (hI : IX σ) (ha1 : vp_in a1 6) (hb1 : a1.toNatClampNeg < (σ 811 0).toNatClampNeg) (R1 : Int32) (R2 : St) (hR : s_X8_graze σ a1 = (R1, R2)) : Met l yX8_graze wsX8_graze ({ frames := 3, cells := 0, slots := 0, locals := 72 }) (va_Pc [.ref h, .int a1] (cw_pre D ca (WC ca h ad pa σ) sz tb)) (va_Qi (fun (r : Int32) (_ : Unit) => r = R1) (fun (_ : Unit) (t : State) => pw_post D ca (WC ca h ad pa σ) sz (WC ca h ad pa R2) t ∧ IX R2) (va_A (WC ca h ad pa σ) sz)) 0 0 (va_A (WC ca h ad pa σ) sz) := by
  refine Met.ofW (cc := cX8_graze) (maxL := 6) (ret := (some .int)) (by decide) rfl ?_
  intro p e s m args below meth c s₁ B hml hv
  obtain ⟨rfl, ⟨hsz, hP, hK, hD0⟩, hZ⟩ := hv
  have hx := B.exec
  have hb := B.bytes
  have hr := B.returns
  have hts := atoms_spec (ws := wsX8_graze) B.pre
  have hown : s.vm.findClass RX8 = some m.cls := findClass_of_methodNamed B.named
  have hlocks := B.notSynchronized
  have hu2 : ∀ w ∈ u_ws RX2 TX2 8, w ∈ wsX8_graze := fun w h => List.mem_cons_of_mem _ (uw2 w h)
  have hu3 : ∀ w ∈ u_ws RX3 TX3 7, w ∈ wsX8_graze := fun w h => List.mem_cons_of_mem _ (uw3 w h)
  have hu4 : ∀ w ∈ u_ws RX4 TX4 6, w ∈ wsX8_graze := fun w h => List.mem_cons_of_mem _ (uw4 w h)
  have hu8 : ∀ w ∈ u_ws RX8 TX8 19, w ∈ wsX8_graze := fun w h => List.mem_cons_of_mem _ (uw8 w h)
  subst hsz
  have hD := hD0.self (sz := s.heap.size)
  obtain ⟨A, hAe⟩ : ∃ A, A = va_A (WC ca h ad pa σ) s.heap.size := ⟨_, rfl⟩
  rw [← hAe] at hD hZ ⊢
  have hA : ∀ q : Nat, s.heap.size ≤ q → A q := fun q h => by rw [hAe]; exact Or.inr h
  have hS : va_S A s.heap s.heap [] := va_S.rf
  have hl := lv_entry ([.ref h, .int a1]) (n := 6) (Nat.le_of_ble_eq_true rfl)
  rw [lg_entry_eq]
  generalize (lg_sl ([.ref h, .int a1]) ++ List.replicate (6 - (lg_sl ([.ref h, .int a1])).length) Slot.unset).toArray = ls at hl ⊢
  have hl : lv_has ls 6 [(0, .ref h), (1, .int a1)] := hl
  obtain ⟨H, hH⟩ : ∃ H, H = s.heap := ⟨_, rfl⟩
  have hP : va_P D vwCl (WC ca h ad pa σ) H := by rw [hH]; exact hP
  have hS : va_S A s.heap H [] := by rw [hH]; exact hS
  obtain ⟨QQ, hQ⟩ : ∃ Q9, Q9 = MQ below (va_Qi (fun (r : Int32) (_ : Unit) => r = R1) (fun (_ : Unit) (t : State) => pw_post D ca (WC ca h ad pa σ) s.heap.size (WC ca h ad pa R2) t ∧ IX R2) A) ([.ref h, .int a1] : List Value).toArray s 0 0 A := ⟨_, rfl⟩
  rw [← hQ]
  show W _ _ _ _ _ _ _ _ _ _ s.heap _ _ _ _ _
  rw [← hH]
  delta s_X8_graze at hR
  refine lv_aload_n hx hb dX8_graze_0 rfl (lv_at hl 0 rfl) ?_
  refine va_get (D := D) (ci := 8) (v := .ref (ad 808)) (C := RX8) (T := TX8) (N := 19) hx hb hts hu8 hown hK hP 0 wc_0 rfl 8 (by decide) (hts (.fieldLink RX8 61 "GrazeBook" "grazing" "LGrazeBook$Grazing;") (List.mem_cons_of_mem _ mw_218)) (fun _ h9 => h9) rfl dX8_graze_1 ?_
  have hF := pw_free hD hS hA
  refine va_callv (va_runV (As := []) (rest := []) ⟨hx, hb, hml, hown, hts⟩ (k_X3_clear l D ca h ad pa tb σ H.size hI _ rfl) (cwV 0 hts gX8_graze_X3_clear rfl rfl rfl (by decide +kernel) ⟨Nat.le_of_ble_eq_true rfl, Nat.le_of_ble_eq_true rfl⟩) ⟨cw_blind, va_recv hK hP (ci := 3) (q0 := 4) rfl wc_4, cw_give hP hK hD hZ hS hF⟩ rfl rfl hl.1 rfl (lv_room (Nat.le_of_ble_eq_true rfl)) dX8_graze_4 ⟨Nat.le_of_ble_eq_true rfl, Nat.le_of_ble_eq_true rfl⟩) hS (fun q _ h => hF q h) hF (fun u t H1 locs ht hvm hw hB hz1 hk1 hS => ?_)
  obtain ⟨hB, hI_2⟩ := hB
  obtain ⟨hP, hD⟩ := pw_back hF ht hB
  clear hB hk1 hz1 hF
  generalize H1 = H at hP hS ⊢
  obtain ⟨τc_3, hτc_3⟩ : ∃ t9, (s_X3_clear σ) = t9 := ⟨_, rfl⟩
  rw [hτc_3] at hP hD hI_2
  (try rw [hτc_3] at hR)
  refine lv_iconst (v := (0 : Int32)) hx hb dX8_graze_7 (by decide) ?_
  refine lv_istore_n (lv' := [(2, .int (0 : Int32)), (0, .ref h), (1, .int a1)]) hx hb dX8_graze_8 rfl hl (by decide) rfl (fun ls hl => ?_)
  have hE_4 : ∀ (τ_4 : St) (hI_4 : IX τ_4) (hf_4 : τ_4 811 = σ 811 ∧ τ_4 812 = σ 812 ∧ τ_4 814 = σ 814 ∧ τ_4 815 = σ 815) (H : Heap) (locs : List Loc) (ls : Array Slot), s_X8_graze_c9 a1 τ_4 = (R1, R2) → va_P D vwCl (WC ca h ad pa τ_4) H → va_D A (WC ca h ad pa τ_4) → va_S A s.heap H locs → lv_has ls 6 [(0, .ref h), (1, .int a1)] → W p l e ((headSpec wsX8_graze ({ frames := 3, cells := 0, slots := 0, locals := 72 })).room) s m ([.ref h, .int a1] : List Value).toArray below meth c H locs 0 0 QQ (F0 m 53 ls []) := by
    intro τ_4 hI_4 hf_4 H locs ls hR hP hD hS hl
    have hR : (s_X8_graze_c119 (iter (s_X8_graze_l119 a1) ((((s_X3_passDay τ_4 (a1.toNatClampNeg) (τ_4 403 (a1.toNatClampNeg)) (s_X7_rainOn τ_4 (τ_4 816 0)) (s_X7_rateOn τ_4 (τ_4 816 0))).2) 815 0).toNatClampNeg - 0) 0 ((0 : Int32), (put (put ((s_X3_passDay τ_4 (a1.toNatClampNeg) (τ_4 403 (a1.toNatClampNeg)) (s_X7_rainOn τ_4 (τ_4 816 0)) (s_X7_rateOn τ_4 (τ_4 816 0))).2) 403 (a1.toNatClampNeg) ((s_X3_passDay τ_4 (a1.toNatClampNeg) (τ_4 403 (a1.toNatClampNeg)) (s_X7_rainOn τ_4 (τ_4 816 0)) (s_X7_rateOn τ_4 (τ_4 816 0))).1)) 405 (a1.toNatClampNeg) ((((s_X3_passDay τ_4 (a1.toNatClampNeg) (τ_4 403 (a1.toNatClampNeg)) (s_X7_rainOn τ_4 (τ_4 816 0)) (s_X7_rateOn τ_4 (τ_4 816 0))).2) 405 (a1.toNatClampNeg)) + (((s_X3_passDay τ_4 (a1.toNatClampNeg) (τ_4 403 (a1.toNatClampNeg)) (s_X7_rainOn τ_4 (τ_4 816 0)) (s_X7_rateOn τ_4 (τ_4 816 0))).2) 306 0)))))) = (R1, R2) := hR
    refine lv_aload_n hx hb dX8_graze_53 rfl (lv_at hl 0 rfl) ?_
    refine va_get (D := D) (ci := 8) (v := .ref (ad 800)) (C := RX8) (T := TX8) (N := 19) hx hb hts hu8 hown hK hP 0 wc_0 rfl 0 (by decide) (hts (.fieldLink RX8 11 "GrazeBook" "pieces" "[LGrazeBook$Ground;") (List.mem_cons_of_mem _ mw_210)) (fun _ h9 => h9) rfl dX8_graze_54 ?_
    refine lv_iload_n hx hb dX8_graze_57 rfl (lv_at hl 1 rfl) ?_
    refine va_aldq_k (k := (a1.toNatClampNeg)) (b := pa 0 (a1.toNatClampNeg)) hx hb hK hP 6 2 wc_6 rfl rfl (rf_at (cnt_cast (congrFun hf_4.1 0) hb1)) ha1 dX8_graze_58 ?_
    refine lv_astore_n (lv' := [(2, .ref (pa 0 (a1.toNatClampNeg))), (0, .ref h), (1, .int a1)]) hx hb dX8_graze_59 rfl hl (by decide) rfl (fun ls hl => ?_)
    refine lv_aload_n hx hb dX8_graze_60 rfl (lv_at hl 0 rfl) ?_
    refine lv_aload_n hx hb dX8_graze_61 rfl (lv_at hl 1 rfl) ?_
    refine va_get (D := D) (ci := 8) (v := .ref (ad 808)) (C := RX8) (T := TX8) (N := 19) hx hb hts hu8 hown hK hP 0 wc_0 rfl 8 (by decide) (hts (.fieldLink RX8 61 "GrazeBook" "grazing" "LGrazeBook$Grazing;") (List.mem_cons_of_mem _ mw_218)) (fun _ h9 => h9) rfl dX8_graze_62 ?_
    refine lv_aload_n hx hb dX8_graze_65 rfl (lv_at hl 0 rfl) ?_
    refine lv_aload_n hx hb dX8_graze_66 rfl (lv_at hl 0 rfl) ?_
    refine va_get (D := D) (ci := 4) (v := .int (τ_4 403 (a1.toNatClampNeg))) (C := RX4) (T := TX4) (N := 6) hx hb hts hu4 hown hK hP (pcG ca h ad pa τ_4 (a1.toNatClampNeg)) (wc_aG (cnt_cast (congrFun hf_4.1 0) hb1)) rfl 3 (by decide) (hts (.fieldLink RX8 210 "GrazeBook$Ground" "grass" "I") (List.mem_cons_of_mem _ mw_290)) (fun _ h9 => h9) rfl dX8_graze_67 ?_
    refine lv_aload_n hx hb dX8_graze_70 rfl (lv_at hl 1 rfl) ?_
    refine va_get (D := D) (ci := 8) (v := .ref (ad 806)) (C := RX8) (T := TX8) (N := 19) hx hb hts hu8 hown hK hP 0 wc_0 rfl 6 (by decide) (hts (.fieldLink RX8 47 "GrazeBook" "year" "LGrazeBook$Year;") (List.mem_cons_of_mem _ mw_216)) (fun _ h9 => h9) rfl dX8_graze_71 ?_
    refine lv_aload_n hx hb dX8_graze_74 rfl (lv_at hl 1 rfl) ?_
    refine va_get (D := D) (ci := 8) (v := .int (τ_4 816 0)) (C := RX8) (T := TX8) (N := 19) hx hb hts hu8 hown hK hP 0 wc_0 rfl 16 (by decide) (hts (.fieldLink RX8 91 "GrazeBook" "day" "I") (List.mem_cons_of_mem _ mw_226)) (fun _ h9 => h9) rfl dX8_graze_75 ?_
    have hF := pw_free hD hS hA
    refine va_calli (va_runV (As := [.int (τ_4 816 0)]) (rest := [.int (τ_4 403 (a1.toNatClampNeg)), .ref (pa 0 (a1.toNatClampNeg)), .ref (ad 808), .ref (pa 0 (a1.toNatClampNeg))]) ⟨hx, hb, hml, hown, hts⟩ (k_X7_rainOn l D ca h ad pa tb τ_4 (τ_4 816 0) H.size hI_4 _ rfl) (cwV 1 hts gX8_graze_X7_rainOn rfl rfl rfl (by decide +kernel) ⟨Nat.le_of_ble_eq_true rfl, Nat.le_of_ble_eq_true rfl⟩) ⟨cw_blind, va_recv hK hP (ci := 7) (q0 := 2) rfl wc_2, cw_give hP hK hD hZ hS hF⟩ rfl rfl hl.1 rfl (lv_room (Nat.le_of_ble_eq_true rfl)) dX8_graze_78 ⟨Nat.le_of_ble_eq_true rfl, Nat.le_of_ble_eq_true rfl⟩) hS (fun q _ h => hF q h) hF (fun r_5 u t H1 locs ht hvm hw hB hz1 hk1 hS => ?_)
    rw [hw]
    obtain ⟨hP, hD⟩ := pw_back hF ht hB
    clear hB hk1 hz1 hF
    generalize H1 = H at hP hS ⊢
    refine lv_aload_n hx hb dX8_graze_81 rfl (lv_at hl 1 rfl) ?_
    refine va_get (D := D) (ci := 8) (v := .ref (ad 806)) (C := RX8) (T := TX8) (N := 19) hx hb hts hu8 hown hK hP 0 wc_0 rfl 6 (by decide) (hts (.fieldLink RX8 47 "GrazeBook" "year" "LGrazeBook$Year;") (List.mem_cons_of_mem _ mw_216)) (fun _ h9 => h9) rfl dX8_graze_82 ?_
    refine lv_aload_n hx hb dX8_graze_85 rfl (lv_at hl 1 rfl) ?_
    refine va_get (D := D) (ci := 8) (v := .int (τ_4 816 0)) (C := RX8) (T := TX8) (N := 19) hx hb hts hu8 hown hK hP 0 wc_0 rfl 16 (by decide) (hts (.fieldLink RX8 91 "GrazeBook" "day" "I") (List.mem_cons_of_mem _ mw_226)) (fun _ h9 => h9) rfl dX8_graze_86 ?_
    have hF := pw_free hD hS hA
    refine va_calli (va_runV (As := [.int (τ_4 816 0)]) (rest := [.int (s_X7_rainOn τ_4 (τ_4 816 0)), .int (τ_4 403 (a1.toNatClampNeg)), .ref (pa 0 (a1.toNatClampNeg)), .ref (ad 808), .ref (pa 0 (a1.toNatClampNeg))]) ⟨hx, hb, hml, hown, hts⟩ (k_X7_rateOn l D ca h ad pa tb τ_4 (τ_4 816 0) H.size hI_4 _ rfl) (cwV 1 hts gX8_graze_X7_rateOn rfl rfl rfl (by decide +kernel) ⟨Nat.le_of_ble_eq_true rfl, Nat.le_of_ble_eq_true rfl⟩) ⟨cw_blind, va_recv hK hP (ci := 7) (q0 := 2) rfl wc_2, cw_give hP hK hD hZ hS hF⟩ rfl rfl hl.1 rfl (lv_room (Nat.le_of_ble_eq_true rfl)) dX8_graze_89 ⟨Nat.le_of_ble_eq_true rfl, Nat.le_of_ble_eq_true rfl⟩) hS (fun q _ h => hF q h) hF (fun r_6 u t H1 locs ht hvm hw hB hz1 hk1 hS => ?_)
    rw [hw]
    obtain ⟨hP, hD⟩ := pw_back hF ht hB
    clear hB hk1 hz1 hF
    generalize H1 = H at hP hS ⊢
    have hF := pw_free hD hS hA
    refine va_calli (va_runV (As := [.ref (pa 0 (a1.toNatClampNeg)), .int (τ_4 403 (a1.toNatClampNeg)), .int (s_X7_rainOn τ_4 (τ_4 816 0)), .int (s_X7_rateOn τ_4 (τ_4 816 0))]) (rest := [.ref (pa 0 (a1.toNatClampNeg))]) ⟨hx, hb, hml, hown, hts⟩ (k_X3_passDay l D ca h ad pa tb τ_4 (a1.toNatClampNeg) (τ_4 403 (a1.toNatClampNeg)) (s_X7_rainOn τ_4 (τ_4 816 0)) (s_X7_rateOn τ_4 (τ_4 816 0)) H.size hI_4 (cnt_cast (congrFun hf_4.1 0) hb1) _ _ (Prod.eta _).symm) (cwV 4 hts gX8_graze_X3_passDay rfl rfl rfl (by decide +kernel) ⟨Nat.le_of_ble_eq_true rfl, Nat.le_of_ble_eq_true rfl⟩) ⟨cw_blind, va_recv hK hP (ci := 3) (q0 := 4) rfl wc_4, cw_give hP hK hD hZ hS hF⟩ rfl rfl hl.1 rfl (lv_room (Nat.le_of_ble_eq_true rfl)) dX8_graze_92 ⟨Nat.le_of_ble_eq_true rfl, Nat.le_of_ble_eq_true rfl⟩) hS (fun q _ h => hF q h) hF (fun r_7 u t H1 locs ht hvm hw hB hz1 hk1 hS => ?_)
    rw [hw]
    obtain ⟨hB, hI_8⟩ := hB
    obtain ⟨hP, hD⟩ := pw_back hF ht hB
    clear hB hk1 hz1 hF
    generalize H1 = H at hP hS ⊢
    obtain ⟨τc_9, hτc_9⟩ : ∃ t9, (s_X3_passDay τ_4 (a1.toNatClampNeg) (τ_4 403 (a1.toNatClampNeg)) (s_X7_rainOn τ_4 (τ_4 816 0)) (s_X7_rateOn τ_4 (τ_4 816 0))).2 = t9 := ⟨_, rfl⟩
    rw [hτc_9] at hP hD hI_8
    (try rw [hτc_9] at hR)
    obtain ⟨vc_10, hvc_10⟩ : ∃ t9, (s_X3_passDay τ_4 (a1.toNatClampNeg) (τ_4 403 (a1.toNatClampNeg)) (s_X7_rainOn τ_4 (τ_4 816 0)) (s_X7_rateOn τ_4 (τ_4 816 0))).1 = t9 := ⟨_, rfl⟩
    rw [hvc_10]
    (try rw [hvc_10] at hR)
    refine va_put (D := D) (ci := 4) (v := .int vc_10) (ty := .int) (C := RX4) (T := TX4) (N := 6) hx hb hts hu4 tyX4 tyX4_ok nmX4 hown hK hP hD hS (pcG ca h ad pa τc_9 (a1.toNatClampNeg)) (wc_aG (cnt_cast (congrFun ((show τc_9 811 = τ_4 811 by rw [← hτc_9]; exact fr_s_X3_passDay τ_4 (a1.toNatClampNeg) (τ_4 403 (a1.toNatClampNeg)) (s_X7_rainOn τ_4 (τ_4 816 0)) (s_X7_rateOn τ_4 (τ_4 816 0)) (f := 811) (by decide) (by decide) (by decide)).trans (hf_4.1)) 0) hb1)) rfl 3 (by decide) (hts (.fieldLink RX8 210 "GrazeBook$Ground" "grass" "I") (List.mem_cons_of_mem _ mw_290)) (fun _ h9 => h9) rfl (by decide +kernel) rfl rfl (Nat.le_of_ble_eq_true rfl) dX8_graze_95 (fun H locs hP hD hS => ?_)
    rw [wc_sG3 (σ := τc_9) (cnt_cast (congrFun ((show τc_9 811 = τ_4 811 by rw [← hτc_9]; exact fr_s_X3_passDay τ_4 (a1.toNatClampNeg) (τ_4 403 (a1.toNatClampNeg)) (s_X7_rainOn τ_4 (τ_4 816 0)) (s_X7_rateOn τ_4 (τ_4 816 0)) (f := 811) (by decide) (by decide) (by decide)).trans (hf_4.1)) 0) hb1)] at hP hD
    refine lv_aload_n hx hb dX8_graze_98 rfl (lv_at hl 0 rfl) ?_
    refine lv_dup hx hb dX8_graze_99 rfl ?_
    refine va_get (D := D) (ci := 4) (v := .int (τc_9 405 (a1.toNatClampNeg))) (C := RX4) (T := TX4) (N := 6) hx hb hts hu4 hown hK hP (pcG ca h ad pa (put τc_9 403 (a1.toNatClampNeg) vc_10) (a1.toNatClampNeg)) (wc_aG (cnt_cast (congrFun ((show τc_9 811 = τ_4 811 by rw [← hτc_9]; exact fr_s_X3_passDay τ_4 (a1.toNatClampNeg) (τ_4 403 (a1.toNatClampNeg)) (s_X7_rainOn τ_4 (τ_4 816 0)) (s_X7_rateOn τ_4 (τ_4 816 0)) (f := 811) (by decide) (by decide) (by decide)).trans (hf_4.1)) 0) hb1)) rfl 5 (by decide) (hts (.fieldLink RX8 250 "GrazeBook$Ground" "eaten" "I") (List.mem_cons_of_mem _ mw_294)) (fun _ h9 => h9) rfl dX8_graze_100 ?_
    refine lv_aload_n hx hb dX8_graze_103 rfl (lv_at hl 1 rfl) ?_
    refine va_get (D := D) (ci := 8) (v := .ref (ad 808)) (C := RX8) (T := TX8) (N := 19) hx hb hts hu8 hown hK hP 0 wc_0 rfl 8 (by decide) (hts (.fieldLink RX8 61 "GrazeBook" "grazing" "LGrazeBook$Grazing;") (List.mem_cons_of_mem _ mw_218)) (fun _ h9 => h9) rfl dX8_graze_104 ?_
    refine va_get (D := D) (ci := 3) (v := .int (τc_9 306 0)) (C := RX3) (T := TX3) (N := 7) hx hb hts hu3 hown hK hP 4 wc_4 rfl 6 (by decide) (hts (.fieldLink RX8 341 "GrazeBook$Grazing" "eaten" "I") (List.mem_cons_of_mem _ mw_149)) (fun _ h9 => h9) rfl dX8_graze_107 ?_
    refine lv_iadd hx hb dX8_graze_110 ?_
    refine va_put (D := D) (ci := 4) (v := .int ((τc_9 405 (a1.toNatClampNeg)) + (τc_9 306 0))) (ty := .int) (C := RX4) (T := TX4) (N := 6) hx hb hts hu4 tyX4 tyX4_ok nmX4 hown hK hP hD hS (pcG ca h ad pa (put τc_9 403 (a1.toNatClampNeg) vc_10) (a1.toNatClampNeg)) (wc_aG (cnt_cast (congrFun ((show τc_9 811 = τ_4 811 by rw [← hτc_9]; exact fr_s_X3_passDay τ_4 (a1.toNatClampNeg) (τ_4 403 (a1.toNatClampNeg)) (s_X7_rainOn τ_4 (τ_4 816 0)) (s_X7_rateOn τ_4 (τ_4 816 0)) (f := 811) (by decide) (by decide) (by decide)).trans (hf_4.1)) 0) hb1)) rfl 5 (by decide) (hts (.fieldLink RX8 250 "GrazeBook$Ground" "eaten" "I") (List.mem_cons_of_mem _ mw_294)) (fun _ h9 => h9) rfl (by decide +kernel) rfl rfl (Nat.le_of_ble_eq_true rfl) dX8_graze_111 (fun H locs hP hD hS => ?_)
    rw [wc_sG5 (σ := (put τc_9 403 (a1.toNatClampNeg) vc_10)) (cnt_cast (congrFun ((show τc_9 811 = τ_4 811 by rw [← hτc_9]; exact fr_s_X3_passDay τ_4 (a1.toNatClampNeg) (τ_4 403 (a1.toNatClampNeg)) (s_X7_rainOn τ_4 (τ_4 816 0)) (s_X7_rateOn τ_4 (τ_4 816 0)) (f := 811) (by decide) (by decide) (by decide)).trans (hf_4.1)) 0) hb1)] at hP hD
    refine lv_iconst (v := (0 : Int32)) hx hb dX8_graze_114 (by decide) ?_
    refine lv_istore_n (lv' := [(3, .int (0 : Int32)), (2, .ref (pa 0 (a1.toNatClampNeg))), (0, .ref h), (1, .int a1)]) hx hb dX8_graze_115 rfl hl (by decide) rfl (fun ls hl => ?_)
    refine lv_iconst (v := (0 : Int32)) hx hb dX8_graze_116 (by decide) ?_
    refine lv_istore (lv' := [(4, .int (0 : Int32)), (3, .int (0 : Int32)), (2, .ref (pa 0 (a1.toNatClampNeg))), (0, .ref h), (1, .int a1)]) hx hb dX8_graze_117 hl (by decide) rfl (fun ls hl => ?_)
    have hE_11 : ∀ (v3_11 : Int32) (τ_11 : St) (hI_11 : IX τ_11) (hf_11 : τ_11 811 = σ 811 ∧ τ_11 812 = σ 812 ∧ τ_11 814 = σ 814 ∧ τ_11 815 = σ 815) (H : Heap) (locs : List Loc) (ls : Array Slot), s_X8_graze_c119 (v3_11, τ_11) = (R1, R2) → va_P D vwCl (WC ca h ad pa τ_11) H → va_D A (WC ca h ad pa τ_11) → va_S A s.heap H locs → lv_has ls 6 [(3, .int v3_11)] → W p l e ((headSpec wsX8_graze ({ frames := 3, cells := 0, slots := 0, locals := 72 })).room) s m ([.ref h, .int a1] : List Value).toArray below meth c H locs 0 0 QQ (F0 m 181 ls []) := by
      intro v3_11 τ_11 hI_11 hf_11 H locs ls hR hP hD hS hl
      have hR : (v3_11, τ_11) = (R1, R2) := hR
      refine lv_iload_n hx hb dX8_graze_181 rfl (lv_at hl 0 rfl) ?_
      have hI9 : IX τ_11 := hI_11
      obtain ⟨rfl, rfl⟩ := Prod.mk.inj (show (v3_11, τ_11) = (R1, R2) from hR)
      rw [hQ]
      exact W.iret (v := v3_11) hx hb hr (fun t ht hW => ⟨⟨v3_11, (), rfl, rfl, ⟨by rw [ht]; exact hP, va_K.moved hW.alike hK, by rw [← hAe]; exact hD⟩, hI9⟩, hS.F ht⟩) hS.2.2 dX8_graze_182
    have hL_11 : ∀ (n k_11 : Nat) (v3_11 : Int32) (τ_11 : St) (hk_11 : lpk (τ_11 815 0) k_11 n) (hI_11 : IX τ_11) (hf_11 : τ_11 811 = σ 811 ∧ τ_11 812 = σ 812 ∧ τ_11 814 = σ 814 ∧ τ_11 815 = σ 815) (H : Heap) (locs : List Loc) (ls : Array Slot), s_X8_graze_c119 (iter (s_X8_graze_l119 a1) n k_11 (v3_11, τ_11)) = (R1, R2) → va_P D vwCl (WC ca h ad pa τ_11) H → va_D A (WC ca h ad pa τ_11) → va_S A s.heap H locs → lv_has ls 6 [(4, .int (nI k_11)), (3, .int v3_11), (0, .ref h), (1, .int a1)] → W p l e ((headSpec wsX8_graze ({ frames := 3, cells := 0, slots := 0, locals := 72 })).room) s m ([.ref h, .int a1] : List Value).toArray below meth c H locs 0 0 QQ (F0 m 119 ls []) := by
      intro n
      induction n with
      | zero =>
        intro k_11 v3_11 τ_11 hk_11 hI_11 hf_11 H locs ls hR hP hD hS hl
        refine lv_iload hx hb dX8_graze_119 (lv_at hl 0 rfl) ?_
        refine lv_aload_n hx hb dX8_graze_121 rfl (lv_at hl 2 rfl) ?_
        refine va_get (D := D) (ci := 8) (v := .int (τ_11 815 0)) (C := RX8) (T := TX8) (N := 19) hx hb hts hu8 hown hK hP 0 wc_0 rfl 15 (by decide) (hts (.fieldLink RX8 88 "GrazeBook" "herdCount" "I") (List.mem_cons_of_mem _ mw_225)) (fun _ h9 => h9) rfl dX8_graze_122 ?_
        refine lv_icmp_ge (tgt := 181) hx hb dX8_graze_125 (by decide) (fun _ => ?_) (fun c_12 => absurd (ge_end hk_11) c_12)
        exact hE_11 v3_11 τ_11 hI_11 hf_11 _ _ _ hR hP hD hS (lv_sub hl [1] rfl)
      | succ n ih =>
        intro k_11 v3_11 τ_11 hk_11 hI_11 hf_11 H locs ls hR hP hD hS hl
        obtain ⟨S_11, hB_11⟩ : ∃ s9, s_X8_graze_l119 a1 k_11 (v3_11, τ_11) = s9 := ⟨_, rfl⟩
        have hR : s_X8_graze_c119 (iter (s_X8_graze_l119 a1) n (k_11 + 1) S_11) = (R1, R2) := by rw [← hB_11]; exact hR
        have hB_11 : (if (τ_11 203 k_11) = a1 then ((v3_11 + (s_X3_hungerOf τ_11 (nI k_11))), (put τ_11 205 k_11 ((τ_11 205 k_11) + (s_X3_hungerOf τ_11 (nI k_11))))) else (v3_11, τ_11)) = S_11 := hB_11
        refine lv_iload hx hb dX8_graze_119 (lv_at hl 0 rfl) ?_
        refine lv_aload_n hx hb dX8_graze_121 rfl (lv_at hl 2 rfl) ?_
        refine va_get (D := D) (ci := 8) (v := .int (τ_11 815 0)) (C := RX8) (T := TX8) (N := 19) hx hb hts hu8 hown hK hP 0 wc_0 rfl 15 (by decide) (hts (.fieldLink RX8 88 "GrazeBook" "herdCount" "I") (List.mem_cons_of_mem _ mw_225)) (fun _ h9 => h9) rfl dX8_graze_122 ?_
        refine lv_icmp_ge (tgt := 181) hx hb dX8_graze_125 (by decide) (fun c_13 => absurd c_13 (ge_go hk_11)) (fun _ => ?_)
        refine lv_aload_n hx hb dX8_graze_128 rfl (lv_at hl 2 rfl) ?_
        refine va_get (D := D) (ci := 8) (v := .ref (ad 805)) (C := RX8) (T := TX8) (N := 19) hx hb hts hu8 hown hK hP 0 wc_0 rfl 5 (by decide) (hts (.fieldLink RX8 40 "GrazeBook" "herds" "[LGrazeBook$Drove;") (List.mem_cons_of_mem _ mw_215)) (fun _ h9 => h9) rfl dX8_graze_129 ?_
        refine lv_iload hx hb dX8_graze_132 (lv_at hl 0 rfl) ?_
        refine va_aldq_k (k := k_11) (b := pa 3 k_11) hx hb hK hP 9 5 wc_9 rfl (ix_cl hk_11) (rf_at (k_ltb hk_11)) (ix_loop (N := 20) hk_11 (ix_815 hI_11) (by decide) (by decide)) dX8_graze_134 ?_
        refine va_get (D := D) (ci := 2) (v := .int (τ_11 203 k_11)) (C := RX2) (T := TX2) (N := 8) hx hb hts hu2 hown hK hP (pcD ca h ad pa τ_11 k_11) (wc_aD (k_ltb hk_11)) rfl 3 (by decide) (hts (.fieldLink RX8 163 "GrazeBook$Drove" "piece" "I") (List.mem_cons_of_mem _ mw_451)) (fun _ h9 => h9) rfl dX8_graze_135 ?_
        refine lv_iload_n hx hb dX8_graze_138 rfl (lv_at hl 3 rfl) ?_
        refine lv_icmp_ne (tgt := 175) hx hb dX8_graze_139 (by decide) (fun c_14 => ?_) (fun c_14 => ?_)
        · have hB_11 := (if_neg c_14).symm.trans hB_11
          refine lv_iinc (v := (nI (k_11 + 1))) (lv' := [(4, .int (nI (k_11 + 1))), (3, .int v3_11), (0, .ref h), (1, .int a1)]) hx hb dX8_graze_175 hl (k := 0) rfl (by rw [show Int32.ofInt 1 = 1 from by decide]; exact nI_1 _) (by decide) rfl (fun ls hl => ?_)
          refine lv_goto (tgt := 119) hx hb dX8_graze_178 (by decide) ?_
          subst hB_11
          exact ih (k_11 + 1) v3_11 τ_11 (ge_next hk_11) hI_11 (⟨hf_11.1, hf_11.2.1, hf_11.2.2.1, hf_11.2.2.2⟩) _ _ _ hR hP hD hS (lv_sub hl [0, 1, 2, 3] rfl)
        · have hB_11 := (if_pos c_14).symm.trans hB_11
          refine lv_aload_n hx hb dX8_graze_142 rfl (lv_at hl 2 rfl) ?_
          refine va_get (D := D) (ci := 8) (v := .ref (ad 808)) (C := RX8) (T := TX8) (N := 19) hx hb hts hu8 hown hK hP 0 wc_0 rfl 8 (by decide) (hts (.fieldLink RX8 61 "GrazeBook" "grazing" "LGrazeBook$Grazing;") (List.mem_cons_of_mem _ mw_218)) (fun _ h9 => h9) rfl dX8_graze_143 ?_
          refine lv_iload hx hb dX8_graze_146 (lv_at hl 0 rfl) ?_
          have hF := pw_free hD hS hA
          refine va_calli (va_runV (As := [.int (nI k_11)]) (rest := []) ⟨hx, hb, hml, hown, hts⟩ (k_X3_hungerOf l D ca h ad pa tb τ_11 (nI k_11) H.size hI_11 _ rfl) (cwV 1 hts gX8_graze_X3_hungerOf rfl rfl rfl (by decide +kernel) ⟨Nat.le_of_ble_eq_true rfl, Nat.le_of_ble_eq_true rfl⟩) ⟨cw_blind, va_recv hK hP (ci := 3) (q0 := 4) rfl wc_4, cw_give hP hK hD hZ hS hF⟩ rfl rfl hl.1 rfl (lv_room (Nat.le_of_ble_eq_true rfl)) dX8_graze_148 ⟨Nat.le_of_ble_eq_true rfl, Nat.le_of_ble_eq_true rfl⟩) hS (fun q _ h => hF q h) hF (fun r_15 u t H1 locs ht hvm hw hB hz1 hk1 hS => ?_)
          rw [hw]
          obtain ⟨hP, hD⟩ := pw_back hF ht hB
          clear hB hk1 hz1 hF
          generalize H1 = H at hP hS ⊢
          refine lv_istore (lv' := [(5, .int (s_X3_hungerOf τ_11 (nI k_11))), (4, .int (nI k_11)), (3, .int v3_11), (0, .ref h), (1, .int a1)]) hx hb dX8_graze_151 hl (by decide) rfl (fun ls hl => ?_)
          refine lv_aload_n hx hb dX8_graze_153 rfl (lv_at hl 3 rfl) ?_
          refine va_get (D := D) (ci := 8) (v := .ref (ad 805)) (C := RX8) (T := TX8) (N := 19) hx hb hts hu8 hown hK hP 0 wc_0 rfl 5 (by decide) (hts (.fieldLink RX8 40 "GrazeBook" "herds" "[LGrazeBook$Drove;") (List.mem_cons_of_mem _ mw_215)) (fun _ h9 => h9) rfl dX8_graze_154 ?_
          refine lv_iload hx hb dX8_graze_157 (lv_at hl 1 rfl) ?_
          refine va_aldq_k (k := k_11) (b := pa 3 k_11) hx hb hK hP 9 5 wc_9 rfl (ix_cl hk_11) (rf_at (k_ltb hk_11)) (ix_loop (N := 20) hk_11 (ix_815 hI_11) (by decide) (by decide)) dX8_graze_159 ?_
          refine lv_dup hx hb dX8_graze_160 rfl ?_
          refine va_get (D := D) (ci := 2) (v := .int (τ_11 205 k_11)) (C := RX2) (T := TX2) (N := 8) hx hb hts hu2 hown hK hP (pcD ca h ad pa τ_11 k_11) (wc_aD (k_ltb hk_11)) rfl 5 (by decide) (hts (.fieldLink RX8 278 "GrazeBook$Drove" "hunger" "I") (List.mem_cons_of_mem _ mw_455)) (fun _ h9 => h9) rfl dX8_graze_161 ?_
          refine lv_iload hx hb dX8_graze_164 (lv_at hl 0 rfl) ?_
          refine lv_iadd hx hb dX8_graze_166 ?_
          refine va_put (D := D) (ci := 2) (v := .int ((τ_11 205 k_11) + (s_X3_hungerOf τ_11 (nI k_11)))) (ty := .int) (C := RX2) (T := TX2) (N := 8) hx hb hts hu2 tyX2 tyX2_ok nmX2 hown hK hP hD hS (pcD ca h ad pa τ_11 k_11) (wc_aD (k_ltb hk_11)) rfl 5 (by decide) (hts (.fieldLink RX8 278 "GrazeBook$Drove" "hunger" "I") (List.mem_cons_of_mem _ mw_455)) (fun _ h9 => h9) rfl (by decide +kernel) rfl rfl (Nat.le_of_ble_eq_true rfl) dX8_graze_167 (fun H locs hP hD hS => ?_)
          rw [wc_sD5 (σ := τ_11) (k_ltb hk_11)] at hP hD
          refine lv_iload_n hx hb dX8_graze_170 rfl (lv_at hl 2 rfl) ?_
          refine lv_iload hx hb dX8_graze_171 (lv_at hl 0 rfl) ?_
          refine lv_iadd hx hb dX8_graze_173 ?_
          refine lv_istore_n (lv' := [(3, .int (v3_11 + (s_X3_hungerOf τ_11 (nI k_11)))), (5, .int (s_X3_hungerOf τ_11 (nI k_11))), (4, .int (nI k_11)), (0, .ref h), (1, .int a1)]) hx hb dX8_graze_174 rfl hl (by decide) rfl (fun ls hl => ?_)
          refine lv_iinc (v := (nI (k_11 + 1))) (lv' := [(4, .int (nI (k_11 + 1))), (3, .int (v3_11 + (s_X3_hungerOf τ_11 (nI k_11)))), (5, .int (s_X3_hungerOf τ_11 (nI k_11))), (0, .ref h), (1, .int a1)]) hx hb dX8_graze_175 hl (k := 2) rfl (by rw [show Int32.ofInt 1 = 1 from by decide]; exact nI_1 _) (by decide) rfl (fun ls hl => ?_)
          refine lv_goto (tgt := 119) hx hb dX8_graze_178 (by decide) ?_
          subst hB_11
          exact ih (k_11 + 1) (v3_11 + (s_X3_hungerOf τ_11 (nI k_11))) (put τ_11 205 k_11 ((τ_11 205 k_11) + (s_X3_hungerOf τ_11 (nI k_11)))) (ge_next hk_11) hI_11 (⟨hf_11.1, hf_11.2.1, hf_11.2.2.1, hf_11.2.2.2⟩) _ _ _ hR hP hD hS (lv_sub hl [0, 1, 3, 4] rfl)
    exact hL_11 _ 0 (0 : Int32) (put (put τc_9 403 (a1.toNatClampNeg) vc_10) 405 (a1.toNatClampNeg) ((τc_9 405 (a1.toNatClampNeg)) + (τc_9 306 0))) ⟨rfl, by decide⟩ hI_8 (⟨((show τc_9 811 = τ_4 811 by rw [← hτc_9]; exact fr_s_X3_passDay τ_4 (a1.toNatClampNeg) (τ_4 403 (a1.toNatClampNeg)) (s_X7_rainOn τ_4 (τ_4 816 0)) (s_X7_rateOn τ_4 (τ_4 816 0)) (f := 811) (by decide) (by decide) (by decide)).trans (hf_4.1)), ((show τc_9 812 = τ_4 812 by rw [← hτc_9]; exact fr_s_X3_passDay τ_4 (a1.toNatClampNeg) (τ_4 403 (a1.toNatClampNeg)) (s_X7_rainOn τ_4 (τ_4 816 0)) (s_X7_rateOn τ_4 (τ_4 816 0)) (f := 812) (by decide) (by decide) (by decide)).trans (hf_4.2.1)), ((show τc_9 814 = τ_4 814 by rw [← hτc_9]; exact fr_s_X3_passDay τ_4 (a1.toNatClampNeg) (τ_4 403 (a1.toNatClampNeg)) (s_X7_rainOn τ_4 (τ_4 816 0)) (s_X7_rateOn τ_4 (τ_4 816 0)) (f := 814) (by decide) (by decide) (by decide)).trans (hf_4.2.2.1)), ((show τc_9 815 = τ_4 815 by rw [← hτc_9]; exact fr_s_X3_passDay τ_4 (a1.toNatClampNeg) (τ_4 403 (a1.toNatClampNeg)) (s_X7_rainOn τ_4 (τ_4 816 0)) (s_X7_rateOn τ_4 (τ_4 816 0)) (f := 815) (by decide) (by decide) (by decide)).trans (hf_4.2.2.2))⟩) _ _ _ hR hP hD hS (lv_sub hl [0, 1, 3, 4] rfl)
  have hL_4 : ∀ (n k_4 : Nat) (τ_4 : St) (hk_4 : lpk (τ_4 815 0) k_4 n) (hI_4 : IX τ_4) (hf_4 : τ_4 811 = σ 811 ∧ τ_4 812 = σ 812 ∧ τ_4 814 = σ 814 ∧ τ_4 815 = σ 815) (H : Heap) (locs : List Loc) (ls : Array Slot), s_X8_graze_c9 a1 (iter (s_X8_graze_l9 a1) n k_4 τ_4) = (R1, R2) → va_P D vwCl (WC ca h ad pa τ_4) H → va_D A (WC ca h ad pa τ_4) → va_S A s.heap H locs → lv_has ls 6 [(2, .int (nI k_4)), (0, .ref h), (1, .int a1)] → W p l e ((headSpec wsX8_graze ({ frames := 3, cells := 0, slots := 0, locals := 72 })).room) s m ([.ref h, .int a1] : List Value).toArray below meth c H locs 0 0 QQ (F0 m 9 ls []) := by
    intro n
    induction n with
    | zero =>
      intro k_4 τ_4 hk_4 hI_4 hf_4 H locs ls hR hP hD hS hl
      refine lv_iload_n hx hb dX8_graze_9 rfl (lv_at hl 0 rfl) ?_
      refine lv_aload_n hx hb dX8_graze_10 rfl (lv_at hl 1 rfl) ?_
      refine va_get (D := D) (ci := 8) (v := .int (τ_4 815 0)) (C := RX8) (T := TX8) (N := 19) hx hb hts hu8 hown hK hP 0 wc_0 rfl 15 (by decide) (hts (.fieldLink RX8 88 "GrazeBook" "herdCount" "I") (List.mem_cons_of_mem _ mw_225)) (fun _ h9 => h9) rfl dX8_graze_11 ?_
      refine lv_icmp_ge (tgt := 53) hx hb dX8_graze_14 (by decide) (fun _ => ?_) (fun c_16 => absurd (ge_end hk_4) c_16)
      exact hE_4 τ_4 hI_4 hf_4 _ _ _ hR hP hD hS (lv_sub hl [1, 2] rfl)
    | succ n ih =>
      intro k_4 τ_4 hk_4 hI_4 hf_4 H locs ls hR hP hD hS hl
      obtain ⟨S_4, hB_4⟩ : ∃ s9, s_X8_graze_l9 a1 k_4 τ_4 = s9 := ⟨_, rfl⟩
      have hR : s_X8_graze_c9 a1 (iter (s_X8_graze_l9 a1) n (k_4 + 1) S_4) = (R1, R2) := by rw [← hB_4]; exact hR
      have hB_4 : (if (τ_4 203 k_4) = a1 then (s_X3_add τ_4 (nI k_4) (s_X2_parts τ_4 k_4)) else τ_4) = S_4 := hB_4
      refine lv_iload_n hx hb dX8_graze_9 rfl (lv_at hl 0 rfl) ?_
      refine lv_aload_n hx hb dX8_graze_10 rfl (lv_at hl 1 rfl) ?_
      refine va_get (D := D) (ci := 8) (v := .int (τ_4 815 0)) (C := RX8) (T := TX8) (N := 19) hx hb hts hu8 hown hK hP 0 wc_0 rfl 15 (by decide) (hts (.fieldLink RX8 88 "GrazeBook" "herdCount" "I") (List.mem_cons_of_mem _ mw_225)) (fun _ h9 => h9) rfl dX8_graze_11 ?_
      refine lv_icmp_ge (tgt := 53) hx hb dX8_graze_14 (by decide) (fun c_17 => absurd c_17 (ge_go hk_4)) (fun _ => ?_)
      refine lv_aload_n hx hb dX8_graze_17 rfl (lv_at hl 1 rfl) ?_
      refine va_get (D := D) (ci := 8) (v := .ref (ad 805)) (C := RX8) (T := TX8) (N := 19) hx hb hts hu8 hown hK hP 0 wc_0 rfl 5 (by decide) (hts (.fieldLink RX8 40 "GrazeBook" "herds" "[LGrazeBook$Drove;") (List.mem_cons_of_mem _ mw_215)) (fun _ h9 => h9) rfl dX8_graze_18 ?_
      refine lv_iload_n hx hb dX8_graze_21 rfl (lv_at hl 0 rfl) ?_
      refine va_aldq_k (k := k_4) (b := pa 3 k_4) hx hb hK hP 9 5 wc_9 rfl (ix_cl hk_4) (rf_at (k_ltb hk_4)) (ix_loop (N := 20) hk_4 (ix_815 hI_4) (by decide) (by decide)) dX8_graze_22 ?_
      refine va_get (D := D) (ci := 2) (v := .int (τ_4 203 k_4)) (C := RX2) (T := TX2) (N := 8) hx hb hts hu2 hown hK hP (pcD ca h ad pa τ_4 k_4) (wc_aD (k_ltb hk_4)) rfl 3 (by decide) (hts (.fieldLink RX8 163 "GrazeBook$Drove" "piece" "I") (List.mem_cons_of_mem _ mw_451)) (fun _ h9 => h9) rfl dX8_graze_23 ?_
      refine lv_iload_n hx hb dX8_graze_26 rfl (lv_at hl 2 rfl) ?_
      refine lv_icmp_ne (tgt := 47) hx hb dX8_graze_27 (by decide) (fun c_18 => ?_) (fun c_18 => ?_)
      · have hB_4 := (if_neg c_18).symm.trans hB_4
        refine lv_iinc (v := (nI (k_4 + 1))) (lv' := [(2, .int (nI (k_4 + 1))), (0, .ref h), (1, .int a1)]) hx hb dX8_graze_47 hl (k := 0) rfl (by rw [show Int32.ofInt 1 = 1 from by decide]; exact nI_1 _) (by decide) rfl (fun ls hl => ?_)
        refine lv_goto (tgt := 9) hx hb dX8_graze_50 (by decide) ?_
        subst hB_4
        exact ih (k_4 + 1) τ_4 (ge_next hk_4) hI_4 (⟨hf_4.1, hf_4.2.1, hf_4.2.2.1, hf_4.2.2.2⟩) _ _ _ hR hP hD hS (lv_sub hl [0, 1, 2] rfl)
      · have hB_4 := (if_pos c_18).symm.trans hB_4
        refine lv_aload_n hx hb dX8_graze_30 rfl (lv_at hl 1 rfl) ?_
        refine va_get (D := D) (ci := 8) (v := .ref (ad 808)) (C := RX8) (T := TX8) (N := 19) hx hb hts hu8 hown hK hP 0 wc_0 rfl 8 (by decide) (hts (.fieldLink RX8 61 "GrazeBook" "grazing" "LGrazeBook$Grazing;") (List.mem_cons_of_mem _ mw_218)) (fun _ h9 => h9) rfl dX8_graze_31 ?_
        refine lv_iload_n hx hb dX8_graze_34 rfl (lv_at hl 0 rfl) ?_
        refine lv_aload_n hx hb dX8_graze_35 rfl (lv_at hl 1 rfl) ?_
        refine va_get (D := D) (ci := 8) (v := .ref (ad 805)) (C := RX8) (T := TX8) (N := 19) hx hb hts hu8 hown hK hP 0 wc_0 rfl 5 (by decide) (hts (.fieldLink RX8 40 "GrazeBook" "herds" "[LGrazeBook$Drove;") (List.mem_cons_of_mem _ mw_215)) (fun _ h9 => h9) rfl dX8_graze_36 ?_
        refine lv_iload_n hx hb dX8_graze_39 rfl (lv_at hl 0 rfl) ?_
        refine va_aldq_k (k := k_4) (b := pa 3 k_4) hx hb hK hP 9 5 wc_9 rfl (ix_cl hk_4) (rf_at (k_ltb hk_4)) (ix_loop (N := 20) hk_4 (ix_815 hI_4) (by decide) (by decide)) dX8_graze_40 ?_
        have hF := pw_free hD hS hA
        refine va_calli (va_runV (As := []) (rest := [.int (nI k_4), .ref (ad 808)]) ⟨hx, hb, hml, hown, hts⟩ (k_X2_parts l D ca h ad pa tb τ_4 k_4 H.size hI_4 (k_ltb hk_4) _ rfl) (cwV 0 hts gX8_graze_X2_parts rfl rfl rfl (by decide +kernel) ⟨Nat.le_of_ble_eq_true rfl, Nat.le_of_ble_eq_true rfl⟩) ⟨cw_blind, va_recv hK hP (ci := 2) (q0 := (pcD ca h ad pa τ_4 k_4)) rfl (wc_aD (k_ltb hk_4)), cw_give hP hK hD hZ hS hF⟩ rfl rfl hl.1 rfl (lv_room (Nat.le_of_ble_eq_true rfl)) dX8_graze_41 ⟨Nat.le_of_ble_eq_true rfl, Nat.le_of_ble_eq_true rfl⟩) hS (fun q _ h => hF q h) hF (fun r_19 u t H1 locs ht hvm hw hB hz1 hk1 hS => ?_)
        rw [hw]
        obtain ⟨hP, hD⟩ := pw_back hF ht hB
        clear hB hk1 hz1 hF
        generalize H1 = H at hP hS ⊢
        have hF := pw_free hD hS hA
        refine va_callv (va_runV (As := [.int (nI k_4), .int (s_X2_parts τ_4 k_4)]) (rest := []) ⟨hx, hb, hml, hown, hts⟩ (k_X3_add l D ca h ad pa tb τ_4 (nI k_4) (s_X2_parts τ_4 k_4) H.size hI_4 _ rfl) (cwV 2 hts gX8_graze_X3_add rfl rfl rfl (by decide +kernel) ⟨Nat.le_of_ble_eq_true rfl, Nat.le_of_ble_eq_true rfl⟩) ⟨cw_blind, va_recv hK hP (ci := 3) (q0 := 4) rfl wc_4, cw_give hP hK hD hZ hS hF⟩ rfl rfl hl.1 rfl (lv_room (Nat.le_of_ble_eq_true rfl)) dX8_graze_44 ⟨Nat.le_of_ble_eq_true rfl, Nat.le_of_ble_eq_true rfl⟩) hS (fun q _ h => hF q h) hF (fun u t H1 locs ht hvm hw hB hz1 hk1 hS => ?_)
        obtain ⟨hB, hI_21⟩ := hB
        obtain ⟨hP, hD⟩ := pw_back hF ht hB
        clear hB hk1 hz1 hF
        generalize H1 = H at hP hS ⊢
        obtain ⟨τc_22, hτc_22⟩ : ∃ t9, (s_X3_add τ_4 (nI k_4) (s_X2_parts τ_4 k_4)) = t9 := ⟨_, rfl⟩
        rw [hτc_22] at hP hD hI_21
        (try rw [hτc_22] at hB_4)
        refine lv_iinc (v := (nI (k_4 + 1))) (lv' := [(2, .int (nI (k_4 + 1))), (0, .ref h), (1, .int a1)]) hx hb dX8_graze_47 hl (k := 0) rfl (by rw [show Int32.ofInt 1 = 1 from by decide]; exact nI_1 _) (by decide) rfl (fun ls hl => ?_)
        refine lv_goto (tgt := 9) hx hb dX8_graze_50 (by decide) ?_
        subst hB_4
        exact ih (k_4 + 1) τc_22 (lpk_cast (congrFun ((show τc_22 815 = τ_4 815 by rw [← hτc_22]; exact fr_s_X3_add τ_4 (nI k_4) (s_X2_parts τ_4 k_4) (f := 815) (by decide) (by decide) (by decide) (by decide) (by decide)).trans rfl) 0) (ge_next hk_4)) hI_21 (⟨((show τc_22 811 = τ_4 811 by rw [← hτc_22]; exact fr_s_X3_add τ_4 (nI k_4) (s_X2_parts τ_4 k_4) (f := 811) (by decide) (by decide) (by decide) (by decide) (by decide)).trans (hf_4.1)), ((show τc_22 812 = τ_4 812 by rw [← hτc_22]; exact fr_s_X3_add τ_4 (nI k_4) (s_X2_parts τ_4 k_4) (f := 812) (by decide) (by decide) (by decide) (by decide) (by decide)).trans (hf_4.2.1)), ((show τc_22 814 = τ_4 814 by rw [← hτc_22]; exact fr_s_X3_add τ_4 (nI k_4) (s_X2_parts τ_4 k_4) (f := 814) (by decide) (by decide) (by decide) (by decide) (by decide)).trans (hf_4.2.2.1)), ((show τc_22 815 = τ_4 815 by rw [← hτc_22]; exact fr_s_X3_add τ_4 (nI k_4) (s_X2_parts τ_4 k_4) (f := 815) (by decide) (by decide) (by decide) (by decide) (by decide)).trans (hf_4.2.2.2))⟩) _ _ _ hR hP hD hS (lv_sub hl [0, 1, 2] rfl)
  exact hL_4 _ 0 τc_3 ⟨rfl, by decide⟩ hI_2 (⟨((show τc_3 811 = σ 811 by rw [← hτc_3]; exact fr_s_X3_clear σ (f := 811) (by decide) (by decide) (by decide)).trans rfl), ((show τc_3 812 = σ 812 by rw [← hτc_3]; exact fr_s_X3_clear σ (f := 812) (by decide) (by decide) (by decide)).trans rfl), ((show τc_3 814 = σ 814 by rw [← hτc_3]; exact fr_s_X3_clear σ (f := 814) (by decide) (by decide) (by decide)).trans rfl), ((show τc_3 815 = σ 815 by rw [← hτc_3]; exact fr_s_X3_clear σ (f := 815) (by decide) (by decide) (by decide)).trans rfl)⟩) _ _ _ hR hP hD hS (lv_sub hl [0, 1, 2] rfl)

def s_X8_grazeAll_c4  : (Int32 × St) → Int32 × St := fun x9 => match x9 with
  | (v1_1, τ_1) => (v1_1, τ_1)
def s_X8_grazeAll_l4  (k_1 : Nat) : (Int32 × St) → (Int32 × St) := fun x9 => match x9 with
  | (v1_1, τ_1) => ((v1_1 + ((s_X8_graze τ_1 (nI k_1)).1)), ((s_X8_graze τ_1 (nI k_1)).2))
def s_X8_grazeAll (σ : St) : Int32 × St := (s_X8_grazeAll_c4 (iter s_X8_grazeAll_l4 ((σ 811 0).toNatClampNeg - 0) 0 ((0 : Int32), σ)))
theorem fr_s_X8_grazeAll_c4  (s : (Int32 × St)) {f : Nat} (h205 : f ≠ 205) (h300 : f ≠ 300) (h301 : f ≠ 301) (h302 : f ≠ 302) (h303 : f ≠ 303) (h304 : f ≠ 304) (h305 : f ≠ 305) (h306 : f ≠ 306) (h403 : f ≠ 403) (h405 : f ≠ 405) : (s_X8_grazeAll_c4 s).2 f = s.2 f := by
  obtain ⟨v1_1, τ_1⟩ := s
  unfold s_X8_grazeAll_c4
  all_goals ((try dsimp only) <;> ((repeat' split) <;> (try simp only [put_fr, ne_eq, not_false_eq_true, h205, h300, h301, h302, h303, h304, h305, h306, h403, h405, fr_s_X8_graze])))
theorem fr_s_X8_grazeAll_l4  (k_1 : Nat) (s : (Int32 × St)) {f : Nat} (h205 : f ≠ 205) (h300 : f ≠ 300) (h301 : f ≠ 301) (h302 : f ≠ 302) (h303 : f ≠ 303) (h304 : f ≠ 304) (h305 : f ≠ 305) (h306 : f ≠ 306) (h403 : f ≠ 403) (h405 : f ≠ 405) : (s_X8_grazeAll_l4 k_1 s).2 f = s.2 f := by
  obtain ⟨v1_1, τ_1⟩ := s
  unfold s_X8_grazeAll_l4
  all_goals ((try dsimp only) <;> ((repeat' split) <;> (try simp only [put_fr, ne_eq, not_false_eq_true, h205, h300, h301, h302, h303, h304, h305, h306, h403, h405, fr_s_X8_graze, fr_s_X8_grazeAll_c4])))
theorem fri_s_X8_grazeAll_l4  (n k : Nat) (s : (Int32 × St)) {f : Nat} (h205 : f ≠ 205) (h300 : f ≠ 300) (h301 : f ≠ 301) (h302 : f ≠ 302) (h303 : f ≠ 303) (h304 : f ≠ 304) (h305 : f ≠ 305) (h306 : f ≠ 306) (h403 : f ≠ 403) (h405 : f ≠ 405) : (iter s_X8_grazeAll_l4 n k s).2 f = s.2 f := iter_fr (P := (fun s => s.2 f)) (fun k s => fr_s_X8_grazeAll_l4  k s h205 h300 h301 h302 h303 h304 h305 h306 h403 h405) n k s
theorem fr_s_X8_grazeAll (σ : St) {f : Nat} (h205 : f ≠ 205) (h300 : f ≠ 300) (h301 : f ≠ 301) (h302 : f ≠ 302) (h303 : f ≠ 303) (h304 : f ≠ 304) (h305 : f ≠ 305) (h306 : f ≠ 306) (h403 : f ≠ 403) (h405 : f ≠ 405) : (s_X8_grazeAll σ ).2 f = σ f := by
  unfold s_X8_grazeAll
  all_goals ((try dsimp only) <;> ((repeat' split) <;> (try simp only [put_fr, ne_eq, not_false_eq_true, h205, h300, h301, h302, h303, h304, h305, h306, h403, h405, fr_s_X8_graze, fr_s_X8_grazeAll_c4, fri_s_X8_grazeAll_l4])))
set_option maxHeartbeats 1000000 in
set_option maxRecDepth 100000 in
theorem k_X8_grazeAll (l : Launch) (D : va_G) (ca : Nat → ClassId) (h : Nat) (ad : Nat → Nat) (pa : Nat → Nat → Nat) (tb : Nat) (σ : St) (sz : Nat) (hI : IX σ)  (R1 : Int32) (R2 : St) (hR : s_X8_grazeAll σ = (R1, R2)) : Met l yX8_grazeAll wsX8_grazeAll ({ frames := 4, cells := 0, slots := 0, locals := 97 }) (va_Pc [.ref h] (cw_pre D ca (WC ca h ad pa σ) sz tb)) (va_Qi (fun (r : Int32) (_ : Unit) => r = R1) (fun (_ : Unit) (t : State) => pw_post D ca (WC ca h ad pa σ) sz (WC ca h ad pa R2) t ∧ IX R2) (va_A (WC ca h ad pa σ) sz)) 0 0 (va_A (WC ca h ad pa σ) sz) := by
  refine Met.ofW (cc := cX8_grazeAll) (maxL := 3) (ret := (some .int)) (by decide) rfl ?_
  intro p e s m args below meth c s₁ B hml hv
  obtain ⟨rfl, ⟨hsz, hP, hK, hD0⟩, hZ⟩ := hv
  have hx := B.exec
  have hb := B.bytes
  have hr := B.returns
  have hts := atoms_spec (ws := wsX8_grazeAll) B.pre
  have hown : s.vm.findClass RX8 = some m.cls := findClass_of_methodNamed B.named
  have hlocks := B.notSynchronized
  have hu8 : ∀ w ∈ u_ws RX8 TX8 19, w ∈ wsX8_grazeAll := fun w h => List.mem_cons_of_mem _ (uw8 w h)
  subst hsz
  have hD := hD0.self (sz := s.heap.size)
  obtain ⟨A, hAe⟩ : ∃ A, A = va_A (WC ca h ad pa σ) s.heap.size := ⟨_, rfl⟩
  rw [← hAe] at hD hZ ⊢
  have hA : ∀ q : Nat, s.heap.size ≤ q → A q := fun q h => by rw [hAe]; exact Or.inr h
  have hS : va_S A s.heap s.heap [] := va_S.rf
  have hl := lv_entry ([.ref h]) (n := 3) (Nat.le_of_ble_eq_true rfl)
  rw [lg_entry_eq]
  generalize (lg_sl ([.ref h]) ++ List.replicate (3 - (lg_sl ([.ref h])).length) Slot.unset).toArray = ls at hl ⊢
  have hl : lv_has ls 3 [(0, .ref h)] := hl
  obtain ⟨H, hH⟩ : ∃ H, H = s.heap := ⟨_, rfl⟩
  have hP : va_P D vwCl (WC ca h ad pa σ) H := by rw [hH]; exact hP
  have hS : va_S A s.heap H [] := by rw [hH]; exact hS
  obtain ⟨QQ, hQ⟩ : ∃ Q9, Q9 = MQ below (va_Qi (fun (r : Int32) (_ : Unit) => r = R1) (fun (_ : Unit) (t : State) => pw_post D ca (WC ca h ad pa σ) s.heap.size (WC ca h ad pa R2) t ∧ IX R2) A) ([.ref h] : List Value).toArray s 0 0 A := ⟨_, rfl⟩
  rw [← hQ]
  show W _ _ _ _ _ _ _ _ _ _ s.heap _ _ _ _ _
  rw [← hH]
  delta s_X8_grazeAll at hR
  refine lv_iconst (v := (0 : Int32)) hx hb dX8_grazeAll_0 (by decide) ?_
  refine lv_istore_n (lv' := [(1, .int (0 : Int32)), (0, .ref h)]) hx hb dX8_grazeAll_1 rfl hl (by decide) rfl (fun ls hl => ?_)
  refine lv_iconst (v := (0 : Int32)) hx hb dX8_grazeAll_2 (by decide) ?_
  refine lv_istore_n (lv' := [(2, .int (0 : Int32)), (1, .int (0 : Int32)), (0, .ref h)]) hx hb dX8_grazeAll_3 rfl hl (by decide) rfl (fun ls hl => ?_)
  have hE_1 : ∀ (v1_1 : Int32) (τ_1 : St) (hI_1 : IX τ_1) (hf_1 : τ_1 811 = σ 811 ∧ τ_1 812 = σ 812 ∧ τ_1 814 = σ 814 ∧ τ_1 815 = σ 815) (H : Heap) (locs : List Loc) (ls : Array Slot), s_X8_grazeAll_c4 (v1_1, τ_1) = (R1, R2) → va_P D vwCl (WC ca h ad pa τ_1) H → va_D A (WC ca h ad pa τ_1) → va_S A s.heap H locs → lv_has ls 3 [(1, .int v1_1)] → W p l e ((headSpec wsX8_grazeAll ({ frames := 4, cells := 0, slots := 0, locals := 97 })).room) s m ([.ref h] : List Value).toArray below meth c H locs 0 0 QQ (F0 m 26 ls []) := by
    intro v1_1 τ_1 hI_1 hf_1 H locs ls hR hP hD hS hl
    have hR : (v1_1, τ_1) = (R1, R2) := hR
    refine lv_iload_n hx hb dX8_grazeAll_26 rfl (lv_at hl 0 rfl) ?_
    have hI9 : IX τ_1 := hI_1
    obtain ⟨rfl, rfl⟩ := Prod.mk.inj (show (v1_1, τ_1) = (R1, R2) from hR)
    rw [hQ]
    exact W.iret (v := v1_1) hx hb hr (fun t ht hW => ⟨⟨v1_1, (), rfl, rfl, ⟨by rw [ht]; exact hP, va_K.moved hW.alike hK, by rw [← hAe]; exact hD⟩, hI9⟩, hS.F ht⟩) hS.2.2 dX8_grazeAll_27
  have hL_1 : ∀ (n k_1 : Nat) (v1_1 : Int32) (τ_1 : St) (hk_1 : lpk (τ_1 811 0) k_1 n) (hI_1 : IX τ_1) (hf_1 : τ_1 811 = σ 811 ∧ τ_1 812 = σ 812 ∧ τ_1 814 = σ 814 ∧ τ_1 815 = σ 815) (H : Heap) (locs : List Loc) (ls : Array Slot), s_X8_grazeAll_c4 (iter s_X8_grazeAll_l4 n k_1 (v1_1, τ_1)) = (R1, R2) → va_P D vwCl (WC ca h ad pa τ_1) H → va_D A (WC ca h ad pa τ_1) → va_S A s.heap H locs → lv_has ls 3 [(2, .int (nI k_1)), (1, .int v1_1), (0, .ref h)] → W p l e ((headSpec wsX8_grazeAll ({ frames := 4, cells := 0, slots := 0, locals := 97 })).room) s m ([.ref h] : List Value).toArray below meth c H locs 0 0 QQ (F0 m 4 ls []) := by
    intro n
    induction n with
    | zero =>
      intro k_1 v1_1 τ_1 hk_1 hI_1 hf_1 H locs ls hR hP hD hS hl
      refine lv_iload_n hx hb dX8_grazeAll_4 rfl (lv_at hl 0 rfl) ?_
      refine lv_aload_n hx hb dX8_grazeAll_5 rfl (lv_at hl 2 rfl) ?_
      refine va_get (D := D) (ci := 8) (v := .int (τ_1 811 0)) (C := RX8) (T := TX8) (N := 19) hx hb hts hu8 hown hK hP 0 wc_0 rfl 11 (by decide) (hts (.fieldLink RX8 75 "GrazeBook" "pieceCount" "I") (List.mem_cons_of_mem _ mw_221)) (fun _ h9 => h9) rfl dX8_grazeAll_6 ?_
      refine lv_icmp_ge (tgt := 26) hx hb dX8_grazeAll_9 (by decide) (fun _ => ?_) (fun c_2 => absurd (ge_end hk_1) c_2)
      exact hE_1 v1_1 τ_1 hI_1 hf_1 _ _ _ hR hP hD hS (lv_sub hl [1] rfl)
    | succ n ih =>
      intro k_1 v1_1 τ_1 hk_1 hI_1 hf_1 H locs ls hR hP hD hS hl
      obtain ⟨S_1, hB_1⟩ : ∃ s9, s_X8_grazeAll_l4 k_1 (v1_1, τ_1) = s9 := ⟨_, rfl⟩
      have hR : s_X8_grazeAll_c4 (iter s_X8_grazeAll_l4 n (k_1 + 1) S_1) = (R1, R2) := by rw [← hB_1]; exact hR
      have hB_1 : ((v1_1 + ((s_X8_graze τ_1 (nI k_1)).1)), ((s_X8_graze τ_1 (nI k_1)).2)) = S_1 := hB_1
      refine lv_iload_n hx hb dX8_grazeAll_4 rfl (lv_at hl 0 rfl) ?_
      refine lv_aload_n hx hb dX8_grazeAll_5 rfl (lv_at hl 2 rfl) ?_
      refine va_get (D := D) (ci := 8) (v := .int (τ_1 811 0)) (C := RX8) (T := TX8) (N := 19) hx hb hts hu8 hown hK hP 0 wc_0 rfl 11 (by decide) (hts (.fieldLink RX8 75 "GrazeBook" "pieceCount" "I") (List.mem_cons_of_mem _ mw_221)) (fun _ h9 => h9) rfl dX8_grazeAll_6 ?_
      refine lv_icmp_ge (tgt := 26) hx hb dX8_grazeAll_9 (by decide) (fun c_3 => absurd c_3 (ge_go hk_1)) (fun _ => ?_)
      refine lv_iload_n hx hb dX8_grazeAll_12 rfl (lv_at hl 1 rfl) ?_
      refine lv_aload_n hx hb dX8_grazeAll_13 rfl (lv_at hl 2 rfl) ?_
      refine lv_iload_n hx hb dX8_grazeAll_14 rfl (lv_at hl 0 rfl) ?_
      have hF := pw_free hD hS hA
      refine va_calli (va_runV (As := [.int (nI k_1)]) (rest := [.int v1_1]) ⟨hx, hb, hml, hown, hts⟩ (k_X8_graze l D ca h ad pa tb τ_1 (nI k_1) H.size hI_1 (ix_loop (N := 6) hk_1 (ix_811 hI_1) (by decide) (by decide)) (by rw [show (nI k_1).toNatClampNeg = k_1 from (ix_cl hk_1)]; exact (k_ltb hk_1)) _ _ (Prod.eta _).symm) (cwV 1 hts gX8_grazeAll_X8_graze rfl rfl rfl (by decide +kernel) ⟨Nat.le_of_ble_eq_true rfl, Nat.le_of_ble_eq_true rfl⟩) ⟨cw_blind, va_recv hK hP (ci := 8) (q0 := 0) rfl wc_0, cw_give hP hK hD hZ hS hF⟩ rfl rfl hl.1 rfl (lv_room (Nat.le_of_ble_eq_true rfl)) dX8_grazeAll_15 ⟨Nat.le_of_ble_eq_true rfl, Nat.le_of_ble_eq_true rfl⟩) hS (fun q _ h => hF q h) hF (fun r_4 u t H1 locs ht hvm hw hB hz1 hk1 hS => ?_)
      rw [hw]
      obtain ⟨hB, hI_5⟩ := hB
      obtain ⟨hP, hD⟩ := pw_back hF ht hB
      clear hB hk1 hz1 hF
      generalize H1 = H at hP hS ⊢
      obtain ⟨τc_6, hτc_6⟩ : ∃ t9, (s_X8_graze τ_1 (nI k_1)).2 = t9 := ⟨_, rfl⟩
      rw [hτc_6] at hP hD hI_5
      (try rw [hτc_6] at hB_1)
      obtain ⟨vc_7, hvc_7⟩ : ∃ t9, (s_X8_graze τ_1 (nI k_1)).1 = t9 := ⟨_, rfl⟩
      rw [hvc_7]
      (try rw [hvc_7] at hB_1)
      refine lv_iadd hx hb dX8_grazeAll_18 ?_
      refine lv_istore_n (lv' := [(1, .int (v1_1 + vc_7)), (2, .int (nI k_1)), (0, .ref h)]) hx hb dX8_grazeAll_19 rfl hl (by decide) rfl (fun ls hl => ?_)
      refine lv_iinc (v := (nI (k_1 + 1))) (lv' := [(2, .int (nI (k_1 + 1))), (1, .int (v1_1 + vc_7)), (0, .ref h)]) hx hb dX8_grazeAll_20 hl (k := 1) rfl (by rw [show Int32.ofInt 1 = 1 from by decide]; exact nI_1 _) (by decide) rfl (fun ls hl => ?_)
      refine lv_goto (tgt := 4) hx hb dX8_grazeAll_23 (by decide) ?_
      subst hB_1
      exact ih (k_1 + 1) (v1_1 + vc_7) τc_6 (lpk_cast (congrFun ((show τc_6 811 = τ_1 811 by rw [← hτc_6]; exact fr_s_X8_graze τ_1 (nI k_1) (f := 811) (by decide) (by decide) (by decide) (by decide) (by decide) (by decide) (by decide) (by decide) (by decide) (by decide)).trans rfl) 0) (ge_next hk_1)) hI_5 (⟨((show τc_6 811 = τ_1 811 by rw [← hτc_6]; exact fr_s_X8_graze τ_1 (nI k_1) (f := 811) (by decide) (by decide) (by decide) (by decide) (by decide) (by decide) (by decide) (by decide) (by decide) (by decide)).trans (hf_1.1)), ((show τc_6 812 = τ_1 812 by rw [← hτc_6]; exact fr_s_X8_graze τ_1 (nI k_1) (f := 812) (by decide) (by decide) (by decide) (by decide) (by decide) (by decide) (by decide) (by decide) (by decide) (by decide)).trans (hf_1.2.1)), ((show τc_6 814 = τ_1 814 by rw [← hτc_6]; exact fr_s_X8_graze τ_1 (nI k_1) (f := 814) (by decide) (by decide) (by decide) (by decide) (by decide) (by decide) (by decide) (by decide) (by decide) (by decide)).trans (hf_1.2.2.1)), ((show τc_6 815 = τ_1 815 by rw [← hτc_6]; exact fr_s_X8_graze τ_1 (nI k_1) (f := 815) (by decide) (by decide) (by decide) (by decide) (by decide) (by decide) (by decide) (by decide) (by decide) (by decide)).trans (hf_1.2.2.2))⟩) _ _ _ hR hP hD hS (lv_sub hl [0, 1, 2] rfl)
  exact hL_1 _ 0 (0 : Int32) σ ⟨rfl, by decide⟩ hI (⟨rfl, rfl, rfl, rfl⟩) _ _ _ hR hP hD hS (lv_sub hl [0, 1, 2] rfl)

def s_X8_sellFromPound_c2  : St → St := fun x9 => match x9 with
  | τ_1 => τ_1
def s_X8_sellFromPound_l2  (k_1 : Nat) : St → St := fun x9 => match x9 with
  | τ_1 => (if (τ_1 206 k_1) = (1 : Int32) then (if (s_X2_daysInPound τ_1 k_1 (τ_1 816 0)) < (31 : Int32) then τ_1 else (put (put (put τ_1 500 ((τ_1 200 k_1).toNatClampNeg) ((τ_1 500 ((τ_1 200 k_1).toNatClampNeg)) + ((s_X2_parts τ_1 k_1) - (if (s_X2_fee τ_1 k_1 (τ_1 816 0)) < (s_X2_parts τ_1 k_1) then (s_X2_fee τ_1 k_1 (τ_1 816 0)) else (s_X2_parts τ_1 k_1))))) 590 0 ((τ_1 590 0) + (if (s_X2_fee τ_1 k_1 (τ_1 816 0)) < (s_X2_parts τ_1 k_1) then (s_X2_fee τ_1 k_1 (τ_1 816 0)) else (s_X2_parts τ_1 k_1)))) 206 k_1 (2 : Int32))) else τ_1)
def s_X8_sellFromPound (σ : St) : St := (s_X8_sellFromPound_c2 (iter s_X8_sellFromPound_l2 ((σ 815 0).toNatClampNeg - 0) 0 σ))
theorem fr_s_X8_sellFromPound_c2  (s : St) {f : Nat} (h206 : f ≠ 206) (h500 : f ≠ 500) (h590 : f ≠ 590) : (s_X8_sellFromPound_c2 s) f = s f := by
  unfold s_X8_sellFromPound_c2
  all_goals ((try dsimp only) <;> ((repeat' split) <;> (try simp only [put_fr, ne_eq, not_false_eq_true, h206, h500, h590])))
theorem fr_s_X8_sellFromPound_l2  (k_1 : Nat) (s : St) {f : Nat} (h206 : f ≠ 206) (h500 : f ≠ 500) (h590 : f ≠ 590) : (s_X8_sellFromPound_l2 k_1 s) f = s f := by
  unfold s_X8_sellFromPound_l2
  all_goals ((try dsimp only) <;> ((repeat' split) <;> (try simp only [put_fr, ne_eq, not_false_eq_true, h206, h500, h590, fr_s_X8_sellFromPound_c2])))
theorem fri_s_X8_sellFromPound_l2  (n k : Nat) (s : St) {f : Nat} (h206 : f ≠ 206) (h500 : f ≠ 500) (h590 : f ≠ 590) : (iter s_X8_sellFromPound_l2 n k s) f = s f := iter_fr (P := (fun s => s f)) (fun k s => fr_s_X8_sellFromPound_l2  k s h206 h500 h590) n k s
theorem fr_s_X8_sellFromPound (σ : St) {f : Nat} (h206 : f ≠ 206) (h500 : f ≠ 500) (h590 : f ≠ 590) : (s_X8_sellFromPound σ ) f = σ f := by
  unfold s_X8_sellFromPound
  all_goals ((try dsimp only) <;> ((repeat' split) <;> (try simp only [put_fr, ne_eq, not_false_eq_true, h206, h500, h590, fr_s_X8_sellFromPound_c2, fri_s_X8_sellFromPound_l2])))
set_option maxHeartbeats 1000000 in
set_option maxRecDepth 100000 in
theorem k_X8_sellFromPound (l : Launch) (D : va_G) (ca : Nat → ClassId) (h : Nat) (ad : Nat → Nat) (pa : Nat → Nat → Nat) (tb : Nat) (σ : St) (sz : Nat) (hI : IX σ)  (R : St) (hR : s_X8_sellFromPound σ = R) : Met l yX8_sellFromPound wsX8_sellFromPound ({ frames := 2, cells := 0, slots := 0, locals := 42 }) (va_Pc [.ref h] (cw_pre D ca (WC ca h ad pa σ) sz tb)) (va_Qv (fun _ : Unit => True) (fun (_ : Unit) (t : State) => pw_post D ca (WC ca h ad pa σ) sz (WC ca h ad pa R) t ∧ IX R) (va_A (WC ca h ad pa σ) sz)) 0 0 (va_A (WC ca h ad pa σ) sz) := by
  refine Met.ofW (cc := cX8_sellFromPound) (maxL := 5) (ret := none) (by decide) rfl ?_
  intro p e s m args below meth c s₁ B hml hv
  obtain ⟨rfl, ⟨hsz, hP, hK, hD0⟩, hZ⟩ := hv
  have hx := B.exec
  have hb := B.bytes
  have hr := B.returns
  have hts := atoms_spec (ws := wsX8_sellFromPound) B.pre
  have hown : s.vm.findClass RX8 = some m.cls := findClass_of_methodNamed B.named
  have hlocks := B.notSynchronized
  have hu2 : ∀ w ∈ u_ws RX2 TX2 8, w ∈ wsX8_sellFromPound := fun w h => List.mem_cons_of_mem _ (uw2 w h)
  have hu5 : ∀ w ∈ u_ws RX5 TX5 2, w ∈ wsX8_sellFromPound := fun w h => List.mem_cons_of_mem _ (uw5 w h)
  have hu8 : ∀ w ∈ u_ws RX8 TX8 19, w ∈ wsX8_sellFromPound := fun w h => List.mem_cons_of_mem _ (uw8 w h)
  subst hsz
  have hD := hD0.self (sz := s.heap.size)
  obtain ⟨A, hAe⟩ : ∃ A, A = va_A (WC ca h ad pa σ) s.heap.size := ⟨_, rfl⟩
  rw [← hAe] at hD hZ ⊢
  have hA : ∀ q : Nat, s.heap.size ≤ q → A q := fun q h => by rw [hAe]; exact Or.inr h
  have hS : va_S A s.heap s.heap [] := va_S.rf
  have hl := lv_entry ([.ref h]) (n := 5) (Nat.le_of_ble_eq_true rfl)
  rw [lg_entry_eq]
  generalize (lg_sl ([.ref h]) ++ List.replicate (5 - (lg_sl ([.ref h])).length) Slot.unset).toArray = ls at hl ⊢
  have hl : lv_has ls 5 [(0, .ref h)] := hl
  obtain ⟨H, hH⟩ : ∃ H, H = s.heap := ⟨_, rfl⟩
  have hP : va_P D vwCl (WC ca h ad pa σ) H := by rw [hH]; exact hP
  have hS : va_S A s.heap H [] := by rw [hH]; exact hS
  obtain ⟨QQ, hQ⟩ : ∃ Q9, Q9 = MQ below (va_Qv (fun _ : Unit => True) (fun (_ : Unit) (t : State) => pw_post D ca (WC ca h ad pa σ) s.heap.size (WC ca h ad pa R) t ∧ IX R) A) ([.ref h] : List Value).toArray s 0 0 A := ⟨_, rfl⟩
  rw [← hQ]
  show W _ _ _ _ _ _ _ _ _ _ s.heap _ _ _ _ _
  rw [← hH]
  have hR : (s_X8_sellFromPound_c2 (iter s_X8_sellFromPound_l2 ((σ 815 0).toNatClampNeg - 0) 0 σ)) = R := hR
  refine lv_iconst (v := (0 : Int32)) hx hb dX8_sellFromPound_0 (by decide) ?_
  refine lv_istore_n (lv' := [(1, .int (0 : Int32)), (0, .ref h)]) hx hb dX8_sellFromPound_1 rfl hl (by decide) rfl (fun ls hl => ?_)
  have hE_1 : ∀ (τ_1 : St) (hI_1 : IX τ_1) (hf_1 : τ_1 811 = σ 811 ∧ τ_1 812 = σ 812 ∧ τ_1 814 = σ 814 ∧ τ_1 815 = σ 815) (H : Heap) (locs : List Loc) (ls : Array Slot), s_X8_sellFromPound_c2 τ_1 = R → va_P D vwCl (WC ca h ad pa τ_1) H → va_D A (WC ca h ad pa τ_1) → va_S A s.heap H locs → lv_has ls 5 [] → W p l e ((headSpec wsX8_sellFromPound ({ frames := 2, cells := 0, slots := 0, locals := 42 })).room) s m ([.ref h] : List Value).toArray below meth c H locs 0 0 QQ (F0 m 103 ls []) := by
    intro τ_1 hI_1 hf_1 H locs ls hR hP hD hS hl
    have hR : τ_1 = R := hR
    have hI9 : IX τ_1 := hI_1
    subst hR
    rw [hQ]
    exact W.vret hx hb hr (fun t ht hW => ⟨⟨(), rfl, trivial, ⟨by rw [ht]; exact hP, va_K.moved hW.alike hK, by rw [← hAe]; exact hD⟩, hI9⟩, hS.F ht⟩) hS.2.2 dX8_sellFromPound_103
  have hL_1 : ∀ (n k_1 : Nat) (τ_1 : St) (hk_1 : lpk (τ_1 815 0) k_1 n) (hI_1 : IX τ_1) (hf_1 : τ_1 811 = σ 811 ∧ τ_1 812 = σ 812 ∧ τ_1 814 = σ 814 ∧ τ_1 815 = σ 815) (H : Heap) (locs : List Loc) (ls : Array Slot), s_X8_sellFromPound_c2 (iter s_X8_sellFromPound_l2 n k_1 τ_1) = R → va_P D vwCl (WC ca h ad pa τ_1) H → va_D A (WC ca h ad pa τ_1) → va_S A s.heap H locs → lv_has ls 5 [(1, .int (nI k_1)), (0, .ref h)] → W p l e ((headSpec wsX8_sellFromPound ({ frames := 2, cells := 0, slots := 0, locals := 42 })).room) s m ([.ref h] : List Value).toArray below meth c H locs 0 0 QQ (F0 m 2 ls []) := by
    intro n
    induction n with
    | zero =>
      intro k_1 τ_1 hk_1 hI_1 hf_1 H locs ls hR hP hD hS hl
      refine lv_iload_n hx hb dX8_sellFromPound_2 rfl (lv_at hl 0 rfl) ?_
      refine lv_aload_n hx hb dX8_sellFromPound_3 rfl (lv_at hl 1 rfl) ?_
      refine va_get (D := D) (ci := 8) (v := .int (τ_1 815 0)) (C := RX8) (T := TX8) (N := 19) hx hb hts hu8 hown hK hP 0 wc_0 rfl 15 (by decide) (hts (.fieldLink RX8 88 "GrazeBook" "herdCount" "I") (List.mem_cons_of_mem _ mw_225)) (fun _ h9 => h9) rfl dX8_sellFromPound_4 ?_
      refine lv_icmp_ge (tgt := 103) hx hb dX8_sellFromPound_7 (by decide) (fun _ => ?_) (fun c_2 => absurd (ge_end hk_1) c_2)
      exact hE_1 τ_1 hI_1 hf_1 _ _ _ hR hP hD hS (lv_sub hl [] rfl)
    | succ n ih =>
      intro k_1 τ_1 hk_1 hI_1 hf_1 H locs ls hR hP hD hS hl
      obtain ⟨S_1, hB_1⟩ : ∃ s9, s_X8_sellFromPound_l2 k_1 τ_1 = s9 := ⟨_, rfl⟩
      have hR : s_X8_sellFromPound_c2 (iter s_X8_sellFromPound_l2 n (k_1 + 1) S_1) = R := by rw [← hB_1]; exact hR
      have hB_1 : (if (τ_1 206 k_1) = (1 : Int32) then (if (s_X2_daysInPound τ_1 k_1 (τ_1 816 0)) < (31 : Int32) then τ_1 else (put (put (put τ_1 500 ((τ_1 200 k_1).toNatClampNeg) ((τ_1 500 ((τ_1 200 k_1).toNatClampNeg)) + ((s_X2_parts τ_1 k_1) - (if (s_X2_fee τ_1 k_1 (τ_1 816 0)) < (s_X2_parts τ_1 k_1) then (s_X2_fee τ_1 k_1 (τ_1 816 0)) else (s_X2_parts τ_1 k_1))))) 590 0 ((τ_1 590 0) + (if (s_X2_fee τ_1 k_1 (τ_1 816 0)) < (s_X2_parts τ_1 k_1) then (s_X2_fee τ_1 k_1 (τ_1 816 0)) else (s_X2_parts τ_1 k_1)))) 206 k_1 (2 : Int32))) else τ_1) = S_1 := hB_1
      refine lv_iload_n hx hb dX8_sellFromPound_2 rfl (lv_at hl 0 rfl) ?_
      refine lv_aload_n hx hb dX8_sellFromPound_3 rfl (lv_at hl 1 rfl) ?_
      refine va_get (D := D) (ci := 8) (v := .int (τ_1 815 0)) (C := RX8) (T := TX8) (N := 19) hx hb hts hu8 hown hK hP 0 wc_0 rfl 15 (by decide) (hts (.fieldLink RX8 88 "GrazeBook" "herdCount" "I") (List.mem_cons_of_mem _ mw_225)) (fun _ h9 => h9) rfl dX8_sellFromPound_4 ?_
      refine lv_icmp_ge (tgt := 103) hx hb dX8_sellFromPound_7 (by decide) (fun c_3 => absurd c_3 (ge_go hk_1)) (fun _ => ?_)
      refine lv_aload_n hx hb dX8_sellFromPound_10 rfl (lv_at hl 1 rfl) ?_
      refine va_get (D := D) (ci := 8) (v := .ref (ad 805)) (C := RX8) (T := TX8) (N := 19) hx hb hts hu8 hown hK hP 0 wc_0 rfl 5 (by decide) (hts (.fieldLink RX8 40 "GrazeBook" "herds" "[LGrazeBook$Drove;") (List.mem_cons_of_mem _ mw_215)) (fun _ h9 => h9) rfl dX8_sellFromPound_11 ?_
      refine lv_iload_n hx hb dX8_sellFromPound_14 rfl (lv_at hl 0 rfl) ?_
      refine va_aldq_k (k := k_1) (b := pa 3 k_1) hx hb hK hP 9 5 wc_9 rfl (ix_cl hk_1) (rf_at (k_ltb hk_1)) (ix_loop (N := 20) hk_1 (ix_815 hI_1) (by decide) (by decide)) dX8_sellFromPound_15 ?_
      refine lv_astore_n (lv' := [(2, .ref (pa 3 k_1)), (1, .int (nI k_1)), (0, .ref h)]) hx hb dX8_sellFromPound_16 rfl hl (by decide) rfl (fun ls hl => ?_)
      refine lv_aload_n hx hb dX8_sellFromPound_17 rfl (lv_at hl 0 rfl) ?_
      refine va_get (D := D) (ci := 2) (v := .int (τ_1 206 k_1)) (C := RX2) (T := TX2) (N := 8) hx hb hts hu2 hown hK hP (pcD ca h ad pa τ_1 k_1) (wc_aD (k_ltb hk_1)) rfl 6 (by decide) (hts (.fieldLink RX8 160 "GrazeBook$Drove" "state" "I") (List.mem_cons_of_mem _ mw_457)) (fun _ h9 => h9) rfl dX8_sellFromPound_18 ?_
      refine lv_iconst (v := (1 : Int32)) hx hb dX8_sellFromPound_21 (by decide) ?_
      refine lv_icmp_ne (tgt := 97) hx hb dX8_sellFromPound_22 (by decide) (fun c_4 => ?_) (fun c_4 => ?_)
      · have hB_1 := (if_neg c_4).symm.trans hB_1
        refine lv_iinc (v := (nI (k_1 + 1))) (lv' := [(1, .int (nI (k_1 + 1))), (2, .ref (pa 3 k_1)), (0, .ref h)]) hx hb dX8_sellFromPound_97 hl (k := 1) rfl (by rw [show Int32.ofInt 1 = 1 from by decide]; exact nI_1 _) (by decide) rfl (fun ls hl => ?_)
        refine lv_goto (tgt := 2) hx hb dX8_sellFromPound_100 (by decide) ?_
        subst hB_1
        exact ih (k_1 + 1) τ_1 (ge_next hk_1) hI_1 (⟨hf_1.1, hf_1.2.1, hf_1.2.2.1, hf_1.2.2.2⟩) _ _ _ hR hP hD hS (lv_sub hl [0, 2] rfl)
      · have hB_1 := (if_pos c_4).symm.trans hB_1
        refine lv_aload_n hx hb dX8_sellFromPound_25 rfl (lv_at hl 0 rfl) ?_
        refine lv_aload_n hx hb dX8_sellFromPound_26 rfl (lv_at hl 2 rfl) ?_
        refine va_get (D := D) (ci := 8) (v := .int (τ_1 816 0)) (C := RX8) (T := TX8) (N := 19) hx hb hts hu8 hown hK hP 0 wc_0 rfl 16 (by decide) (hts (.fieldLink RX8 91 "GrazeBook" "day" "I") (List.mem_cons_of_mem _ mw_226)) (fun _ h9 => h9) rfl dX8_sellFromPound_27 ?_
        have hF := pw_free hD hS hA
        refine va_calli (va_runV (As := [.int (τ_1 816 0)]) (rest := []) ⟨hx, hb, hml, hown, hts⟩ (k_X2_daysInPound l D ca h ad pa tb τ_1 k_1 (τ_1 816 0) H.size hI_1 (k_ltb hk_1) _ rfl) (cwV 1 hts gX8_sellFromPound_X2_daysInPound rfl rfl rfl (by decide +kernel) ⟨Nat.le_of_ble_eq_true rfl, Nat.le_of_ble_eq_true rfl⟩) ⟨cw_blind, va_recv hK hP (ci := 2) (q0 := (pcD ca h ad pa τ_1 k_1)) rfl (wc_aD (k_ltb hk_1)), cw_give hP hK hD hZ hS hF⟩ rfl rfl hl.1 rfl (lv_room (Nat.le_of_ble_eq_true rfl)) dX8_sellFromPound_30 ⟨Nat.le_of_ble_eq_true rfl, Nat.le_of_ble_eq_true rfl⟩) hS (fun q _ h => hF q h) hF (fun r_5 u t H1 locs ht hvm hw hB hz1 hk1 hS => ?_)
        rw [hw]
        obtain ⟨hP, hD⟩ := pw_back hF ht hB
        clear hB hk1 hz1 hF
        generalize H1 = H at hP hS ⊢
        refine lv_bipush (v := (31 : Int32)) hx hb dX8_sellFromPound_33 (by decide) ?_
        refine lv_icmp_lt (tgt := 97) hx hb dX8_sellFromPound_35 (by decide) (fun c_6 => ?_) (fun c_6 => ?_)
        · have hB_1 := (if_pos c_6).symm.trans hB_1
          refine lv_iinc (v := (nI (k_1 + 1))) (lv' := [(1, .int (nI (k_1 + 1))), (2, .ref (pa 3 k_1)), (0, .ref h)]) hx hb dX8_sellFromPound_97 hl (k := 1) rfl (by rw [show Int32.ofInt 1 = 1 from by decide]; exact nI_1 _) (by decide) rfl (fun ls hl => ?_)
          refine lv_goto (tgt := 2) hx hb dX8_sellFromPound_100 (by decide) ?_
          subst hB_1
          exact ih (k_1 + 1) τ_1 (ge_next hk_1) hI_1 (⟨hf_1.1, hf_1.2.1, hf_1.2.2.1, hf_1.2.2.2⟩) _ _ _ hR hP hD hS (lv_sub hl [0, 2] rfl)
        · have hB_1 := (if_neg c_6).symm.trans hB_1
          refine lv_aload_n hx hb dX8_sellFromPound_38 rfl (lv_at hl 0 rfl) ?_
          have hF := pw_free hD hS hA
          refine va_calli (va_runV (As := []) (rest := []) ⟨hx, hb, hml, hown, hts⟩ (k_X2_parts l D ca h ad pa tb τ_1 k_1 H.size hI_1 (k_ltb hk_1) _ rfl) (cwV 0 hts gX8_sellFromPound_X2_parts rfl rfl rfl (by decide +kernel) ⟨Nat.le_of_ble_eq_true rfl, Nat.le_of_ble_eq_true rfl⟩) ⟨cw_blind, va_recv hK hP (ci := 2) (q0 := (pcD ca h ad pa τ_1 k_1)) rfl (wc_aD (k_ltb hk_1)), cw_give hP hK hD hZ hS hF⟩ rfl rfl hl.1 rfl (lv_room (Nat.le_of_ble_eq_true rfl)) dX8_sellFromPound_39 ⟨Nat.le_of_ble_eq_true rfl, Nat.le_of_ble_eq_true rfl⟩) hS (fun q _ h => hF q h) hF (fun r_7 u t H1 locs ht hvm hw hB hz1 hk1 hS => ?_)
          rw [hw]
          obtain ⟨hP, hD⟩ := pw_back hF ht hB
          clear hB hk1 hz1 hF
          generalize H1 = H at hP hS ⊢
          refine lv_istore_n (lv' := [(3, .int (s_X2_parts τ_1 k_1)), (2, .ref (pa 3 k_1)), (1, .int (nI k_1)), (0, .ref h)]) hx hb dX8_sellFromPound_42 rfl hl (by decide) rfl (fun ls hl => ?_)
          refine lv_iload_n hx hb dX8_sellFromPound_43 rfl (lv_at hl 0 rfl) ?_
          refine lv_aload_n hx hb dX8_sellFromPound_44 rfl (lv_at hl 1 rfl) ?_
          refine lv_aload_n hx hb dX8_sellFromPound_45 rfl (lv_at hl 3 rfl) ?_
          refine va_get (D := D) (ci := 8) (v := .int (τ_1 816 0)) (C := RX8) (T := TX8) (N := 19) hx hb hts hu8 hown hK hP 0 wc_0 rfl 16 (by decide) (hts (.fieldLink RX8 91 "GrazeBook" "day" "I") (List.mem_cons_of_mem _ mw_226)) (fun _ h9 => h9) rfl dX8_sellFromPound_46 ?_
          have hF := pw_free hD hS hA
          refine va_calli (va_runV (As := [.int (τ_1 816 0)]) (rest := [.int (s_X2_parts τ_1 k_1)]) ⟨hx, hb, hml, hown, hts⟩ (k_X2_fee l D ca h ad pa tb τ_1 k_1 (τ_1 816 0) H.size hI_1 (k_ltb hk_1) _ rfl) (cwV 1 hts gX8_sellFromPound_X2_fee rfl rfl rfl (by decide +kernel) ⟨Nat.le_of_ble_eq_true rfl, Nat.le_of_ble_eq_true rfl⟩) ⟨cw_blind, va_recv hK hP (ci := 2) (q0 := (pcD ca h ad pa τ_1 k_1)) rfl (wc_aD (k_ltb hk_1)), cw_give hP hK hD hZ hS hF⟩ rfl rfl hl.1 rfl (lv_room (Nat.le_of_ble_eq_true rfl)) dX8_sellFromPound_49 ⟨Nat.le_of_ble_eq_true rfl, Nat.le_of_ble_eq_true rfl⟩) hS (fun q _ h => hF q h) hF (fun r_8 u t H1 locs ht hvm hw hB hz1 hk1 hS => ?_)
          rw [hw]
          obtain ⟨hP, hD⟩ := pw_back hF ht hB
          clear hB hk1 hz1 hF
          generalize H1 = H at hP hS ⊢
          refine va_mmin hx hb (hml.trans hl.1.symm) hown (hts (.methodLink RX8 348 Lib.Math.min.name) (List.mem_cons_of_mem _ mw_615)) (hts (.static Lib.Math.min.name) (List.mem_cons_of_mem _ mw_588)) (hts (.initialized "java/lang/Math") (List.mem_cons_of_mem _ mw_68)) (hts (.code Lib.Math.min.name Lib.Math.min.code 2 (some .int)) (List.mem_cons_of_mem _ mw_589)) (Nat.le_of_ble_eq_true rfl) (Nat.le_of_ble_eq_true rfl) (Nat.le_of_ble_eq_true rfl) (Nat.le_of_ble_eq_true rfl) dX8_sellFromPound_52 ?_
          refine lv_istore (lv' := [(4, .int (if (s_X2_fee τ_1 k_1 (τ_1 816 0)) < (s_X2_parts τ_1 k_1) then (s_X2_fee τ_1 k_1 (τ_1 816 0)) else (s_X2_parts τ_1 k_1))), (3, .int (s_X2_parts τ_1 k_1)), (2, .ref (pa 3 k_1)), (1, .int (nI k_1)), (0, .ref h)]) hx hb dX8_sellFromPound_55 hl (by decide) rfl (fun ls hl => ?_)
          refine lv_aload_n hx hb dX8_sellFromPound_57 rfl (lv_at hl 4 rfl) ?_
          refine va_get (D := D) (ci := 8) (v := .ref (ad 801)) (C := RX8) (T := TX8) (N := 19) hx hb hts hu8 hown hK hP 0 wc_0 rfl 1 (by decide) (hts (.fieldLink RX8 17 "GrazeBook" "owners" "[LGrazeBook$Purse;") (List.mem_cons_of_mem _ mw_211)) (fun _ h9 => h9) rfl dX8_sellFromPound_58 ?_
          refine lv_aload_n hx hb dX8_sellFromPound_61 rfl (lv_at hl 2 rfl) ?_
          refine va_get (D := D) (ci := 2) (v := .int (τ_1 200 k_1)) (C := RX2) (T := TX2) (N := 8) hx hb hts hu2 hown hK hP (pcD ca h ad pa τ_1 k_1) (wc_aD (k_ltb hk_1)) rfl 0 (by decide) (hts (.fieldLink RX8 169 "GrazeBook$Drove" "owner" "I") (List.mem_cons_of_mem _ mw_441)) (fun _ h9 => h9) rfl dX8_sellFromPound_62 ?_
          refine va_aldq_k (k := ((τ_1 200 k_1).toNatClampNeg)) (b := pa 1 ((τ_1 200 k_1).toNatClampNeg)) hx hb hK hP 7 3 wc_7 rfl rfl (rf_at (own_inb (ix_200 hI_1 (k_ltb hk_1)))) (own_rng (ix_200 hI_1 (k_ltb hk_1)) (ix_812 hI_1)) dX8_sellFromPound_65 ?_
          refine lv_dup hx hb dX8_sellFromPound_66 rfl ?_
          refine va_get (D := D) (ci := 5) (v := .int (τ_1 500 ((τ_1 200 k_1).toNatClampNeg))) (C := RX5) (T := TX5) (N := 2) hx hb hts hu5 hown hK hP (pcU ca h ad pa τ_1 ((τ_1 200 k_1).toNatClampNeg)) (wc_aU (own_inb (ix_200 hI_1 (k_ltb hk_1)))) rfl 0 (by decide) (hts (.fieldLink RX8 228 "GrazeBook$Purse" "coins" "I") (List.mem_cons_of_mem _ mw_88)) (fun _ h9 => h9) rfl dX8_sellFromPound_67 ?_
          refine lv_iload_n hx hb dX8_sellFromPound_70 rfl (lv_at hl 1 rfl) ?_
          refine lv_iload hx hb dX8_sellFromPound_71 (lv_at hl 0 rfl) ?_
          refine lv_isub hx hb dX8_sellFromPound_73 ?_
          refine lv_iadd hx hb dX8_sellFromPound_74 ?_
          refine va_put (D := D) (ci := 5) (v := .int ((τ_1 500 ((τ_1 200 k_1).toNatClampNeg)) + ((s_X2_parts τ_1 k_1) - (if (s_X2_fee τ_1 k_1 (τ_1 816 0)) < (s_X2_parts τ_1 k_1) then (s_X2_fee τ_1 k_1 (τ_1 816 0)) else (s_X2_parts τ_1 k_1))))) (ty := .int) (C := RX5) (T := TX5) (N := 2) hx hb hts hu5 tyX5 tyX5_ok nmX5 hown hK hP hD hS (pcU ca h ad pa τ_1 ((τ_1 200 k_1).toNatClampNeg)) (wc_aU (own_inb (ix_200 hI_1 (k_ltb hk_1)))) rfl 0 (by decide) (hts (.fieldLink RX8 228 "GrazeBook$Purse" "coins" "I") (List.mem_cons_of_mem _ mw_88)) (fun _ h9 => h9) rfl (by decide +kernel) rfl rfl (Nat.le_of_ble_eq_true rfl) dX8_sellFromPound_75 (fun H locs hP hD hS => ?_)
          rw [wc_sU0 (σ := τ_1) (own_inb (ix_200 hI_1 (k_ltb hk_1)))] at hP hD
          refine lv_aload_n hx hb dX8_sellFromPound_78 rfl (lv_at hl 4 rfl) ?_
          refine va_get (D := D) (ci := 8) (v := .ref (ad 802)) (C := RX8) (T := TX8) (N := 19) hx hb hts hu8 hown hK hP 0 wc_0 rfl 2 (by decide) (hts (.fieldLink RX8 24 "GrazeBook" "reeve" "LGrazeBook$Purse;") (List.mem_cons_of_mem _ mw_212)) (fun _ h9 => h9) rfl dX8_sellFromPound_79 ?_
          refine lv_dup hx hb dX8_sellFromPound_82 rfl ?_
          refine va_get (D := D) (ci := 5) (v := .int (τ_1 590 0)) (C := RX5) (T := TX5) (N := 2) hx hb hts hu5 hown hK hP 1 wc_1 rfl 0 (by decide) (hts (.fieldLink RX8 228 "GrazeBook$Purse" "coins" "I") (List.mem_cons_of_mem _ mw_88)) (fun _ h9 => h9) rfl dX8_sellFromPound_83 ?_
          refine lv_iload hx hb dX8_sellFromPound_86 (lv_at hl 0 rfl) ?_
          refine lv_iadd hx hb dX8_sellFromPound_88 ?_
          refine va_put (D := D) (ci := 5) (v := .int ((τ_1 590 0) + (if (s_X2_fee τ_1 k_1 (τ_1 816 0)) < (s_X2_parts τ_1 k_1) then (s_X2_fee τ_1 k_1 (τ_1 816 0)) else (s_X2_parts τ_1 k_1)))) (ty := .int) (C := RX5) (T := TX5) (N := 2) hx hb hts hu5 tyX5 tyX5_ok nmX5 hown hK hP hD hS 1 wc_1 rfl 0 (by decide) (hts (.fieldLink RX8 228 "GrazeBook$Purse" "coins" "I") (List.mem_cons_of_mem _ mw_88)) (fun _ h9 => h9) rfl (by decide +kernel) rfl rfl (Nat.le_of_ble_eq_true rfl) dX8_sellFromPound_89 (fun H locs hP hD hS => ?_)
          rw [wc_p590] at hP hD
          refine lv_aload_n hx hb dX8_sellFromPound_92 rfl (lv_at hl 2 rfl) ?_
          refine lv_iconst (v := (2 : Int32)) hx hb dX8_sellFromPound_93 (by decide) ?_
          refine va_put (D := D) (ci := 2) (v := .int (2 : Int32)) (ty := .int) (C := RX2) (T := TX2) (N := 8) hx hb hts hu2 tyX2 tyX2_ok nmX2 hown hK hP hD hS (pcD ca h ad pa (put (put τ_1 500 ((τ_1 200 k_1).toNatClampNeg) ((τ_1 500 ((τ_1 200 k_1).toNatClampNeg)) + ((s_X2_parts τ_1 k_1) - (if (s_X2_fee τ_1 k_1 (τ_1 816 0)) < (s_X2_parts τ_1 k_1) then (s_X2_fee τ_1 k_1 (τ_1 816 0)) else (s_X2_parts τ_1 k_1))))) 590 0 ((τ_1 590 0) + (if (s_X2_fee τ_1 k_1 (τ_1 816 0)) < (s_X2_parts τ_1 k_1) then (s_X2_fee τ_1 k_1 (τ_1 816 0)) else (s_X2_parts τ_1 k_1)))) k_1) (wc_aD (k_ltb hk_1)) rfl 6 (by decide) (hts (.fieldLink RX8 160 "GrazeBook$Drove" "state" "I") (List.mem_cons_of_mem _ mw_457)) (fun _ h9 => h9) rfl (by decide +kernel) rfl rfl (Nat.le_of_ble_eq_true rfl) dX8_sellFromPound_94 (fun H locs hP hD hS => ?_)
          rw [wc_sD6 (σ := (put (put τ_1 500 ((τ_1 200 k_1).toNatClampNeg) ((τ_1 500 ((τ_1 200 k_1).toNatClampNeg)) + ((s_X2_parts τ_1 k_1) - (if (s_X2_fee τ_1 k_1 (τ_1 816 0)) < (s_X2_parts τ_1 k_1) then (s_X2_fee τ_1 k_1 (τ_1 816 0)) else (s_X2_parts τ_1 k_1))))) 590 0 ((τ_1 590 0) + (if (s_X2_fee τ_1 k_1 (τ_1 816 0)) < (s_X2_parts τ_1 k_1) then (s_X2_fee τ_1 k_1 (τ_1 816 0)) else (s_X2_parts τ_1 k_1))))) (k_ltb hk_1)] at hP hD
          refine lv_iinc (v := (nI (k_1 + 1))) (lv' := [(1, .int (nI (k_1 + 1))), (4, .int (if (s_X2_fee τ_1 k_1 (τ_1 816 0)) < (s_X2_parts τ_1 k_1) then (s_X2_fee τ_1 k_1 (τ_1 816 0)) else (s_X2_parts τ_1 k_1))), (3, .int (s_X2_parts τ_1 k_1)), (2, .ref (pa 3 k_1)), (0, .ref h)]) hx hb dX8_sellFromPound_97 hl (k := 3) rfl (by rw [show Int32.ofInt 1 = 1 from by decide]; exact nI_1 _) (by decide) rfl (fun ls hl => ?_)
          refine lv_goto (tgt := 2) hx hb dX8_sellFromPound_100 (by decide) ?_
          subst hB_1
          exact ih (k_1 + 1) (put (put (put τ_1 500 ((τ_1 200 k_1).toNatClampNeg) ((τ_1 500 ((τ_1 200 k_1).toNatClampNeg)) + ((s_X2_parts τ_1 k_1) - (if (s_X2_fee τ_1 k_1 (τ_1 816 0)) < (s_X2_parts τ_1 k_1) then (s_X2_fee τ_1 k_1 (τ_1 816 0)) else (s_X2_parts τ_1 k_1))))) 590 0 ((τ_1 590 0) + (if (s_X2_fee τ_1 k_1 (τ_1 816 0)) < (s_X2_parts τ_1 k_1) then (s_X2_fee τ_1 k_1 (τ_1 816 0)) else (s_X2_parts τ_1 k_1)))) 206 k_1 (2 : Int32)) (ge_next hk_1) hI_1 (⟨hf_1.1, hf_1.2.1, hf_1.2.2.1, hf_1.2.2.2⟩) _ _ _ hR hP hD hS (lv_sub hl [0, 4] rfl)
  exact hL_1 _ 0 σ ⟨rfl, by decide⟩ hI (⟨rfl, rfl, rfl, rfl⟩) _ _ _ hR hP hD hS (lv_sub hl [0, 1] rfl)

def s_X8_hasHerdFor_c8  : Unit → Int32 := fun x9 => match x9 with
  | _ => (0 : Int32)
def s_X8_hasHerdFor_c8r  : Sum Int32 Unit → Int32 := fun x9 => match x9 with
  | .inl r => r
  | .inr s => s_X8_hasHerdFor_c8 s
def s_X8_hasHerdFor_l8 (σ : St) (i : Nat) (k_2 : Nat) : Unit → Sum Int32 Unit := fun x9 => match x9 with
  | _ => (if (σ 200 k_2) = (s_X8_holder σ i) then (if (s_X0_fits σ i k_2) = (0 : Int32) then (Sum.inr ()) else (Sum.inl (1 : Int32))) else (Sum.inr ()))
def s_X8_hasHerdFor (σ : St) (i : Nat) : Int32 := (s_X8_hasHerdFor_c8r (iterR (s_X8_hasHerdFor_l8 σ i) ((σ 815 0).toNatClampNeg - 0) 0 ()))
set_option maxHeartbeats 1000000 in
set_option maxRecDepth 100000 in
theorem k_X8_hasHerdFor (l : Launch) (D : va_G) (ca : Nat → ClassId) (h : Nat) (ad : Nat → Nat) (pa : Nat → Nat → Nat) (tb : Nat) (σ : St) (i : Nat) (sz : Nat) (hI : IX σ) (hi : i < (σ 814 0).toNatClampNeg) (R : Int32) (hR : s_X8_hasHerdFor σ i = R) : Met l yX8_hasHerdFor wsX8_hasHerdFor ({ frames := 2, cells := 0, slots := 0, locals := 42 }) (va_Pc [.ref h, .ref (pa 2 i)] (cw_pre D ca (WC ca h ad pa σ) sz tb)) (va_Qi (fun (r : Int32) (_ : Unit) => r = R) (fun (_ : Unit) (t : State) => pw_post D ca (WC ca h ad pa σ) sz (WC ca h ad pa σ) t) (va_A (WC ca h ad pa σ) sz)) 0 0 (va_A (WC ca h ad pa σ) sz) := by
  refine Met.ofW (cc := cX8_hasHerdFor) (maxL := 4) (ret := (some .boolean)) (by decide) rfl ?_
  intro p e s m args below meth c s₁ B hml hv
  obtain ⟨rfl, ⟨hsz, hP, hK, hD0⟩, hZ⟩ := hv
  have hx := B.exec
  have hb := B.bytes
  have hr := B.returns
  have hts := atoms_spec (ws := wsX8_hasHerdFor) B.pre
  have hown : s.vm.findClass RX8 = some m.cls := findClass_of_methodNamed B.named
  have hlocks := B.notSynchronized
  have hu2 : ∀ w ∈ u_ws RX2 TX2 8, w ∈ wsX8_hasHerdFor := fun w h => List.mem_cons_of_mem _ (uw2 w h)
  have hu8 : ∀ w ∈ u_ws RX8 TX8 19, w ∈ wsX8_hasHerdFor := fun w h => List.mem_cons_of_mem _ (uw8 w h)
  subst hsz
  have hD := hD0.self (sz := s.heap.size)
  obtain ⟨A, hAe⟩ : ∃ A, A = va_A (WC ca h ad pa σ) s.heap.size := ⟨_, rfl⟩
  rw [← hAe] at hD hZ ⊢
  have hA : ∀ q : Nat, s.heap.size ≤ q → A q := fun q h => by rw [hAe]; exact Or.inr h
  have hS : va_S A s.heap s.heap [] := va_S.rf
  have hl := lv_entry ([.ref h, .ref (pa 2 i)]) (n := 4) (Nat.le_of_ble_eq_true rfl)
  rw [lg_entry_eq]
  generalize (lg_sl ([.ref h, .ref (pa 2 i)]) ++ List.replicate (4 - (lg_sl ([.ref h, .ref (pa 2 i)])).length) Slot.unset).toArray = ls at hl ⊢
  have hl : lv_has ls 4 [(0, .ref h), (1, .ref (pa 2 i))] := hl
  obtain ⟨H, hH⟩ : ∃ H, H = s.heap := ⟨_, rfl⟩
  have hP : va_P D vwCl (WC ca h ad pa σ) H := by rw [hH]; exact hP
  have hS : va_S A s.heap H [] := by rw [hH]; exact hS
  obtain ⟨QQ, hQ⟩ : ∃ Q9, Q9 = MQ below (va_Qi (fun (r : Int32) (_ : Unit) => r = R) (fun (_ : Unit) (t : State) => pw_post D ca (WC ca h ad pa σ) s.heap.size (WC ca h ad pa σ) t) A) ([.ref h, .ref (pa 2 i)] : List Value).toArray s 0 0 A := ⟨_, rfl⟩
  rw [← hQ]
  show W _ _ _ _ _ _ _ _ _ _ s.heap _ _ _ _ _
  rw [← hH]
  have hR : (s_X8_hasHerdFor_c8r (iterR (s_X8_hasHerdFor_l8 σ i) ((σ 815 0).toNatClampNeg - 0) 0 ())) = R := hR
  refine lv_aload_n hx hb dX8_hasHerdFor_0 rfl (lv_at hl 0 rfl) ?_
  refine lv_aload_n hx hb dX8_hasHerdFor_1 rfl (lv_at hl 1 rfl) ?_
  have hF := pw_free hD hS hA
  refine va_calli (va_runV (As := [.ref (pa 2 i)]) (rest := []) ⟨hx, hb, hml, hown, hts⟩ (k_X8_holder l D ca h ad pa tb σ i H.size hI hi _ rfl) (cwV 1 hts gX8_hasHerdFor_X8_holder rfl rfl rfl (by decide +kernel) ⟨Nat.le_of_ble_eq_true rfl, Nat.le_of_ble_eq_true rfl⟩) ⟨cw_blind, va_recv hK hP (ci := 8) (q0 := 0) rfl wc_0, cw_give hP hK hD hZ hS hF⟩ rfl rfl hl.1 rfl (lv_room (Nat.le_of_ble_eq_true rfl)) dX8_hasHerdFor_2 ⟨Nat.le_of_ble_eq_true rfl, Nat.le_of_ble_eq_true rfl⟩) hS (fun q _ h => hF q h) hF (fun r_1 u t H1 locs ht hvm hw hB hz1 hk1 hS => ?_)
  rw [hw]
  obtain ⟨hP, hD⟩ := pw_back hF ht hB
  clear hB hk1 hz1 hF
  generalize H1 = H at hP hS ⊢
  refine lv_istore_n (lv' := [(2, .int (s_X8_holder σ i)), (0, .ref h), (1, .ref (pa 2 i))]) hx hb dX8_hasHerdFor_5 rfl hl (by decide) rfl (fun ls hl => ?_)
  refine lv_iconst (v := (0 : Int32)) hx hb dX8_hasHerdFor_6 (by decide) ?_
  refine lv_istore_n (lv' := [(3, .int (0 : Int32)), (2, .int (s_X8_holder σ i)), (0, .ref h), (1, .ref (pa 2 i))]) hx hb dX8_hasHerdFor_7 rfl hl (by decide) rfl (fun ls hl => ?_)
  have hE_2 : ∀ (H : Heap) (locs : List Loc) (ls : Array Slot), s_X8_hasHerdFor_c8 () = R → va_P D vwCl (WC ca h ad pa σ) H → va_D A (WC ca h ad pa σ) → va_S A s.heap H locs → lv_has ls 4 [] → W p l e ((headSpec wsX8_hasHerdFor ({ frames := 2, cells := 0, slots := 0, locals := 42 })).room) s m ([.ref h, .ref (pa 2 i)] : List Value).toArray below meth c H locs 0 0 QQ (F0 m 50 ls []) := by
    intro  H locs ls hR hP hD hS hl
    have hR : (0 : Int32) = R := hR
    refine lv_iconst (v := (0 : Int32)) hx hb dX8_hasHerdFor_50 (by decide) ?_
    subst hR
    rw [hQ]
    exact W.zret (v := (0 : Int32)) hx hb hr rfl (fun t ht hW => ⟨⟨(0 : Int32), (), rfl, rfl, ⟨by rw [ht]; exact hP, va_K.moved hW.alike hK, by rw [← hAe]; exact hD⟩⟩, hS.F ht⟩) hS.2.2 dX8_hasHerdFor_51
  have hL_2 : ∀ (n k_2 : Nat) (hk_2 : lpk (σ 815 0) k_2 n) (H : Heap) (locs : List Loc) (ls : Array Slot), s_X8_hasHerdFor_c8r (iterR (s_X8_hasHerdFor_l8 σ i) n k_2 ()) = R → va_P D vwCl (WC ca h ad pa σ) H → va_D A (WC ca h ad pa σ) → va_S A s.heap H locs → lv_has ls 4 [(3, .int (nI k_2)), (2, .int (s_X8_holder σ i)), (0, .ref h), (1, .ref (pa 2 i))] → W p l e ((headSpec wsX8_hasHerdFor ({ frames := 2, cells := 0, slots := 0, locals := 42 })).room) s m ([.ref h, .ref (pa 2 i)] : List Value).toArray below meth c H locs 0 0 QQ (F0 m 8 ls []) := by
    intro n
    induction n with
    | zero =>
      intro k_2 hk_2 H locs ls hR hP hD hS hl
      refine lv_iload_n hx hb dX8_hasHerdFor_8 rfl (lv_at hl 0 rfl) ?_
      refine lv_aload_n hx hb dX8_hasHerdFor_9 rfl (lv_at hl 2 rfl) ?_
      refine va_get (D := D) (ci := 8) (v := .int (σ 815 0)) (C := RX8) (T := TX8) (N := 19) hx hb hts hu8 hown hK hP 0 wc_0 rfl 15 (by decide) (hts (.fieldLink RX8 88 "GrazeBook" "herdCount" "I") (List.mem_cons_of_mem _ mw_225)) (fun _ h9 => h9) rfl dX8_hasHerdFor_10 ?_
      refine lv_icmp_ge (tgt := 50) hx hb dX8_hasHerdFor_13 (by decide) (fun _ => ?_) (fun c_3 => absurd (ge_end hk_2) c_3)
      exact hE_2  _ _ _ hR hP hD hS (lv_sub hl [] rfl)
    | succ n ih =>
      intro k_2 hk_2 H locs ls hR hP hD hS hl
      obtain ⟨S_2, hB_2⟩ : ∃ s9, s_X8_hasHerdFor_l8 σ i k_2 () = s9 := ⟨_, rfl⟩
      have hR : s_X8_hasHerdFor_c8r (iterR1 (s_X8_hasHerdFor_l8 σ i) n k_2 S_2) = R := by rw [← hB_2]; exact hR
      have hB_2 : (if (σ 200 k_2) = (s_X8_holder σ i) then (if (s_X0_fits σ i k_2) = (0 : Int32) then (Sum.inr ()) else (Sum.inl (1 : Int32))) else (Sum.inr ())) = S_2 := hB_2
      refine lv_iload_n hx hb dX8_hasHerdFor_8 rfl (lv_at hl 0 rfl) ?_
      refine lv_aload_n hx hb dX8_hasHerdFor_9 rfl (lv_at hl 2 rfl) ?_
      refine va_get (D := D) (ci := 8) (v := .int (σ 815 0)) (C := RX8) (T := TX8) (N := 19) hx hb hts hu8 hown hK hP 0 wc_0 rfl 15 (by decide) (hts (.fieldLink RX8 88 "GrazeBook" "herdCount" "I") (List.mem_cons_of_mem _ mw_225)) (fun _ h9 => h9) rfl dX8_hasHerdFor_10 ?_
      refine lv_icmp_ge (tgt := 50) hx hb dX8_hasHerdFor_13 (by decide) (fun c_4 => absurd c_4 (ge_go hk_2)) (fun _ => ?_)
      refine lv_aload_n hx hb dX8_hasHerdFor_16 rfl (lv_at hl 2 rfl) ?_
      refine va_get (D := D) (ci := 8) (v := .ref (ad 805)) (C := RX8) (T := TX8) (N := 19) hx hb hts hu8 hown hK hP 0 wc_0 rfl 5 (by decide) (hts (.fieldLink RX8 40 "GrazeBook" "herds" "[LGrazeBook$Drove;") (List.mem_cons_of_mem _ mw_215)) (fun _ h9 => h9) rfl dX8_hasHerdFor_17 ?_
      refine lv_iload_n hx hb dX8_hasHerdFor_20 rfl (lv_at hl 0 rfl) ?_
      refine va_aldq_k (k := k_2) (b := pa 3 k_2) hx hb hK hP 9 5 wc_9 rfl (ix_cl hk_2) (rf_at (k_ltb hk_2)) (ix_loop (N := 20) hk_2 (ix_815 hI) (by decide) (by decide)) dX8_hasHerdFor_21 ?_
      refine va_get (D := D) (ci := 2) (v := .int (σ 200 k_2)) (C := RX2) (T := TX2) (N := 8) hx hb hts hu2 hown hK hP (pcD ca h ad pa σ k_2) (wc_aD (k_ltb hk_2)) rfl 0 (by decide) (hts (.fieldLink RX8 169 "GrazeBook$Drove" "owner" "I") (List.mem_cons_of_mem _ mw_441)) (fun _ h9 => h9) rfl dX8_hasHerdFor_22 ?_
      refine lv_iload_n hx hb dX8_hasHerdFor_25 rfl (lv_at hl 1 rfl) ?_
      refine lv_icmp_ne (tgt := 44) hx hb dX8_hasHerdFor_26 (by decide) (fun c_5 => ?_) (fun c_5 => ?_)
      · have hB_2 := (if_neg c_5).symm.trans hB_2
        refine lv_iinc (v := (nI (k_2 + 1))) (lv' := [(3, .int (nI (k_2 + 1))), (2, .int (s_X8_holder σ i)), (0, .ref h), (1, .ref (pa 2 i))]) hx hb dX8_hasHerdFor_44 hl (k := 0) rfl (by rw [show Int32.ofInt 1 = 1 from by decide]; exact nI_1 _) (by decide) rfl (fun ls hl => ?_)
        refine lv_goto (tgt := 8) hx hb dX8_hasHerdFor_47 (by decide) ?_
        subst hB_2
        exact ih (k_2 + 1)  (ge_next hk_2)  _ _ _ hR hP hD hS (lv_sub hl [0, 1, 2, 3] rfl)
      · have hB_2 := (if_pos c_5).symm.trans hB_2
        refine lv_aload_n hx hb dX8_hasHerdFor_29 rfl (lv_at hl 3 rfl) ?_
        refine lv_aload_n hx hb dX8_hasHerdFor_30 rfl (lv_at hl 2 rfl) ?_
        refine va_get (D := D) (ci := 8) (v := .ref (ad 805)) (C := RX8) (T := TX8) (N := 19) hx hb hts hu8 hown hK hP 0 wc_0 rfl 5 (by decide) (hts (.fieldLink RX8 40 "GrazeBook" "herds" "[LGrazeBook$Drove;") (List.mem_cons_of_mem _ mw_215)) (fun _ h9 => h9) rfl dX8_hasHerdFor_31 ?_
        refine lv_iload_n hx hb dX8_hasHerdFor_34 rfl (lv_at hl 0 rfl) ?_
        refine va_aldq_k (k := k_2) (b := pa 3 k_2) hx hb hK hP 9 5 wc_9 rfl (ix_cl hk_2) (rf_at (k_ltb hk_2)) (ix_loop (N := 20) hk_2 (ix_815 hI) (by decide) (by decide)) dX8_hasHerdFor_35 ?_
        have hF := pw_free hD hS hA
        refine va_calli (va_runV (As := [.ref (pa 3 k_2)]) (rest := []) ⟨hx, hb, hml, hown, hts⟩ (k_X0_fits l D ca h ad pa tb σ i k_2 H.size hI hi (k_ltb hk_2) _ rfl) (cwV 1 hts gX8_hasHerdFor_X0_fits rfl rfl rfl (by decide +kernel) ⟨Nat.le_of_ble_eq_true rfl, Nat.le_of_ble_eq_true rfl⟩) ⟨cw_blind, va_recv hK hP (ci := 0) (q0 := (pcC ca h ad pa σ i)) rfl (wc_aC hi), cw_give hP hK hD hZ hS hF⟩ rfl rfl hl.1 rfl (lv_room (Nat.le_of_ble_eq_true rfl)) dX8_hasHerdFor_36 ⟨Nat.le_of_ble_eq_true rfl, Nat.le_of_ble_eq_true rfl⟩) hS (fun q _ h => hF q h) hF (fun r_6 u t H1 locs ht hvm hw hB hz1 hk1 hS => ?_)
        rw [hw]
        obtain ⟨hP, hD⟩ := pw_back hF ht hB
        clear hB hk1 hz1 hF
        generalize H1 = H at hP hS ⊢
        refine lv_if_eq (tgt := 44) hx hb dX8_hasHerdFor_39 (by decide) (fun c_7 => ?_) (fun c_7 => ?_)
        · have hB_2 := (if_pos c_7).symm.trans hB_2
          refine lv_iinc (v := (nI (k_2 + 1))) (lv' := [(3, .int (nI (k_2 + 1))), (2, .int (s_X8_holder σ i)), (0, .ref h), (1, .ref (pa 2 i))]) hx hb dX8_hasHerdFor_44 hl (k := 0) rfl (by rw [show Int32.ofInt 1 = 1 from by decide]; exact nI_1 _) (by decide) rfl (fun ls hl => ?_)
          refine lv_goto (tgt := 8) hx hb dX8_hasHerdFor_47 (by decide) ?_
          subst hB_2
          exact ih (k_2 + 1)  (ge_next hk_2)  _ _ _ hR hP hD hS (lv_sub hl [0, 1, 2, 3] rfl)
        · have hB_2 := (if_neg c_7).symm.trans hB_2
          refine lv_iconst (v := (1 : Int32)) hx hb dX8_hasHerdFor_42 (by decide) ?_
          subst hB_2
          subst hR
          rw [hQ]
          exact W.zret (v := (1 : Int32)) hx hb hr rfl (fun t ht hW => ⟨⟨(1 : Int32), (), rfl, rfl, ⟨by rw [ht]; exact hP, va_K.moved hW.alike hK, by rw [← hAe]; exact hD⟩⟩, hS.F ht⟩) hS.2.2 dX8_hasHerdFor_43
  exact hL_2 _ 0  ⟨rfl, by decide⟩  _ _ _ hR hP hD hS (lv_sub hl [0, 1, 2, 3] rfl)

def s_X8_findUsed_c2  : St → St := fun x9 => match x9 with
  | τ_1 => τ_1
def s_X8_findUsed_l2  (k_1 : Nat) : St → St := fun x9 => match x9 with
  | τ_1 => (if (s_X0_isInForce τ_1 k_1 (τ_1 816 0)) = (0 : Int32) then τ_1 else (if (s_X8_hasHerdFor τ_1 k_1) = (0 : Int32) then τ_1 else (if (s_X8_countingParts τ_1 (nI k_1)) ≤ (0 : Int32) then τ_1 else (if (s_X8_isRight (put τ_1 7 k_1 (τ_1 816 0)) (τ_1 5 k_1)) = (0 : Int32) then (put τ_1 7 k_1 (τ_1 816 0)) else (put (put τ_1 7 k_1 (τ_1 816 0)) 7 ((τ_1 5 k_1).toNatClampNeg) (τ_1 816 0))))))
def s_X8_findUsed (σ : St) : St := (s_X8_findUsed_c2 (iter s_X8_findUsed_l2 ((σ 814 0).toNatClampNeg - 0) 0 σ))
theorem fr_s_X8_findUsed_c2  (s : St) {f : Nat} (h7 : f ≠ 7) : (s_X8_findUsed_c2 s) f = s f := by
  unfold s_X8_findUsed_c2
  all_goals ((try dsimp only) <;> ((repeat' split) <;> (try simp only [put_fr, ne_eq, not_false_eq_true, h7])))
theorem fr_s_X8_findUsed_l2  (k_1 : Nat) (s : St) {f : Nat} (h7 : f ≠ 7) : (s_X8_findUsed_l2 k_1 s) f = s f := by
  unfold s_X8_findUsed_l2
  all_goals ((try dsimp only) <;> ((repeat' split) <;> (try simp only [put_fr, ne_eq, not_false_eq_true, h7, fr_s_X8_findUsed_c2])))
theorem fri_s_X8_findUsed_l2  (n k : Nat) (s : St) {f : Nat} (h7 : f ≠ 7) : (iter s_X8_findUsed_l2 n k s) f = s f := iter_fr (P := (fun s => s f)) (fun k s => fr_s_X8_findUsed_l2  k s h7) n k s
theorem fr_s_X8_findUsed (σ : St) {f : Nat} (h7 : f ≠ 7) : (s_X8_findUsed σ ) f = σ f := by
  unfold s_X8_findUsed
  all_goals ((try dsimp only) <;> ((repeat' split) <;> (try simp only [put_fr, ne_eq, not_false_eq_true, h7, fr_s_X8_findUsed_c2, fri_s_X8_findUsed_l2])))
set_option maxHeartbeats 1000000 in
set_option maxRecDepth 100000 in
theorem k_X8_findUsed (l : Launch) (D : va_G) (ca : Nat → ClassId) (h : Nat) (ad : Nat → Nat) (pa : Nat → Nat → Nat) (tb : Nat) (σ : St) (sz : Nat) (hI : IX σ)  (R : St) (hR : s_X8_findUsed σ = R) : Met l yX8_findUsed wsX8_findUsed ({ frames := 3, cells := 0, slots := 0, locals := 65 }) (va_Pc [.ref h] (cw_pre D ca (WC ca h ad pa σ) sz tb)) (va_Qv (fun _ : Unit => True) (fun (_ : Unit) (t : State) => pw_post D ca (WC ca h ad pa σ) sz (WC ca h ad pa R) t ∧ IX R) (va_A (WC ca h ad pa σ) sz)) 0 0 (va_A (WC ca h ad pa σ) sz) := by
  refine Met.ofW (cc := cX8_findUsed) (maxL := 3) (ret := none) (by decide) rfl ?_
  intro p e s m args below meth c s₁ B hml hv
  obtain ⟨rfl, ⟨hsz, hP, hK, hD0⟩, hZ⟩ := hv
  have hx := B.exec
  have hb := B.bytes
  have hr := B.returns
  have hts := atoms_spec (ws := wsX8_findUsed) B.pre
  have hown : s.vm.findClass RX8 = some m.cls := findClass_of_methodNamed B.named
  have hlocks := B.notSynchronized
  have hu0 : ∀ w ∈ u_ws RX0 TX0 9, w ∈ wsX8_findUsed := fun w h => List.mem_cons_of_mem _ (uw0 w h)
  have hu8 : ∀ w ∈ u_ws RX8 TX8 19, w ∈ wsX8_findUsed := fun w h => List.mem_cons_of_mem _ (uw8 w h)
  subst hsz
  have hD := hD0.self (sz := s.heap.size)
  obtain ⟨A, hAe⟩ : ∃ A, A = va_A (WC ca h ad pa σ) s.heap.size := ⟨_, rfl⟩
  rw [← hAe] at hD hZ ⊢
  have hA : ∀ q : Nat, s.heap.size ≤ q → A q := fun q h => by rw [hAe]; exact Or.inr h
  have hS : va_S A s.heap s.heap [] := va_S.rf
  have hl := lv_entry ([.ref h]) (n := 3) (Nat.le_of_ble_eq_true rfl)
  rw [lg_entry_eq]
  generalize (lg_sl ([.ref h]) ++ List.replicate (3 - (lg_sl ([.ref h])).length) Slot.unset).toArray = ls at hl ⊢
  have hl : lv_has ls 3 [(0, .ref h)] := hl
  obtain ⟨H, hH⟩ : ∃ H, H = s.heap := ⟨_, rfl⟩
  have hP : va_P D vwCl (WC ca h ad pa σ) H := by rw [hH]; exact hP
  have hS : va_S A s.heap H [] := by rw [hH]; exact hS
  obtain ⟨QQ, hQ⟩ : ∃ Q9, Q9 = MQ below (va_Qv (fun _ : Unit => True) (fun (_ : Unit) (t : State) => pw_post D ca (WC ca h ad pa σ) s.heap.size (WC ca h ad pa R) t ∧ IX R) A) ([.ref h] : List Value).toArray s 0 0 A := ⟨_, rfl⟩
  rw [← hQ]
  show W _ _ _ _ _ _ _ _ _ _ s.heap _ _ _ _ _
  rw [← hH]
  have hR : (s_X8_findUsed_c2 (iter s_X8_findUsed_l2 ((σ 814 0).toNatClampNeg - 0) 0 σ)) = R := hR
  refine lv_iconst (v := (0 : Int32)) hx hb dX8_findUsed_0 (by decide) ?_
  refine lv_istore_n (lv' := [(1, .int (0 : Int32)), (0, .ref h)]) hx hb dX8_findUsed_1 rfl hl (by decide) rfl (fun ls hl => ?_)
  have hE_1 : ∀ (τ_1 : St) (hI_1 : IX τ_1) (hf_1 : τ_1 811 = σ 811 ∧ τ_1 812 = σ 812 ∧ τ_1 814 = σ 814 ∧ τ_1 815 = σ 815) (H : Heap) (locs : List Loc) (ls : Array Slot), s_X8_findUsed_c2 τ_1 = R → va_P D vwCl (WC ca h ad pa τ_1) H → va_D A (WC ca h ad pa τ_1) → va_S A s.heap H locs → lv_has ls 3 [] → W p l e ((headSpec wsX8_findUsed ({ frames := 3, cells := 0, slots := 0, locals := 65 })).room) s m ([.ref h] : List Value).toArray below meth c H locs 0 0 QQ (F0 m 85 ls []) := by
    intro τ_1 hI_1 hf_1 H locs ls hR hP hD hS hl
    have hR : τ_1 = R := hR
    have hI9 : IX τ_1 := hI_1
    subst hR
    rw [hQ]
    exact W.vret hx hb hr (fun t ht hW => ⟨⟨(), rfl, trivial, ⟨by rw [ht]; exact hP, va_K.moved hW.alike hK, by rw [← hAe]; exact hD⟩, hI9⟩, hS.F ht⟩) hS.2.2 dX8_findUsed_85
  have hL_1 : ∀ (n k_1 : Nat) (τ_1 : St) (hk_1 : lpk (τ_1 814 0) k_1 n) (hI_1 : IX τ_1) (hf_1 : τ_1 811 = σ 811 ∧ τ_1 812 = σ 812 ∧ τ_1 814 = σ 814 ∧ τ_1 815 = σ 815) (H : Heap) (locs : List Loc) (ls : Array Slot), s_X8_findUsed_c2 (iter s_X8_findUsed_l2 n k_1 τ_1) = R → va_P D vwCl (WC ca h ad pa τ_1) H → va_D A (WC ca h ad pa τ_1) → va_S A s.heap H locs → lv_has ls 3 [(1, .int (nI k_1)), (0, .ref h)] → W p l e ((headSpec wsX8_findUsed ({ frames := 3, cells := 0, slots := 0, locals := 65 })).room) s m ([.ref h] : List Value).toArray below meth c H locs 0 0 QQ (F0 m 2 ls []) := by
    intro n
    induction n with
    | zero =>
      intro k_1 τ_1 hk_1 hI_1 hf_1 H locs ls hR hP hD hS hl
      refine lv_iload_n hx hb dX8_findUsed_2 rfl (lv_at hl 0 rfl) ?_
      refine lv_aload_n hx hb dX8_findUsed_3 rfl (lv_at hl 1 rfl) ?_
      refine va_get (D := D) (ci := 8) (v := .int (τ_1 814 0)) (C := RX8) (T := TX8) (N := 19) hx hb hts hu8 hown hK hP 0 wc_0 rfl 14 (by decide) (hts (.fieldLink RX8 85 "GrazeBook" "rightCount" "I") (List.mem_cons_of_mem _ mw_224)) (fun _ h9 => h9) rfl dX8_findUsed_4 ?_
      refine lv_icmp_ge (tgt := 85) hx hb dX8_findUsed_7 (by decide) (fun _ => ?_) (fun c_2 => absurd (ge_end hk_1) c_2)
      exact hE_1 τ_1 hI_1 hf_1 _ _ _ hR hP hD hS (lv_sub hl [] rfl)
    | succ n ih =>
      intro k_1 τ_1 hk_1 hI_1 hf_1 H locs ls hR hP hD hS hl
      obtain ⟨S_1, hB_1⟩ : ∃ s9, s_X8_findUsed_l2 k_1 τ_1 = s9 := ⟨_, rfl⟩
      have hR : s_X8_findUsed_c2 (iter s_X8_findUsed_l2 n (k_1 + 1) S_1) = R := by rw [← hB_1]; exact hR
      have hB_1 : (if (s_X0_isInForce τ_1 k_1 (τ_1 816 0)) = (0 : Int32) then τ_1 else (if (s_X8_hasHerdFor τ_1 k_1) = (0 : Int32) then τ_1 else (if (s_X8_countingParts τ_1 (nI k_1)) ≤ (0 : Int32) then τ_1 else (if (s_X8_isRight (put τ_1 7 k_1 (τ_1 816 0)) (τ_1 5 k_1)) = (0 : Int32) then (put τ_1 7 k_1 (τ_1 816 0)) else (put (put τ_1 7 k_1 (τ_1 816 0)) 7 ((τ_1 5 k_1).toNatClampNeg) (τ_1 816 0)))))) = S_1 := hB_1
      refine lv_iload_n hx hb dX8_findUsed_2 rfl (lv_at hl 0 rfl) ?_
      refine lv_aload_n hx hb dX8_findUsed_3 rfl (lv_at hl 1 rfl) ?_
      refine va_get (D := D) (ci := 8) (v := .int (τ_1 814 0)) (C := RX8) (T := TX8) (N := 19) hx hb hts hu8 hown hK hP 0 wc_0 rfl 14 (by decide) (hts (.fieldLink RX8 85 "GrazeBook" "rightCount" "I") (List.mem_cons_of_mem _ mw_224)) (fun _ h9 => h9) rfl dX8_findUsed_4 ?_
      refine lv_icmp_ge (tgt := 85) hx hb dX8_findUsed_7 (by decide) (fun c_3 => absurd c_3 (ge_go hk_1)) (fun _ => ?_)
      refine lv_aload_n hx hb dX8_findUsed_10 rfl (lv_at hl 1 rfl) ?_
      refine va_get (D := D) (ci := 8) (v := .ref (ad 804)) (C := RX8) (T := TX8) (N := 19) hx hb hts hu8 hown hK hP 0 wc_0 rfl 4 (by decide) (hts (.fieldLink RX8 34 "GrazeBook" "rights" "[LGrazeBook$Claim;") (List.mem_cons_of_mem _ mw_214)) (fun _ h9 => h9) rfl dX8_findUsed_11 ?_
      refine lv_iload_n hx hb dX8_findUsed_14 rfl (lv_at hl 0 rfl) ?_
      refine va_aldq_k (k := k_1) (b := pa 2 k_1) hx hb hK hP 8 4 wc_8 rfl (ix_cl hk_1) (rf_at (k_ltb hk_1)) (ix_loop (N := 60) hk_1 (ix_814 hI_1) (by decide) (by decide)) dX8_findUsed_15 ?_
      refine lv_astore_n (lv' := [(2, .ref (pa 2 k_1)), (1, .int (nI k_1)), (0, .ref h)]) hx hb dX8_findUsed_16 rfl hl (by decide) rfl (fun ls hl => ?_)
      refine lv_aload_n hx hb dX8_findUsed_17 rfl (lv_at hl 0 rfl) ?_
      refine lv_aload_n hx hb dX8_findUsed_18 rfl (lv_at hl 2 rfl) ?_
      refine va_get (D := D) (ci := 8) (v := .int (τ_1 816 0)) (C := RX8) (T := TX8) (N := 19) hx hb hts hu8 hown hK hP 0 wc_0 rfl 16 (by decide) (hts (.fieldLink RX8 91 "GrazeBook" "day" "I") (List.mem_cons_of_mem _ mw_226)) (fun _ h9 => h9) rfl dX8_findUsed_19 ?_
      have hF := pw_free hD hS hA
      refine va_calli (va_runV (As := [.int (τ_1 816 0)]) (rest := []) ⟨hx, hb, hml, hown, hts⟩ (k_X0_isInForce l D ca h ad pa tb τ_1 k_1 (τ_1 816 0) H.size hI_1 (k_ltb hk_1) _ rfl) (cwV 1 hts gX8_findUsed_X0_isInForce rfl rfl rfl (by decide +kernel) ⟨Nat.le_of_ble_eq_true rfl, Nat.le_of_ble_eq_true rfl⟩) ⟨cw_blind, va_recv hK hP (ci := 0) (q0 := (pcC ca h ad pa τ_1 k_1)) rfl (wc_aC (k_ltb hk_1)), cw_give hP hK hD hZ hS hF⟩ rfl rfl hl.1 rfl (lv_room (Nat.le_of_ble_eq_true rfl)) dX8_findUsed_22 ⟨Nat.le_of_ble_eq_true rfl, Nat.le_of_ble_eq_true rfl⟩) hS (fun q _ h => hF q h) hF (fun r_4 u t H1 locs ht hvm hw hB hz1 hk1 hS => ?_)
      rw [hw]
      obtain ⟨hP, hD⟩ := pw_back hF ht hB
      clear hB hk1 hz1 hF
      generalize H1 = H at hP hS ⊢
      refine lv_if_eq (tgt := 79) hx hb dX8_findUsed_25 (by decide) (fun c_5 => ?_) (fun c_5 => ?_)
      · have hB_1 := (if_pos c_5).symm.trans hB_1
        refine lv_iinc (v := (nI (k_1 + 1))) (lv' := [(1, .int (nI (k_1 + 1))), (2, .ref (pa 2 k_1)), (0, .ref h)]) hx hb dX8_findUsed_79 hl (k := 1) rfl (by rw [show Int32.ofInt 1 = 1 from by decide]; exact nI_1 _) (by decide) rfl (fun ls hl => ?_)
        refine lv_goto (tgt := 2) hx hb dX8_findUsed_82 (by decide) ?_
        subst hB_1
        exact ih (k_1 + 1) τ_1 (ge_next hk_1) hI_1 (⟨hf_1.1, hf_1.2.1, hf_1.2.2.1, hf_1.2.2.2⟩) _ _ _ hR hP hD hS (lv_sub hl [0, 2] rfl)
      · have hB_1 := (if_neg c_5).symm.trans hB_1
        refine lv_aload_n hx hb dX8_findUsed_28 rfl (lv_at hl 2 rfl) ?_
        refine lv_aload_n hx hb dX8_findUsed_29 rfl (lv_at hl 0 rfl) ?_
        have hF := pw_free hD hS hA
        refine va_calli (va_runV (As := [.ref (pa 2 k_1)]) (rest := []) ⟨hx, hb, hml, hown, hts⟩ (k_X8_hasHerdFor l D ca h ad pa tb τ_1 k_1 H.size hI_1 (k_ltb hk_1) _ rfl) (cwV 1 hts gX8_findUsed_X8_hasHerdFor rfl rfl rfl (by decide +kernel) ⟨Nat.le_of_ble_eq_true rfl, Nat.le_of_ble_eq_true rfl⟩) ⟨cw_blind, va_recv hK hP (ci := 8) (q0 := 0) rfl wc_0, cw_give hP hK hD hZ hS hF⟩ rfl rfl hl.1 rfl (lv_room (Nat.le_of_ble_eq_true rfl)) dX8_findUsed_30 ⟨Nat.le_of_ble_eq_true rfl, Nat.le_of_ble_eq_true rfl⟩) hS (fun q _ h => hF q h) hF (fun r_6 u t H1 locs ht hvm hw hB hz1 hk1 hS => ?_)
        rw [hw]
        obtain ⟨hP, hD⟩ := pw_back hF ht hB
        clear hB hk1 hz1 hF
        generalize H1 = H at hP hS ⊢
        refine lv_if_eq (tgt := 79) hx hb dX8_findUsed_33 (by decide) (fun c_7 => ?_) (fun c_7 => ?_)
        · have hB_1 := (if_pos c_7).symm.trans hB_1
          refine lv_iinc (v := (nI (k_1 + 1))) (lv' := [(1, .int (nI (k_1 + 1))), (2, .ref (pa 2 k_1)), (0, .ref h)]) hx hb dX8_findUsed_79 hl (k := 1) rfl (by rw [show Int32.ofInt 1 = 1 from by decide]; exact nI_1 _) (by decide) rfl (fun ls hl => ?_)
          refine lv_goto (tgt := 2) hx hb dX8_findUsed_82 (by decide) ?_
          subst hB_1
          exact ih (k_1 + 1) τ_1 (ge_next hk_1) hI_1 (⟨hf_1.1, hf_1.2.1, hf_1.2.2.1, hf_1.2.2.2⟩) _ _ _ hR hP hD hS (lv_sub hl [0, 2] rfl)
        · have hB_1 := (if_neg c_7).symm.trans hB_1
          refine lv_aload_n hx hb dX8_findUsed_36 rfl (lv_at hl 2 rfl) ?_
          refine lv_iload_n hx hb dX8_findUsed_37 rfl (lv_at hl 1 rfl) ?_
          have hF := pw_free hD hS hA
          refine va_calli (va_runV (As := [.int (nI k_1)]) (rest := []) ⟨hx, hb, hml, hown, hts⟩ (k_X8_countingParts l D ca h ad pa tb τ_1 (nI k_1) H.size hI_1 (ix_loop (N := 60) hk_1 (ix_814 hI_1) (by decide) (by decide)) (by rw [show (nI k_1).toNatClampNeg = k_1 from (ix_cl hk_1)]; exact (k_ltb hk_1)) _ rfl) (cwV 1 hts gX8_findUsed_X8_countingParts rfl rfl rfl (by decide +kernel) ⟨Nat.le_of_ble_eq_true rfl, Nat.le_of_ble_eq_true rfl⟩) ⟨cw_blind, va_recv hK hP (ci := 8) (q0 := 0) rfl wc_0, cw_give hP hK hD hZ hS hF⟩ rfl rfl hl.1 rfl (lv_room (Nat.le_of_ble_eq_true rfl)) dX8_findUsed_38 ⟨Nat.le_of_ble_eq_true rfl, Nat.le_of_ble_eq_true rfl⟩) hS (fun q _ h => hF q h) hF (fun r_8 u t H1 locs ht hvm hw hB hz1 hk1 hS => ?_)
          rw [hw]
          obtain ⟨hP, hD⟩ := pw_back hF ht hB
          clear hB hk1 hz1 hF
          generalize H1 = H at hP hS ⊢
          refine lv_if_le (tgt := 79) hx hb dX8_findUsed_41 (by decide) (fun c_9 => ?_) (fun c_9 => ?_)
          · have hB_1 := (if_pos c_9).symm.trans hB_1
            refine lv_iinc (v := (nI (k_1 + 1))) (lv' := [(1, .int (nI (k_1 + 1))), (2, .ref (pa 2 k_1)), (0, .ref h)]) hx hb dX8_findUsed_79 hl (k := 1) rfl (by rw [show Int32.ofInt 1 = 1 from by decide]; exact nI_1 _) (by decide) rfl (fun ls hl => ?_)
            refine lv_goto (tgt := 2) hx hb dX8_findUsed_82 (by decide) ?_
            subst hB_1
            exact ih (k_1 + 1) τ_1 (ge_next hk_1) hI_1 (⟨hf_1.1, hf_1.2.1, hf_1.2.2.1, hf_1.2.2.2⟩) _ _ _ hR hP hD hS (lv_sub hl [0, 2] rfl)
          · have hB_1 := (if_neg c_9).symm.trans hB_1
            refine lv_aload_n hx hb dX8_findUsed_44 rfl (lv_at hl 0 rfl) ?_
            refine lv_aload_n hx hb dX8_findUsed_45 rfl (lv_at hl 2 rfl) ?_
            refine va_get (D := D) (ci := 8) (v := .int (τ_1 816 0)) (C := RX8) (T := TX8) (N := 19) hx hb hts hu8 hown hK hP 0 wc_0 rfl 16 (by decide) (hts (.fieldLink RX8 91 "GrazeBook" "day" "I") (List.mem_cons_of_mem _ mw_226)) (fun _ h9 => h9) rfl dX8_findUsed_46 ?_
            refine va_put (D := D) (ci := 0) (v := .int (τ_1 816 0)) (ty := .int) (C := RX0) (T := TX0) (N := 9) hx hb hts hu0 tyX0 tyX0_ok nmX0 hown hK hP hD hS (pcC ca h ad pa τ_1 k_1) (wc_aC (k_ltb hk_1)) rfl 7 (by decide) (hts (.fieldLink RX8 269 "GrazeBook$Claim" "usedOn" "I") (List.mem_cons_of_mem _ mw_373)) (fun _ h9 => h9) rfl (by decide +kernel) rfl rfl (Nat.le_of_ble_eq_true rfl) dX8_findUsed_49 (fun H locs hP hD hS => ?_)
            rw [wc_sC7 (σ := τ_1) (k_ltb hk_1)] at hP hD
            refine lv_aload_n hx hb dX8_findUsed_52 rfl (lv_at hl 2 rfl) ?_
            refine lv_aload_n hx hb dX8_findUsed_53 rfl (lv_at hl 0 rfl) ?_
            refine va_get (D := D) (ci := 0) (v := .int (τ_1 5 k_1)) (C := RX0) (T := TX0) (N := 9) hx hb hts hu0 hown hK hP (pcC ca h ad pa (put τ_1 7 k_1 (τ_1 816 0)) k_1) (wc_aC (k_ltb hk_1)) rfl 5 (by decide) (hts (.fieldLink RX8 266 "GrazeBook$Claim" "source" "I") (List.mem_cons_of_mem _ mw_369)) (fun _ h9 => h9) rfl dX8_findUsed_54 ?_
            have hF := pw_free hD hS hA
            refine va_calli (va_runV (As := [.int (τ_1 5 k_1)]) (rest := []) ⟨hx, hb, hml, hown, hts⟩ (k_X8_isRight l D ca h ad pa tb (put τ_1 7 k_1 (τ_1 816 0)) (τ_1 5 k_1) H.size hI_1 _ rfl) (cwV 1 hts gX8_findUsed_X8_isRight rfl rfl rfl (by decide +kernel) ⟨Nat.le_of_ble_eq_true rfl, Nat.le_of_ble_eq_true rfl⟩) ⟨cw_blind, va_recv hK hP (ci := 8) (q0 := 0) rfl wc_0, cw_give hP hK hD hZ hS hF⟩ rfl rfl hl.1 rfl (lv_room (Nat.le_of_ble_eq_true rfl)) dX8_findUsed_57 ⟨Nat.le_of_ble_eq_true rfl, Nat.le_of_ble_eq_true rfl⟩) hS (fun q _ h => hF q h) hF (fun r_10 u t H1 locs ht hvm hw hB hz1 hk1 hS => ?_)
            rw [hw]
            obtain ⟨hP, hD⟩ := pw_back hF ht hB
            clear hB hk1 hz1 hF
            generalize H1 = H at hP hS ⊢
            refine lv_if_eq (tgt := 79) hx hb dX8_findUsed_60 (by decide) (fun c_11 => ?_) (fun c_11 => ?_)
            · have hB_1 := (if_pos c_11).symm.trans hB_1
              refine lv_iinc (v := (nI (k_1 + 1))) (lv' := [(1, .int (nI (k_1 + 1))), (2, .ref (pa 2 k_1)), (0, .ref h)]) hx hb dX8_findUsed_79 hl (k := 1) rfl (by rw [show Int32.ofInt 1 = 1 from by decide]; exact nI_1 _) (by decide) rfl (fun ls hl => ?_)
              refine lv_goto (tgt := 2) hx hb dX8_findUsed_82 (by decide) ?_
              subst hB_1
              exact ih (k_1 + 1) (put τ_1 7 k_1 (τ_1 816 0)) (ge_next hk_1) hI_1 (⟨hf_1.1, hf_1.2.1, hf_1.2.2.1, hf_1.2.2.2⟩) _ _ _ hR hP hD hS (lv_sub hl [0, 2] rfl)
            · have hB_1 := (if_neg c_11).symm.trans hB_1
              refine lv_aload_n hx hb dX8_findUsed_63 rfl (lv_at hl 2 rfl) ?_
              refine va_get (D := D) (ci := 8) (v := .ref (ad 804)) (C := RX8) (T := TX8) (N := 19) hx hb hts hu8 hown hK hP 0 wc_0 rfl 4 (by decide) (hts (.fieldLink RX8 34 "GrazeBook" "rights" "[LGrazeBook$Claim;") (List.mem_cons_of_mem _ mw_214)) (fun _ h9 => h9) rfl dX8_findUsed_64 ?_
              refine lv_aload_n hx hb dX8_findUsed_67 rfl (lv_at hl 0 rfl) ?_
              refine va_get (D := D) (ci := 0) (v := .int (τ_1 5 k_1)) (C := RX0) (T := TX0) (N := 9) hx hb hts hu0 hown hK hP (pcC ca h ad pa (put τ_1 7 k_1 (τ_1 816 0)) k_1) (wc_aC (k_ltb hk_1)) rfl 5 (by decide) (hts (.fieldLink RX8 266 "GrazeBook$Claim" "source" "I") (List.mem_cons_of_mem _ mw_369)) (fun _ h9 => h9) rfl dX8_findUsed_68 ?_
              refine va_aldq_k (k := ((τ_1 5 k_1).toNatClampNeg)) (b := pa 2 ((τ_1 5 k_1).toNatClampNeg)) hx hb hK hP 8 4 wc_8 rfl rfl (rf_at (isb_Right c_11)) (isx_Right c_11 hI_1) dX8_findUsed_71 ?_
              refine lv_aload_n hx hb dX8_findUsed_72 rfl (lv_at hl 2 rfl) ?_
              refine va_get (D := D) (ci := 8) (v := .int (τ_1 816 0)) (C := RX8) (T := TX8) (N := 19) hx hb hts hu8 hown hK hP 0 wc_0 rfl 16 (by decide) (hts (.fieldLink RX8 91 "GrazeBook" "day" "I") (List.mem_cons_of_mem _ mw_226)) (fun _ h9 => h9) rfl dX8_findUsed_73 ?_
              refine va_put (D := D) (ci := 0) (v := .int (τ_1 816 0)) (ty := .int) (C := RX0) (T := TX0) (N := 9) hx hb hts hu0 tyX0 tyX0_ok nmX0 hown hK hP hD hS (pcC ca h ad pa (put τ_1 7 k_1 (τ_1 816 0)) ((τ_1 5 k_1).toNatClampNeg)) (wc_aC (isb_Right c_11)) rfl 7 (by decide) (hts (.fieldLink RX8 269 "GrazeBook$Claim" "usedOn" "I") (List.mem_cons_of_mem _ mw_373)) (fun _ h9 => h9) rfl (by decide +kernel) rfl rfl (Nat.le_of_ble_eq_true rfl) dX8_findUsed_76 (fun H locs hP hD hS => ?_)
              rw [wc_sC7 (σ := (put τ_1 7 k_1 (τ_1 816 0))) (isb_Right c_11)] at hP hD
              refine lv_iinc (v := (nI (k_1 + 1))) (lv' := [(1, .int (nI (k_1 + 1))), (2, .ref (pa 2 k_1)), (0, .ref h)]) hx hb dX8_findUsed_79 hl (k := 1) rfl (by rw [show Int32.ofInt 1 = 1 from by decide]; exact nI_1 _) (by decide) rfl (fun ls hl => ?_)
              refine lv_goto (tgt := 2) hx hb dX8_findUsed_82 (by decide) ?_
              subst hB_1
              exact ih (k_1 + 1) (put (put τ_1 7 k_1 (τ_1 816 0)) 7 ((τ_1 5 k_1).toNatClampNeg) (τ_1 816 0)) (ge_next hk_1) hI_1 (⟨hf_1.1, hf_1.2.1, hf_1.2.2.1, hf_1.2.2.2⟩) _ _ _ hR hP hD hS (lv_sub hl [0, 2] rfl)
  exact hL_1 _ 0 σ ⟨rfl, by decide⟩ hI (⟨rfl, rfl, rfl, rfl⟩) _ _ _ hR hP hD hS (lv_sub hl [0, 1] rfl)

def s_X8_lapse_c2  : St → St := fun x9 => match x9 with
  | τ_1 => τ_1
def s_X8_lapse_l2  (k_1 : Nat) : St → St := fun x9 => match x9 with
  | τ_1 => (if ((τ_1 816 0) - (τ_1 2 k_1)) < (100 : Int32) then τ_1 else (if (s_X0_isInForce τ_1 k_1 (τ_1 816 0)) = (0 : Int32) then τ_1 else (if ((τ_1 816 0) - (100 : Int32)) < (τ_1 7 k_1) then τ_1 else (put (put τ_1 8 k_1 (1 : Int32)) 818 0 ((τ_1 818 0) + (1 : Int32))))))
def s_X8_lapse (σ : St) : St := (s_X8_lapse_c2 (iter s_X8_lapse_l2 ((σ 814 0).toNatClampNeg - 0) 0 σ))
theorem fr_s_X8_lapse_c2  (s : St) {f : Nat} (h8 : f ≠ 8) (h818 : f ≠ 818) : (s_X8_lapse_c2 s) f = s f := by
  unfold s_X8_lapse_c2
  all_goals ((try dsimp only) <;> ((repeat' split) <;> (try simp only [put_fr, ne_eq, not_false_eq_true, h8, h818])))
theorem fr_s_X8_lapse_l2  (k_1 : Nat) (s : St) {f : Nat} (h8 : f ≠ 8) (h818 : f ≠ 818) : (s_X8_lapse_l2 k_1 s) f = s f := by
  unfold s_X8_lapse_l2
  all_goals ((try dsimp only) <;> ((repeat' split) <;> (try simp only [put_fr, ne_eq, not_false_eq_true, h8, h818, fr_s_X8_lapse_c2])))
theorem fri_s_X8_lapse_l2  (n k : Nat) (s : St) {f : Nat} (h8 : f ≠ 8) (h818 : f ≠ 818) : (iter s_X8_lapse_l2 n k s) f = s f := iter_fr (P := (fun s => s f)) (fun k s => fr_s_X8_lapse_l2  k s h8 h818) n k s
theorem fr_s_X8_lapse (σ : St) {f : Nat} (h8 : f ≠ 8) (h818 : f ≠ 818) : (s_X8_lapse σ ) f = σ f := by
  unfold s_X8_lapse
  all_goals ((try dsimp only) <;> ((repeat' split) <;> (try simp only [put_fr, ne_eq, not_false_eq_true, h8, h818, fr_s_X8_lapse_c2, fri_s_X8_lapse_l2])))
set_option maxHeartbeats 1000000 in
set_option maxRecDepth 100000 in
theorem k_X8_lapse (l : Launch) (D : va_G) (ca : Nat → ClassId) (h : Nat) (ad : Nat → Nat) (pa : Nat → Nat → Nat) (tb : Nat) (σ : St) (sz : Nat) (hI : IX σ)  (R : St) (hR : s_X8_lapse σ = R) : Met l yX8_lapse wsX8_lapse ({ frames := 1, cells := 0, slots := 0, locals := 21 }) (va_Pc [.ref h] (cw_pre D ca (WC ca h ad pa σ) sz tb)) (va_Qv (fun _ : Unit => True) (fun (_ : Unit) (t : State) => pw_post D ca (WC ca h ad pa σ) sz (WC ca h ad pa R) t ∧ IX R) (va_A (WC ca h ad pa σ) sz)) 0 0 (va_A (WC ca h ad pa σ) sz) := by
  refine Met.ofW (cc := cX8_lapse) (maxL := 4) (ret := none) (by decide) rfl ?_
  intro p e s m args below meth c s₁ B hml hv
  obtain ⟨rfl, ⟨hsz, hP, hK, hD0⟩, hZ⟩ := hv
  have hx := B.exec
  have hb := B.bytes
  have hr := B.returns
  have hts := atoms_spec (ws := wsX8_lapse) B.pre
  have hown : s.vm.findClass RX8 = some m.cls := findClass_of_methodNamed B.named
  have hlocks := B.notSynchronized
  have hu0 : ∀ w ∈ u_ws RX0 TX0 9, w ∈ wsX8_lapse := fun w h => List.mem_cons_of_mem _ (uw0 w h)
  have hu8 : ∀ w ∈ u_ws RX8 TX8 19, w ∈ wsX8_lapse := fun w h => List.mem_cons_of_mem _ (uw8 w h)
  subst hsz
  have hD := hD0.self (sz := s.heap.size)
  obtain ⟨A, hAe⟩ : ∃ A, A = va_A (WC ca h ad pa σ) s.heap.size := ⟨_, rfl⟩
  rw [← hAe] at hD hZ ⊢
  have hA : ∀ q : Nat, s.heap.size ≤ q → A q := fun q h => by rw [hAe]; exact Or.inr h
  have hS : va_S A s.heap s.heap [] := va_S.rf
  have hl := lv_entry ([.ref h]) (n := 4) (Nat.le_of_ble_eq_true rfl)
  rw [lg_entry_eq]
  generalize (lg_sl ([.ref h]) ++ List.replicate (4 - (lg_sl ([.ref h])).length) Slot.unset).toArray = ls at hl ⊢
  have hl : lv_has ls 4 [(0, .ref h)] := hl
  obtain ⟨H, hH⟩ : ∃ H, H = s.heap := ⟨_, rfl⟩
  have hP : va_P D vwCl (WC ca h ad pa σ) H := by rw [hH]; exact hP
  have hS : va_S A s.heap H [] := by rw [hH]; exact hS
  obtain ⟨QQ, hQ⟩ : ∃ Q9, Q9 = MQ below (va_Qv (fun _ : Unit => True) (fun (_ : Unit) (t : State) => pw_post D ca (WC ca h ad pa σ) s.heap.size (WC ca h ad pa R) t ∧ IX R) A) ([.ref h] : List Value).toArray s 0 0 A := ⟨_, rfl⟩
  rw [← hQ]
  show W _ _ _ _ _ _ _ _ _ _ s.heap _ _ _ _ _
  rw [← hH]
  have hR : (s_X8_lapse_c2 (iter s_X8_lapse_l2 ((σ 814 0).toNatClampNeg - 0) 0 σ)) = R := hR
  refine lv_iconst (v := (0 : Int32)) hx hb dX8_lapse_0 (by decide) ?_
  refine lv_istore_n (lv' := [(1, .int (0 : Int32)), (0, .ref h)]) hx hb dX8_lapse_1 rfl hl (by decide) rfl (fun ls hl => ?_)
  have hE_1 : ∀ (τ_1 : St) (hI_1 : IX τ_1) (hf_1 : τ_1 811 = σ 811 ∧ τ_1 812 = σ 812 ∧ τ_1 814 = σ 814 ∧ τ_1 815 = σ 815) (H : Heap) (locs : List Loc) (ls : Array Slot), s_X8_lapse_c2 τ_1 = R → va_P D vwCl (WC ca h ad pa τ_1) H → va_D A (WC ca h ad pa τ_1) → va_S A s.heap H locs → lv_has ls 4 [] → W p l e ((headSpec wsX8_lapse ({ frames := 1, cells := 0, slots := 0, locals := 21 })).room) s m ([.ref h] : List Value).toArray below meth c H locs 0 0 QQ (F0 m 87 ls []) := by
    intro τ_1 hI_1 hf_1 H locs ls hR hP hD hS hl
    have hR : τ_1 = R := hR
    have hI9 : IX τ_1 := hI_1
    subst hR
    rw [hQ]
    exact W.vret hx hb hr (fun t ht hW => ⟨⟨(), rfl, trivial, ⟨by rw [ht]; exact hP, va_K.moved hW.alike hK, by rw [← hAe]; exact hD⟩, hI9⟩, hS.F ht⟩) hS.2.2 dX8_lapse_87
  have hL_1 : ∀ (n k_1 : Nat) (τ_1 : St) (hk_1 : lpk (τ_1 814 0) k_1 n) (hI_1 : IX τ_1) (hf_1 : τ_1 811 = σ 811 ∧ τ_1 812 = σ 812 ∧ τ_1 814 = σ 814 ∧ τ_1 815 = σ 815) (H : Heap) (locs : List Loc) (ls : Array Slot), s_X8_lapse_c2 (iter s_X8_lapse_l2 n k_1 τ_1) = R → va_P D vwCl (WC ca h ad pa τ_1) H → va_D A (WC ca h ad pa τ_1) → va_S A s.heap H locs → lv_has ls 4 [(1, .int (nI k_1)), (0, .ref h)] → W p l e ((headSpec wsX8_lapse ({ frames := 1, cells := 0, slots := 0, locals := 21 })).room) s m ([.ref h] : List Value).toArray below meth c H locs 0 0 QQ (F0 m 2 ls []) := by
    intro n
    induction n with
    | zero =>
      intro k_1 τ_1 hk_1 hI_1 hf_1 H locs ls hR hP hD hS hl
      refine lv_iload_n hx hb dX8_lapse_2 rfl (lv_at hl 0 rfl) ?_
      refine lv_aload_n hx hb dX8_lapse_3 rfl (lv_at hl 1 rfl) ?_
      refine va_get (D := D) (ci := 8) (v := .int (τ_1 814 0)) (C := RX8) (T := TX8) (N := 19) hx hb hts hu8 hown hK hP 0 wc_0 rfl 14 (by decide) (hts (.fieldLink RX8 85 "GrazeBook" "rightCount" "I") (List.mem_cons_of_mem _ mw_224)) (fun _ h9 => h9) rfl dX8_lapse_4 ?_
      refine lv_icmp_ge (tgt := 87) hx hb dX8_lapse_7 (by decide) (fun _ => ?_) (fun c_2 => absurd (ge_end hk_1) c_2)
      exact hE_1 τ_1 hI_1 hf_1 _ _ _ hR hP hD hS (lv_sub hl [] rfl)
    | succ n ih =>
      intro k_1 τ_1 hk_1 hI_1 hf_1 H locs ls hR hP hD hS hl
      obtain ⟨S_1, hB_1⟩ : ∃ s9, s_X8_lapse_l2 k_1 τ_1 = s9 := ⟨_, rfl⟩
      have hR : s_X8_lapse_c2 (iter s_X8_lapse_l2 n (k_1 + 1) S_1) = R := by rw [← hB_1]; exact hR
      have hB_1 : (if ((τ_1 816 0) - (τ_1 2 k_1)) < (100 : Int32) then τ_1 else (if (s_X0_isInForce τ_1 k_1 (τ_1 816 0)) = (0 : Int32) then τ_1 else (if ((τ_1 816 0) - (100 : Int32)) < (τ_1 7 k_1) then τ_1 else (put (put τ_1 8 k_1 (1 : Int32)) 818 0 ((τ_1 818 0) + (1 : Int32)))))) = S_1 := hB_1
      refine lv_iload_n hx hb dX8_lapse_2 rfl (lv_at hl 0 rfl) ?_
      refine lv_aload_n hx hb dX8_lapse_3 rfl (lv_at hl 1 rfl) ?_
      refine va_get (D := D) (ci := 8) (v := .int (τ_1 814 0)) (C := RX8) (T := TX8) (N := 19) hx hb hts hu8 hown hK hP 0 wc_0 rfl 14 (by decide) (hts (.fieldLink RX8 85 "GrazeBook" "rightCount" "I") (List.mem_cons_of_mem _ mw_224)) (fun _ h9 => h9) rfl dX8_lapse_4 ?_
      refine lv_icmp_ge (tgt := 87) hx hb dX8_lapse_7 (by decide) (fun c_3 => absurd c_3 (ge_go hk_1)) (fun _ => ?_)
      refine lv_aload_n hx hb dX8_lapse_10 rfl (lv_at hl 1 rfl) ?_
      refine va_get (D := D) (ci := 8) (v := .ref (ad 804)) (C := RX8) (T := TX8) (N := 19) hx hb hts hu8 hown hK hP 0 wc_0 rfl 4 (by decide) (hts (.fieldLink RX8 34 "GrazeBook" "rights" "[LGrazeBook$Claim;") (List.mem_cons_of_mem _ mw_214)) (fun _ h9 => h9) rfl dX8_lapse_11 ?_
      refine lv_iload_n hx hb dX8_lapse_14 rfl (lv_at hl 0 rfl) ?_
      refine va_aldq_k (k := k_1) (b := pa 2 k_1) hx hb hK hP 8 4 wc_8 rfl (ix_cl hk_1) (rf_at (k_ltb hk_1)) (ix_loop (N := 60) hk_1 (ix_814 hI_1) (by decide) (by decide)) dX8_lapse_15 ?_
      refine lv_astore_n (lv' := [(2, .ref (pa 2 k_1)), (1, .int (nI k_1)), (0, .ref h)]) hx hb dX8_lapse_16 rfl hl (by decide) rfl (fun ls hl => ?_)
      refine lv_aload_n hx hb dX8_lapse_17 rfl (lv_at hl 2 rfl) ?_
      refine va_get (D := D) (ci := 8) (v := .int (τ_1 816 0)) (C := RX8) (T := TX8) (N := 19) hx hb hts hu8 hown hK hP 0 wc_0 rfl 16 (by decide) (hts (.fieldLink RX8 91 "GrazeBook" "day" "I") (List.mem_cons_of_mem _ mw_226)) (fun _ h9 => h9) rfl dX8_lapse_18 ?_
      refine lv_aload_n hx hb dX8_lapse_21 rfl (lv_at hl 0 rfl) ?_
      refine va_get (D := D) (ci := 0) (v := .int (τ_1 2 k_1)) (C := RX0) (T := TX0) (N := 9) hx hb hts hu0 hown hK hP (pcC ca h ad pa τ_1 k_1) (wc_aC (k_ltb hk_1)) rfl 2 (by decide) (hts (.fieldLink RX8 259 "GrazeBook$Claim" "first" "I") (List.mem_cons_of_mem _ mw_363)) (fun _ h9 => h9) rfl dX8_lapse_22 ?_
      refine lv_isub hx hb dX8_lapse_25 ?_
      refine lv_bipush (v := (100 : Int32)) hx hb dX8_lapse_26 (by decide) ?_
      refine lv_icmp_lt (tgt := 35) hx hb dX8_lapse_28 (by decide) (fun c_4 => ?_) (fun c_4 => ?_)
      · have hB_1 := (if_pos c_4).symm.trans hB_1
        refine lv_iconst (v := (0 : Int32)) hx hb dX8_lapse_35 (by decide) ?_
        refine lv_istore_n (lv' := [(3, .int (0 : Int32)), (2, .ref (pa 2 k_1)), (1, .int (nI k_1)), (0, .ref h)]) hx hb dX8_lapse_36 rfl hl (by decide) rfl (fun ls hl => ?_)
        refine lv_iload_n hx hb dX8_lapse_37 rfl (lv_at hl 0 rfl) ?_
        refine lv_if_eq (tgt := 81) hx hb dX8_lapse_38 (by decide) (fun _ => ?_) (fun c_5 => absurd (by decide) c_5)
        refine lv_iinc (v := (nI (k_1 + 1))) (lv' := [(1, .int (nI (k_1 + 1))), (3, .int (0 : Int32)), (2, .ref (pa 2 k_1)), (0, .ref h)]) hx hb dX8_lapse_81 hl (k := 2) rfl (by rw [show Int32.ofInt 1 = 1 from by decide]; exact nI_1 _) (by decide) rfl (fun ls hl => ?_)
        refine lv_goto (tgt := 2) hx hb dX8_lapse_84 (by decide) ?_
        subst hB_1
        exact ih (k_1 + 1) τ_1 (ge_next hk_1) hI_1 (⟨hf_1.1, hf_1.2.1, hf_1.2.2.1, hf_1.2.2.2⟩) _ _ _ hR hP hD hS (lv_sub hl [0, 3] rfl)
      · have hB_1 := (if_neg c_4).symm.trans hB_1
        refine lv_iconst (v := (1 : Int32)) hx hb dX8_lapse_31 (by decide) ?_
        refine lv_goto (tgt := 36) hx hb dX8_lapse_32 (by decide) ?_
        refine lv_istore_n (lv' := [(3, .int (1 : Int32)), (2, .ref (pa 2 k_1)), (1, .int (nI k_1)), (0, .ref h)]) hx hb dX8_lapse_36 rfl hl (by decide) rfl (fun ls hl => ?_)
        refine lv_iload_n hx hb dX8_lapse_37 rfl (lv_at hl 0 rfl) ?_
        refine lv_if_eq (tgt := 81) hx hb dX8_lapse_38 (by decide) (fun c_6 => absurd c_6 (by decide)) (fun _ => ?_)
        refine lv_aload_n hx hb dX8_lapse_41 rfl (lv_at hl 1 rfl) ?_
        refine lv_aload_n hx hb dX8_lapse_42 rfl (lv_at hl 3 rfl) ?_
        refine va_get (D := D) (ci := 8) (v := .int (τ_1 816 0)) (C := RX8) (T := TX8) (N := 19) hx hb hts hu8 hown hK hP 0 wc_0 rfl 16 (by decide) (hts (.fieldLink RX8 91 "GrazeBook" "day" "I") (List.mem_cons_of_mem _ mw_226)) (fun _ h9 => h9) rfl dX8_lapse_43 ?_
        have hF := pw_free hD hS hA
        refine va_calli (va_runV (As := [.int (τ_1 816 0)]) (rest := []) ⟨hx, hb, hml, hown, hts⟩ (k_X0_isInForce l D ca h ad pa tb τ_1 k_1 (τ_1 816 0) H.size hI_1 (k_ltb hk_1) _ rfl) (cwV 1 hts gX8_lapse_X0_isInForce rfl rfl rfl (by decide +kernel) ⟨Nat.le_of_ble_eq_true rfl, Nat.le_of_ble_eq_true rfl⟩) ⟨cw_blind, va_recv hK hP (ci := 0) (q0 := (pcC ca h ad pa τ_1 k_1)) rfl (wc_aC (k_ltb hk_1)), cw_give hP hK hD hZ hS hF⟩ rfl rfl hl.1 rfl (lv_room (Nat.le_of_ble_eq_true rfl)) dX8_lapse_46 ⟨Nat.le_of_ble_eq_true rfl, Nat.le_of_ble_eq_true rfl⟩) hS (fun q _ h => hF q h) hF (fun r_7 u t H1 locs ht hvm hw hB hz1 hk1 hS => ?_)
        rw [hw]
        obtain ⟨hP, hD⟩ := pw_back hF ht hB
        clear hB hk1 hz1 hF
        generalize H1 = H at hP hS ⊢
        refine lv_if_eq (tgt := 81) hx hb dX8_lapse_49 (by decide) (fun c_8 => ?_) (fun c_8 => ?_)
        · have hB_1 := (if_pos c_8).symm.trans hB_1
          refine lv_iinc (v := (nI (k_1 + 1))) (lv' := [(1, .int (nI (k_1 + 1))), (3, .int (1 : Int32)), (2, .ref (pa 2 k_1)), (0, .ref h)]) hx hb dX8_lapse_81 hl (k := 2) rfl (by rw [show Int32.ofInt 1 = 1 from by decide]; exact nI_1 _) (by decide) rfl (fun ls hl => ?_)
          refine lv_goto (tgt := 2) hx hb dX8_lapse_84 (by decide) ?_
          subst hB_1
          exact ih (k_1 + 1) τ_1 (ge_next hk_1) hI_1 (⟨hf_1.1, hf_1.2.1, hf_1.2.2.1, hf_1.2.2.2⟩) _ _ _ hR hP hD hS (lv_sub hl [0, 3] rfl)
        · have hB_1 := (if_neg c_8).symm.trans hB_1
          refine lv_aload_n hx hb dX8_lapse_52 rfl (lv_at hl 1 rfl) ?_
          refine va_get (D := D) (ci := 0) (v := .int (τ_1 7 k_1)) (C := RX0) (T := TX0) (N := 9) hx hb hts hu0 hown hK hP (pcC ca h ad pa τ_1 k_1) (wc_aC (k_ltb hk_1)) rfl 7 (by decide) (hts (.fieldLink RX8 269 "GrazeBook$Claim" "usedOn" "I") (List.mem_cons_of_mem _ mw_373)) (fun _ h9 => h9) rfl dX8_lapse_53 ?_
          refine lv_aload_n hx hb dX8_lapse_56 rfl (lv_at hl 3 rfl) ?_
          refine va_get (D := D) (ci := 8) (v := .int (τ_1 816 0)) (C := RX8) (T := TX8) (N := 19) hx hb hts hu8 hown hK hP 0 wc_0 rfl 16 (by decide) (hts (.fieldLink RX8 91 "GrazeBook" "day" "I") (List.mem_cons_of_mem _ mw_226)) (fun _ h9 => h9) rfl dX8_lapse_57 ?_
          refine lv_bipush (v := (100 : Int32)) hx hb dX8_lapse_60 (by decide) ?_
          refine lv_isub hx hb dX8_lapse_62 ?_
          refine lv_icmp_gt (tgt := 81) hx hb dX8_lapse_63 (by decide) (fun c_9 => ?_) (fun c_9 => ?_)
          · have hB_1 := (if_pos c_9).symm.trans hB_1
            refine lv_iinc (v := (nI (k_1 + 1))) (lv' := [(1, .int (nI (k_1 + 1))), (3, .int (1 : Int32)), (2, .ref (pa 2 k_1)), (0, .ref h)]) hx hb dX8_lapse_81 hl (k := 2) rfl (by rw [show Int32.ofInt 1 = 1 from by decide]; exact nI_1 _) (by decide) rfl (fun ls hl => ?_)
            refine lv_goto (tgt := 2) hx hb dX8_lapse_84 (by decide) ?_
            subst hB_1
            exact ih (k_1 + 1) τ_1 (ge_next hk_1) hI_1 (⟨hf_1.1, hf_1.2.1, hf_1.2.2.1, hf_1.2.2.2⟩) _ _ _ hR hP hD hS (lv_sub hl [0, 3] rfl)
          · have hB_1 := (if_neg c_9).symm.trans hB_1
            refine lv_aload_n hx hb dX8_lapse_66 rfl (lv_at hl 1 rfl) ?_
            refine lv_iconst (v := (1 : Int32)) hx hb dX8_lapse_67 (by decide) ?_
            refine va_put (D := D) (ci := 0) (v := .int (1 : Int32)) (ty := .boolean) (C := RX0) (T := TX0) (N := 9) hx hb hts hu0 tyX0 tyX0_ok nmX0 hown hK hP hD hS (pcC ca h ad pa τ_1 k_1) (wc_aC (k_ltb hk_1)) rfl 8 (by decide) (hts (.fieldLink RX8 262 "GrazeBook$Claim" "gone" "Z") (List.mem_cons_of_mem _ mw_375)) (fun _ h9 => h9) rfl (by decide +kernel) rfl rfl (Nat.le_of_ble_eq_true rfl) dX8_lapse_68 (fun H locs hP hD hS => ?_)
            rw [wc_sC8 (σ := τ_1) (k_ltb hk_1)] at hP hD
            refine lv_aload_n hx hb dX8_lapse_71 rfl (lv_at hl 3 rfl) ?_
            refine lv_dup hx hb dX8_lapse_72 rfl ?_
            refine va_get (D := D) (ci := 8) (v := .int (τ_1 818 0)) (C := RX8) (T := TX8) (N := 19) hx hb hts hu8 hown hK hP 0 wc_0 rfl 18 (by decide) (hts (.fieldLink RX8 97 "GrazeBook" "lapses" "I") (List.mem_cons_of_mem _ mw_228)) (fun _ h9 => h9) rfl dX8_lapse_73 ?_
            refine lv_iconst (v := (1 : Int32)) hx hb dX8_lapse_76 (by decide) ?_
            refine lv_iadd hx hb dX8_lapse_77 ?_
            refine va_put (D := D) (ci := 8) (v := .int ((τ_1 818 0) + (1 : Int32))) (ty := .int) (C := RX8) (T := TX8) (N := 19) hx hb hts hu8 tyX8 tyX8_ok nmX8 hown hK hP hD hS 0 wc_0 rfl 18 (by decide) (hts (.fieldLink RX8 97 "GrazeBook" "lapses" "I") (List.mem_cons_of_mem _ mw_228)) (fun _ h9 => h9) rfl (by decide +kernel) rfl rfl (Nat.le_of_ble_eq_true rfl) dX8_lapse_78 (fun H locs hP hD hS => ?_)
            rw [wc_p818] at hP hD
            refine lv_iinc (v := (nI (k_1 + 1))) (lv' := [(1, .int (nI (k_1 + 1))), (3, .int (1 : Int32)), (2, .ref (pa 2 k_1)), (0, .ref h)]) hx hb dX8_lapse_81 hl (k := 2) rfl (by rw [show Int32.ofInt 1 = 1 from by decide]; exact nI_1 _) (by decide) rfl (fun ls hl => ?_)
            refine lv_goto (tgt := 2) hx hb dX8_lapse_84 (by decide) ?_
            subst hB_1
            exact ih (k_1 + 1) (put (put τ_1 8 k_1 (1 : Int32)) 818 0 ((τ_1 818 0) + (1 : Int32))) (ge_next hk_1) hI_1 (⟨hf_1.1, hf_1.2.1, hf_1.2.2.1, hf_1.2.2.2⟩) _ _ _ hR hP hD hS (lv_sub hl [0, 3] rfl)
  exact hL_1 _ 0 σ ⟨rfl, by decide⟩ hI (⟨rfl, rfl, rfl, rfl⟩) _ _ _ hR hP hD hS (lv_sub hl [0, 1] rfl)

def s_X8_shareHay_c39  : (Int32 × St) → St := fun x9 => match x9 with
  | (v4_2, τ_2) => (put τ_2 591 0 ((τ_2 591 0) + v4_2))
def s_X8_shareHay_l39 (a1 : Int32) (a2 : Int32) (v3_1 : Int32) (k_2 : Nat) : (Int32 × St) → Option (Int32 × St) := fun x9 => match x9 with
  | (v4_2, τ_2) => (if v3_1 ≤ (0 : Int32) then none else (some ((v4_2 - ((((a2.toInt64) * ((s_X1_partsForHay (s_X8_coverOf τ_2 (nI k_2)) a1).toInt64)) / (v3_1.toInt64)).toInt32)), (put (s_X8_coverOf τ_2 (nI k_2)) 501 k_2 (((s_X8_coverOf τ_2 (nI k_2)) 501 k_2) + ((((a2.toInt64) * ((s_X1_partsForHay (s_X8_coverOf τ_2 (nI k_2)) a1).toInt64)) / (v3_1.toInt64)).toInt32))))))
def s_X8_shareHay_c5 (a1 : Int32) (a2 : Int32) : (Int32 × St) → St := fun x9 => match x9 with
  | (v3_1, τ_1) => (s_X8_shareHay_c39 (iterC (s_X8_shareHay_l39 a1 a2 v3_1) ((τ_1 812 0).toNatClampNeg - 0) 0 (a2, τ_1)))
def s_X8_shareHay_l5 (a1 : Int32) (k_1 : Nat) : (Int32 × St) → (Int32 × St) := fun x9 => match x9 with
  | (v3_1, τ_1) => ((v3_1 + (s_X1_partsForHay (s_X8_coverOf τ_1 (nI k_1)) a1)), (s_X8_coverOf τ_1 (nI k_1)))
def s_X8_shareHay (σ : St) (a1 : Int32) (a2 : Int32) : St := (s_X8_shareHay_c5 a1 a2 (iter (s_X8_shareHay_l5 a1) ((σ 812 0).toNatClampNeg - 0) 0 ((0 : Int32), σ)))
theorem fr_s_X8_shareHay_c39  (s : (Int32 × St)) {f : Nat} (h100 : f ≠ 100) (h101 : f ≠ 101) (h102 : f ≠ 102) (h103 : f ≠ 103) (h104 : f ≠ 104) (h501 : f ≠ 501) (h591 : f ≠ 591) : (s_X8_shareHay_c39 s) f = s.2 f := by
  obtain ⟨v4_2, τ_2⟩ := s
  unfold s_X8_shareHay_c39
  all_goals ((try dsimp only) <;> ((repeat' split) <;> (try simp only [put_fr, ne_eq, not_false_eq_true, h100, h101, h102, h103, h104, h501, h591, fr_s_X8_coverOf])))
theorem fr_s_X8_shareHay_l39 (a1 : Int32) (a2 : Int32) (v3_1 : Int32) (k_2 : Nat) (s : (Int32 × St)) {f : Nat} (h100 : f ≠ 100) (h101 : f ≠ 101) (h102 : f ≠ 102) (h103 : f ≠ 103) (h104 : f ≠ 104) (h501 : f ≠ 501) (h591 : f ≠ 591) : ∀ t, s_X8_shareHay_l39 a1 a2 v3_1 k_2 s = some t → t.2 f = s.2 f := by
  obtain ⟨v4_2, τ_2⟩ := s
  intro t h
  unfold s_X8_shareHay_l39 at h
  (try dsimp only at h)
  (repeat' split at h) <;> first | exact absurd h.symm (Option.some_ne_none _) | (obtain rfl := Option.some.inj h; simp only [put_fr, ne_eq, not_false_eq_true, h100, h101, h102, h103, h104, h501, h591, fr_s_X8_coverOf, fr_s_X8_shareHay_c39])
theorem fri_s_X8_shareHay_l39 (a1 : Int32) (a2 : Int32) (v3_1 : Int32) (n k : Nat) (s : (Int32 × St)) {f : Nat} (h100 : f ≠ 100) (h101 : f ≠ 101) (h102 : f ≠ 102) (h103 : f ≠ 103) (h104 : f ≠ 104) (h501 : f ≠ 501) (h591 : f ≠ 591) : (iterC (s_X8_shareHay_l39 a1 a2 v3_1) n k s).2 f = s.2 f := iterC_fr (P := (fun s => s.2 f)) (fun k s t h => fr_s_X8_shareHay_l39 a1 a2 v3_1 k s h100 h101 h102 h103 h104 h501 h591 t h) n k s
theorem fr_s_X8_shareHay_c5 (a1 : Int32) (a2 : Int32) (s : (Int32 × St)) {f : Nat} (h100 : f ≠ 100) (h101 : f ≠ 101) (h102 : f ≠ 102) (h103 : f ≠ 103) (h104 : f ≠ 104) (h501 : f ≠ 501) (h591 : f ≠ 591) : (s_X8_shareHay_c5 a1 a2 s) f = s.2 f := by
  obtain ⟨v3_1, τ_1⟩ := s
  unfold s_X8_shareHay_c5
  all_goals ((try dsimp only) <;> ((repeat' split) <;> (try simp only [put_fr, ne_eq, not_false_eq_true, h100, h101, h102, h103, h104, h501, h591, fr_s_X8_coverOf, fr_s_X8_shareHay_c39, fri_s_X8_shareHay_l39])))
theorem fr_s_X8_shareHay_l5 (a1 : Int32) (k_1 : Nat) (s : (Int32 × St)) {f : Nat} (h100 : f ≠ 100) (h101 : f ≠ 101) (h102 : f ≠ 102) (h103 : f ≠ 103) (h104 : f ≠ 104) (h501 : f ≠ 501) (h591 : f ≠ 591) : (s_X8_shareHay_l5 a1 k_1 s).2 f = s.2 f := by
  obtain ⟨v3_1, τ_1⟩ := s
  unfold s_X8_shareHay_l5
  all_goals ((try dsimp only) <;> ((repeat' split) <;> (try simp only [put_fr, ne_eq, not_false_eq_true, h100, h101, h102, h103, h104, h501, h591, fr_s_X8_coverOf, fr_s_X8_shareHay_c39, fri_s_X8_shareHay_l39, fr_s_X8_shareHay_c5])))
theorem fri_s_X8_shareHay_l5 (a1 : Int32) (n k : Nat) (s : (Int32 × St)) {f : Nat} (h100 : f ≠ 100) (h101 : f ≠ 101) (h102 : f ≠ 102) (h103 : f ≠ 103) (h104 : f ≠ 104) (h501 : f ≠ 501) (h591 : f ≠ 591) : (iter (s_X8_shareHay_l5 a1) n k s).2 f = s.2 f := iter_fr (P := (fun s => s.2 f)) (fun k s => fr_s_X8_shareHay_l5 a1 k s h100 h101 h102 h103 h104 h501 h591) n k s
theorem fr_s_X8_shareHay (σ : St) (a1 : Int32) (a2 : Int32) {f : Nat} (h100 : f ≠ 100) (h101 : f ≠ 101) (h102 : f ≠ 102) (h103 : f ≠ 103) (h104 : f ≠ 104) (h501 : f ≠ 501) (h591 : f ≠ 591) : (s_X8_shareHay σ a1 a2 ) f = σ f := by
  unfold s_X8_shareHay
  all_goals ((try dsimp only) <;> ((repeat' split) <;> (try simp only [put_fr, ne_eq, not_false_eq_true, h100, h101, h102, h103, h104, h501, h591, fr_s_X8_coverOf, fr_s_X8_shareHay_c39, fri_s_X8_shareHay_l39, fr_s_X8_shareHay_c5, fri_s_X8_shareHay_l5])))
set_option maxHeartbeats 1000000 in
set_option maxRecDepth 100000 in
theorem k_X8_shareHay (l : Launch) (D : va_G) (ca : Nat → ClassId) (h : Nat) (ad : Nat → Nat) (pa : Nat → Nat → Nat) (tb : Nat) (σ : St) (a1 : Int32) (a2 : Int32) (sz : Nat) (hI : IX σ)  (R : St) (hR : s_X8_shareHay σ a1 a2 = R) : Met l yX8_shareHay wsX8_shareHay ({ frames := 3, cells := 0, slots := 0, locals := 66 }) (va_Pc [.ref h, .int a1, .int a2] (cw_pre D ca (WC ca h ad pa σ) sz tb)) (va_Qv (fun _ : Unit => True) (fun (_ : Unit) (t : State) => pw_post D ca (WC ca h ad pa σ) sz (WC ca h ad pa R) t ∧ IX R) (va_A (WC ca h ad pa σ) sz)) 0 0 (va_A (WC ca h ad pa σ) sz) := by
  refine Met.ofW (cc := cX8_shareHay) (maxL := 7) (ret := none) (by decide) rfl ?_
  intro p e s m args below meth c s₁ B hml hv
  obtain ⟨rfl, ⟨hsz, hP, hK, hD0⟩, hZ⟩ := hv
  have hx := B.exec
  have hb := B.bytes
  have hr := B.returns
  have hts := atoms_spec (ws := wsX8_shareHay) B.pre
  have hown : s.vm.findClass RX8 = some m.cls := findClass_of_methodNamed B.named
  have hlocks := B.notSynchronized
  have hu5 : ∀ w ∈ u_ws RX5 TX5 2, w ∈ wsX8_shareHay := fun w h => List.mem_cons_of_mem _ (uw5 w h)
  have hu8 : ∀ w ∈ u_ws RX8 TX8 19, w ∈ wsX8_shareHay := fun w h => List.mem_cons_of_mem _ (uw8 w h)
  subst hsz
  have hD := hD0.self (sz := s.heap.size)
  obtain ⟨A, hAe⟩ : ∃ A, A = va_A (WC ca h ad pa σ) s.heap.size := ⟨_, rfl⟩
  rw [← hAe] at hD hZ ⊢
  have hA : ∀ q : Nat, s.heap.size ≤ q → A q := fun q h => by rw [hAe]; exact Or.inr h
  have hS : va_S A s.heap s.heap [] := va_S.rf
  have hl := lv_entry ([.ref h, .int a1, .int a2]) (n := 7) (Nat.le_of_ble_eq_true rfl)
  rw [lg_entry_eq]
  generalize (lg_sl ([.ref h, .int a1, .int a2]) ++ List.replicate (7 - (lg_sl ([.ref h, .int a1, .int a2])).length) Slot.unset).toArray = ls at hl ⊢
  have hl : lv_has ls 7 [(0, .ref h), (1, .int a1), (2, .int a2)] := hl
  obtain ⟨H, hH⟩ : ∃ H, H = s.heap := ⟨_, rfl⟩
  have hP : va_P D vwCl (WC ca h ad pa σ) H := by rw [hH]; exact hP
  have hS : va_S A s.heap H [] := by rw [hH]; exact hS
  obtain ⟨QQ, hQ⟩ : ∃ Q9, Q9 = MQ below (va_Qv (fun _ : Unit => True) (fun (_ : Unit) (t : State) => pw_post D ca (WC ca h ad pa σ) s.heap.size (WC ca h ad pa R) t ∧ IX R) A) ([.ref h, .int a1, .int a2] : List Value).toArray s 0 0 A := ⟨_, rfl⟩
  rw [← hQ]
  show W _ _ _ _ _ _ _ _ _ _ s.heap _ _ _ _ _
  rw [← hH]
  have hR : (s_X8_shareHay_c5 a1 a2 (iter (s_X8_shareHay_l5 a1) ((σ 812 0).toNatClampNeg - 0) 0 ((0 : Int32), σ))) = R := hR
  refine lv_iconst (v := (0 : Int32)) hx hb dX8_shareHay_0 (by decide) ?_
  refine lv_istore_n (lv' := [(3, .int (0 : Int32)), (0, .ref h), (1, .int a1), (2, .int a2)]) hx hb dX8_shareHay_1 rfl hl (by decide) rfl (fun ls hl => ?_)
  refine lv_iconst (v := (0 : Int32)) hx hb dX8_shareHay_2 (by decide) ?_
  refine lv_istore (lv' := [(4, .int (0 : Int32)), (3, .int (0 : Int32)), (0, .ref h), (1, .int a1), (2, .int a2)]) hx hb dX8_shareHay_3 hl (by decide) rfl (fun ls hl => ?_)
  have hE_1 : ∀ (v3_1 : Int32) (τ_1 : St) (hI_1 : IX τ_1) (hf_1 : τ_1 811 = σ 811 ∧ τ_1 812 = σ 812 ∧ τ_1 814 = σ 814 ∧ τ_1 815 = σ 815) (H : Heap) (locs : List Loc) (ls : Array Slot), s_X8_shareHay_c5 a1 a2 (v3_1, τ_1) = R → va_P D vwCl (WC ca h ad pa τ_1) H → va_D A (WC ca h ad pa τ_1) → va_S A s.heap H locs → lv_has ls 7 [(3, .int v3_1), (0, .ref h), (1, .int a1), (2, .int a2)] → W p l e ((headSpec wsX8_shareHay ({ frames := 3, cells := 0, slots := 0, locals := 66 })).room) s m ([.ref h, .int a1, .int a2] : List Value).toArray below meth c H locs 0 0 QQ (F0 m 33 ls []) := by
    intro v3_1 τ_1 hI_1 hf_1 H locs ls hR hP hD hS hl
    have hR : (s_X8_shareHay_c39 (iterC (s_X8_shareHay_l39 a1 a2 v3_1) ((τ_1 812 0).toNatClampNeg - 0) 0 (a2, τ_1))) = R := hR
    refine lv_iload_n hx hb dX8_shareHay_33 rfl (lv_at hl 3 rfl) ?_
    refine lv_istore (lv' := [(4, .int a2), (3, .int v3_1), (0, .ref h), (1, .int a1), (2, .int a2)]) hx hb dX8_shareHay_34 hl (by decide) rfl (fun ls hl => ?_)
    refine lv_iconst (v := (0 : Int32)) hx hb dX8_shareHay_36 (by decide) ?_
    refine lv_istore (lv' := [(5, .int (0 : Int32)), (4, .int a2), (3, .int v3_1), (0, .ref h), (1, .int a1), (2, .int a2)]) hx hb dX8_shareHay_37 hl (by decide) rfl (fun ls hl => ?_)
    have hE_2 : ∀ (v4_2 : Int32) (τ_2 : St) (hI_2 : IX τ_2) (hf_2 : τ_2 811 = σ 811 ∧ τ_2 812 = σ 812 ∧ τ_2 814 = σ 814 ∧ τ_2 815 = σ 815) (H : Heap) (locs : List Loc) (ls : Array Slot), s_X8_shareHay_c39 (v4_2, τ_2) = R → va_P D vwCl (WC ca h ad pa τ_2) H → va_D A (WC ca h ad pa τ_2) → va_S A s.heap H locs → lv_has ls 7 [(4, .int v4_2), (0, .ref h)] → W p l e ((headSpec wsX8_shareHay ({ frames := 3, cells := 0, slots := 0, locals := 66 })).room) s m ([.ref h, .int a1, .int a2] : List Value).toArray below meth c H locs 0 0 QQ (F0 m 102 ls []) := by
      intro v4_2 τ_2 hI_2 hf_2 H locs ls hR hP hD hS hl
      have hR : (put τ_2 591 0 ((τ_2 591 0) + v4_2)) = R := hR
      refine lv_aload_n hx hb dX8_shareHay_102 rfl (lv_at hl 1 rfl) ?_
      refine va_get (D := D) (ci := 8) (v := .ref (ad 802)) (C := RX8) (T := TX8) (N := 19) hx hb hts hu8 hown hK hP 0 wc_0 rfl 2 (by decide) (hts (.fieldLink RX8 24 "GrazeBook" "reeve" "LGrazeBook$Purse;") (List.mem_cons_of_mem _ mw_212)) (fun _ h9 => h9) rfl dX8_shareHay_103 ?_
      refine lv_dup hx hb dX8_shareHay_106 rfl ?_
      refine va_get (D := D) (ci := 5) (v := .int (τ_2 591 0)) (C := RX5) (T := TX5) (N := 2) hx hb hts hu5 hown hK hP 1 wc_1 rfl 1 (by decide) (hts (.fieldLink RX8 281 "GrazeBook$Purse" "hay" "I") (List.mem_cons_of_mem _ mw_90)) (fun _ h9 => h9) rfl dX8_shareHay_107 ?_
      refine lv_iload hx hb dX8_shareHay_110 (lv_at hl 0 rfl) ?_
      refine lv_iadd hx hb dX8_shareHay_112 ?_
      refine va_put (D := D) (ci := 5) (v := .int ((τ_2 591 0) + v4_2)) (ty := .int) (C := RX5) (T := TX5) (N := 2) hx hb hts hu5 tyX5 tyX5_ok nmX5 hown hK hP hD hS 1 wc_1 rfl 1 (by decide) (hts (.fieldLink RX8 281 "GrazeBook$Purse" "hay" "I") (List.mem_cons_of_mem _ mw_90)) (fun _ h9 => h9) rfl (by decide +kernel) rfl rfl (Nat.le_of_ble_eq_true rfl) dX8_shareHay_113 (fun H locs hP hD hS => ?_)
      rw [wc_p591] at hP hD
      have hI9 : IX (put τ_2 591 0 ((τ_2 591 0) + v4_2)) := hI_2
      subst hR
      rw [hQ]
      exact W.vret hx hb hr (fun t ht hW => ⟨⟨(), rfl, trivial, ⟨by rw [ht]; exact hP, va_K.moved hW.alike hK, by rw [← hAe]; exact hD⟩, hI9⟩, hS.F ht⟩) hS.2.2 dX8_shareHay_116
    have hL_2 : ∀ (n k_2 : Nat) (v4_2 : Int32) (τ_2 : St) (hk_2 : lpk (τ_2 812 0) k_2 n) (hI_2 : IX τ_2) (hf_2 : τ_2 811 = σ 811 ∧ τ_2 812 = σ 812 ∧ τ_2 814 = σ 814 ∧ τ_2 815 = σ 815) (H : Heap) (locs : List Loc) (ls : Array Slot), s_X8_shareHay_c39 (iterC (s_X8_shareHay_l39 a1 a2 v3_1) n k_2 (v4_2, τ_2)) = R → va_P D vwCl (WC ca h ad pa τ_2) H → va_D A (WC ca h ad pa τ_2) → va_S A s.heap H locs → lv_has ls 7 [(5, .int (nI k_2)), (4, .int v4_2), (3, .int v3_1), (0, .ref h), (1, .int a1), (2, .int a2)] → W p l e ((headSpec wsX8_shareHay ({ frames := 3, cells := 0, slots := 0, locals := 66 })).room) s m ([.ref h, .int a1, .int a2] : List Value).toArray below meth c H locs 0 0 QQ (F0 m 39 ls []) := by
      intro n
      induction n with
      | zero =>
        intro k_2 v4_2 τ_2 hk_2 hI_2 hf_2 H locs ls hR hP hD hS hl
        refine lv_iload hx hb dX8_shareHay_39 (lv_at hl 0 rfl) ?_
        refine lv_aload_n hx hb dX8_shareHay_41 rfl (lv_at hl 3 rfl) ?_
        refine va_get (D := D) (ci := 8) (v := .int (τ_2 812 0)) (C := RX8) (T := TX8) (N := 19) hx hb hts hu8 hown hK hP 0 wc_0 rfl 12 (by decide) (hts (.fieldLink RX8 79 "GrazeBook" "ownerCount" "I") (List.mem_cons_of_mem _ mw_222)) (fun _ h9 => h9) rfl dX8_shareHay_42 ?_
        refine lv_icmp_ge (tgt := 102) hx hb dX8_shareHay_45 (by decide) (fun _ => ?_) (fun c_3 => absurd (ge_end hk_2) c_3)
        exact hE_2 v4_2 τ_2 hI_2 hf_2 _ _ _ hR hP hD hS (lv_sub hl [1, 3] rfl)
      | succ n ih =>
        intro k_2 v4_2 τ_2 hk_2 hI_2 hf_2 H locs ls hR hP hD hS hl
        obtain ⟨S_2, hB_2⟩ : ∃ s9, s_X8_shareHay_l39 a1 a2 v3_1 k_2 (v4_2, τ_2) = s9 := ⟨_, rfl⟩
        have hR : s_X8_shareHay_c39 (iterC1 (s_X8_shareHay_l39 a1 a2 v3_1) n k_2 (v4_2, τ_2) S_2) = R := by rw [← hB_2]; exact hR
        have hB_2 : (if v3_1 ≤ (0 : Int32) then none else (some ((v4_2 - ((((a2.toInt64) * ((s_X1_partsForHay (s_X8_coverOf τ_2 (nI k_2)) a1).toInt64)) / (v3_1.toInt64)).toInt32)), (put (s_X8_coverOf τ_2 (nI k_2)) 501 k_2 (((s_X8_coverOf τ_2 (nI k_2)) 501 k_2) + ((((a2.toInt64) * ((s_X1_partsForHay (s_X8_coverOf τ_2 (nI k_2)) a1).toInt64)) / (v3_1.toInt64)).toInt32)))))) = S_2 := hB_2
        refine lv_iload hx hb dX8_shareHay_39 (lv_at hl 0 rfl) ?_
        refine lv_aload_n hx hb dX8_shareHay_41 rfl (lv_at hl 3 rfl) ?_
        refine va_get (D := D) (ci := 8) (v := .int (τ_2 812 0)) (C := RX8) (T := TX8) (N := 19) hx hb hts hu8 hown hK hP 0 wc_0 rfl 12 (by decide) (hts (.fieldLink RX8 79 "GrazeBook" "ownerCount" "I") (List.mem_cons_of_mem _ mw_222)) (fun _ h9 => h9) rfl dX8_shareHay_42 ?_
        refine lv_icmp_ge (tgt := 102) hx hb dX8_shareHay_45 (by decide) (fun c_4 => absurd c_4 (ge_go hk_2)) (fun _ => ?_)
        refine lv_iload_n hx hb dX8_shareHay_48 rfl (lv_at hl 2 rfl) ?_
        refine lv_if_le (tgt := 102) hx hb dX8_shareHay_49 (by decide) (fun c_5 => ?_) (fun c_5 => ?_)
        · have hB_2 := (if_pos c_5).symm.trans hB_2
          subst hB_2
          exact hE_2 v4_2 τ_2 hI_2 hf_2 _ _ _ hR hP hD hS (lv_sub hl [1, 3] rfl)
        · have hB_2 := (if_neg c_5).symm.trans hB_2
          refine lv_iload_n hx hb dX8_shareHay_52 rfl (lv_at hl 5 rfl) ?_
          refine lv_i2l (v := (a2.toInt64)) hx hb dX8_shareHay_53 rfl ?_
          refine lv_aload_n hx hb dX8_shareHay_54 rfl (lv_at hl 3 rfl) ?_
          refine lv_iload hx hb dX8_shareHay_55 (lv_at hl 0 rfl) ?_
          have hF := pw_free hD hS hA
          refine va_callr (va_runV (As := [.int (nI k_2)]) (rest := [.long (a2.toInt64)]) ⟨hx, hb, hml, hown, hts⟩ (k_X8_coverOf l D ca h ad pa tb τ_2 (nI k_2) H.size hI_2 _ rfl) (cwV 1 hts gX8_shareHay_X8_coverOf rfl rfl rfl (by decide +kernel) ⟨Nat.le_of_ble_eq_true rfl, Nat.le_of_ble_eq_true rfl⟩) ⟨cw_blind, va_recv hK hP (ci := 8) (q0 := 0) rfl wc_0, cw_give hP hK hD hZ hS hF⟩ rfl rfl hl.1 rfl (lv_room (Nat.le_of_ble_eq_true rfl)) dX8_shareHay_57 ⟨Nat.le_of_ble_eq_true rfl, Nat.le_of_ble_eq_true rfl⟩) hS (fun q _ h => hF q h) hF (fun u r_6 t H1 locs ht hvm hw hB hz1 hk1 hS => ?_)
          obtain ⟨er_6, hB⟩ := hB
          subst er_6
          obtain ⟨hB, hI_7⟩ := hB
          obtain ⟨hP, hD⟩ := pw_back hF ht hB
          clear hB hk1 hz1 hF
          generalize H1 = H at hP hS ⊢
          obtain ⟨τc_8, hτc_8⟩ : ∃ t9, (s_X8_coverOf τ_2 (nI k_2)) = t9 := ⟨_, rfl⟩
          rw [hτc_8] at hP hD hI_7
          (try rw [hτc_8] at hB_2)
          refine lv_iload_n hx hb dX8_shareHay_60 rfl (lv_at hl 4 rfl) ?_
          have hF := pw_free hD hS hA
          refine va_calli (va_runV (As := [.int a1]) (rest := [.long (a2.toInt64)]) ⟨hx, hb, hml, hown, hts⟩ (k_X1_partsForHay l D ca h ad pa tb τc_8 a1 H.size hI_7 _ rfl) (cwV 1 hts gX8_shareHay_X1_partsForHay rfl rfl rfl (by decide +kernel) ⟨Nat.le_of_ble_eq_true rfl, Nat.le_of_ble_eq_true rfl⟩) ⟨cw_blind, va_recv hK hP (ci := 1) (q0 := 3) rfl wc_3, cw_give hP hK hD hZ hS hF⟩ rfl rfl hl.1 rfl (lv_room (Nat.le_of_ble_eq_true rfl)) dX8_shareHay_61 ⟨Nat.le_of_ble_eq_true rfl, Nat.le_of_ble_eq_true rfl⟩) hS (fun q _ h => hF q h) hF (fun r_9 u t H1 locs ht hvm hw hB hz1 hk1 hS => ?_)
          rw [hw]
          obtain ⟨hP, hD⟩ := pw_back hF ht hB
          clear hB hk1 hz1 hF
          generalize H1 = H at hP hS ⊢
          refine lv_i2l (v := ((s_X1_partsForHay τc_8 a1).toInt64)) hx hb dX8_shareHay_64 rfl ?_
          refine lv_lmul hx hb dX8_shareHay_65 ?_
          refine lv_iload_n hx hb dX8_shareHay_66 rfl (lv_at hl 2 rfl) ?_
          refine lv_i2l (v := (v3_1.toInt64)) hx hb dX8_shareHay_67 rfl ?_
          refine lv_ldiv hx hb dX8_shareHay_68 (nz64 (nz_le c_5)) ?_
          refine lv_l2i (v := ((((a2.toInt64) * ((s_X1_partsForHay τc_8 a1).toInt64)) / (v3_1.toInt64)).toInt32)) hx hb dX8_shareHay_69 rfl ?_
          refine lv_istore (lv' := [(6, .int ((((a2.toInt64) * ((s_X1_partsForHay τc_8 a1).toInt64)) / (v3_1.toInt64)).toInt32)), (5, .int (nI k_2)), (4, .int v4_2), (3, .int v3_1), (0, .ref h), (1, .int a1), (2, .int a2)]) hx hb dX8_shareHay_70 hl (by decide) rfl (fun ls hl => ?_)
          refine lv_aload_n hx hb dX8_shareHay_72 rfl (lv_at hl 4 rfl) ?_
          refine va_get (D := D) (ci := 8) (v := .ref (ad 801)) (C := RX8) (T := TX8) (N := 19) hx hb hts hu8 hown hK hP 0 wc_0 rfl 1 (by decide) (hts (.fieldLink RX8 17 "GrazeBook" "owners" "[LGrazeBook$Purse;") (List.mem_cons_of_mem _ mw_211)) (fun _ h9 => h9) rfl dX8_shareHay_73 ?_
          refine lv_iload hx hb dX8_shareHay_76 (lv_at hl 1 rfl) ?_
          refine va_aldq_k (k := k_2) (b := pa 1 k_2) hx hb hK hP 7 3 wc_7 rfl (ix_cl hk_2) (rf_at (cnt_cast (congrFun ((show τc_8 812 = τ_2 812 by rw [← hτc_8]; exact fr_s_X8_coverOf τ_2 (nI k_2) (f := 812) (by decide) (by decide) (by decide) (by decide) (by decide)).trans rfl) 0) (k_ltb hk_2))) (ix_loop (N := 10) hk_2 (ix_812 hI_2) (by decide) (by decide)) dX8_shareHay_78 ?_
          refine lv_dup hx hb dX8_shareHay_79 rfl ?_
          refine va_get (D := D) (ci := 5) (v := .int (τc_8 501 k_2)) (C := RX5) (T := TX5) (N := 2) hx hb hts hu5 hown hK hP (pcU ca h ad pa τc_8 k_2) (wc_aU (cnt_cast (congrFun ((show τc_8 812 = τ_2 812 by rw [← hτc_8]; exact fr_s_X8_coverOf τ_2 (nI k_2) (f := 812) (by decide) (by decide) (by decide) (by decide) (by decide)).trans rfl) 0) (k_ltb hk_2))) rfl 1 (by decide) (hts (.fieldLink RX8 281 "GrazeBook$Purse" "hay" "I") (List.mem_cons_of_mem _ mw_90)) (fun _ h9 => h9) rfl dX8_shareHay_80 ?_
          refine lv_iload hx hb dX8_shareHay_83 (lv_at hl 0 rfl) ?_
          refine lv_iadd hx hb dX8_shareHay_85 ?_
          refine va_put (D := D) (ci := 5) (v := .int ((τc_8 501 k_2) + ((((a2.toInt64) * ((s_X1_partsForHay τc_8 a1).toInt64)) / (v3_1.toInt64)).toInt32))) (ty := .int) (C := RX5) (T := TX5) (N := 2) hx hb hts hu5 tyX5 tyX5_ok nmX5 hown hK hP hD hS (pcU ca h ad pa τc_8 k_2) (wc_aU (cnt_cast (congrFun ((show τc_8 812 = τ_2 812 by rw [← hτc_8]; exact fr_s_X8_coverOf τ_2 (nI k_2) (f := 812) (by decide) (by decide) (by decide) (by decide) (by decide)).trans rfl) 0) (k_ltb hk_2))) rfl 1 (by decide) (hts (.fieldLink RX8 281 "GrazeBook$Purse" "hay" "I") (List.mem_cons_of_mem _ mw_90)) (fun _ h9 => h9) rfl (by decide +kernel) rfl rfl (Nat.le_of_ble_eq_true rfl) dX8_shareHay_86 (fun H locs hP hD hS => ?_)
          rw [wc_sU1 (σ := τc_8) (cnt_cast (congrFun ((show τc_8 812 = τ_2 812 by rw [← hτc_8]; exact fr_s_X8_coverOf τ_2 (nI k_2) (f := 812) (by decide) (by decide) (by decide) (by decide) (by decide)).trans rfl) 0) (k_ltb hk_2))] at hP hD
          refine lv_iload hx hb dX8_shareHay_89 (lv_at hl 2 rfl) ?_
          refine lv_iload hx hb dX8_shareHay_91 (lv_at hl 0 rfl) ?_
          refine lv_isub hx hb dX8_shareHay_93 ?_
          refine lv_istore (lv' := [(4, .int (v4_2 - ((((a2.toInt64) * ((s_X1_partsForHay τc_8 a1).toInt64)) / (v3_1.toInt64)).toInt32))), (6, .int ((((a2.toInt64) * ((s_X1_partsForHay τc_8 a1).toInt64)) / (v3_1.toInt64)).toInt32)), (5, .int (nI k_2)), (3, .int v3_1), (0, .ref h), (1, .int a1), (2, .int a2)]) hx hb dX8_shareHay_94 hl (by decide) rfl (fun ls hl => ?_)
          refine lv_iinc (v := (nI (k_2 + 1))) (lv' := [(5, .int (nI (k_2 + 1))), (4, .int (v4_2 - ((((a2.toInt64) * ((s_X1_partsForHay τc_8 a1).toInt64)) / (v3_1.toInt64)).toInt32))), (6, .int ((((a2.toInt64) * ((s_X1_partsForHay τc_8 a1).toInt64)) / (v3_1.toInt64)).toInt32)), (3, .int v3_1), (0, .ref h), (1, .int a1), (2, .int a2)]) hx hb dX8_shareHay_96 hl (k := 2) rfl (by rw [show Int32.ofInt 1 = 1 from by decide]; exact nI_1 _) (by decide) rfl (fun ls hl => ?_)
          refine lv_goto (tgt := 39) hx hb dX8_shareHay_99 (by decide) ?_
          subst hB_2
          exact ih (k_2 + 1) (v4_2 - ((((a2.toInt64) * ((s_X1_partsForHay τc_8 a1).toInt64)) / (v3_1.toInt64)).toInt32)) (put τc_8 501 k_2 ((τc_8 501 k_2) + ((((a2.toInt64) * ((s_X1_partsForHay τc_8 a1).toInt64)) / (v3_1.toInt64)).toInt32))) (lpk_cast (congrFun ((show τc_8 812 = τ_2 812 by rw [← hτc_8]; exact fr_s_X8_coverOf τ_2 (nI k_2) (f := 812) (by decide) (by decide) (by decide) (by decide) (by decide)).trans rfl) 0) (ge_next hk_2)) hI_7 (⟨((show τc_8 811 = τ_2 811 by rw [← hτc_8]; exact fr_s_X8_coverOf τ_2 (nI k_2) (f := 811) (by decide) (by decide) (by decide) (by decide) (by decide)).trans (hf_2.1)), ((show τc_8 812 = τ_2 812 by rw [← hτc_8]; exact fr_s_X8_coverOf τ_2 (nI k_2) (f := 812) (by decide) (by decide) (by decide) (by decide) (by decide)).trans (hf_2.2.1)), ((show τc_8 814 = τ_2 814 by rw [← hτc_8]; exact fr_s_X8_coverOf τ_2 (nI k_2) (f := 814) (by decide) (by decide) (by decide) (by decide) (by decide)).trans (hf_2.2.2.1)), ((show τc_8 815 = τ_2 815 by rw [← hτc_8]; exact fr_s_X8_coverOf τ_2 (nI k_2) (f := 815) (by decide) (by decide) (by decide) (by decide) (by decide)).trans (hf_2.2.2.2))⟩) _ _ _ hR hP hD hS (lv_sub hl [0, 1, 3, 4, 5, 6] rfl)
    exact hL_2 _ 0 a2 τ_1 ⟨rfl, by decide⟩ hI_1 (⟨hf_1.1, hf_1.2.1, hf_1.2.2.1, hf_1.2.2.2⟩) _ _ _ hR hP hD hS (lv_sub hl [0, 1, 2, 3, 4, 5] rfl)
  have hL_1 : ∀ (n k_1 : Nat) (v3_1 : Int32) (τ_1 : St) (hk_1 : lpk (τ_1 812 0) k_1 n) (hI_1 : IX τ_1) (hf_1 : τ_1 811 = σ 811 ∧ τ_1 812 = σ 812 ∧ τ_1 814 = σ 814 ∧ τ_1 815 = σ 815) (H : Heap) (locs : List Loc) (ls : Array Slot), s_X8_shareHay_c5 a1 a2 (iter (s_X8_shareHay_l5 a1) n k_1 (v3_1, τ_1)) = R → va_P D vwCl (WC ca h ad pa τ_1) H → va_D A (WC ca h ad pa τ_1) → va_S A s.heap H locs → lv_has ls 7 [(4, .int (nI k_1)), (3, .int v3_1), (0, .ref h), (1, .int a1), (2, .int a2)] → W p l e ((headSpec wsX8_shareHay ({ frames := 3, cells := 0, slots := 0, locals := 66 })).room) s m ([.ref h, .int a1, .int a2] : List Value).toArray below meth c H locs 0 0 QQ (F0 m 5 ls []) := by
    intro n
    induction n with
    | zero =>
      intro k_1 v3_1 τ_1 hk_1 hI_1 hf_1 H locs ls hR hP hD hS hl
      refine lv_iload hx hb dX8_shareHay_5 (lv_at hl 0 rfl) ?_
      refine lv_aload_n hx hb dX8_shareHay_7 rfl (lv_at hl 2 rfl) ?_
      refine va_get (D := D) (ci := 8) (v := .int (τ_1 812 0)) (C := RX8) (T := TX8) (N := 19) hx hb hts hu8 hown hK hP 0 wc_0 rfl 12 (by decide) (hts (.fieldLink RX8 79 "GrazeBook" "ownerCount" "I") (List.mem_cons_of_mem _ mw_222)) (fun _ h9 => h9) rfl dX8_shareHay_8 ?_
      refine lv_icmp_ge (tgt := 33) hx hb dX8_shareHay_11 (by decide) (fun _ => ?_) (fun c_10 => absurd (ge_end hk_1) c_10)
      exact hE_1 v3_1 τ_1 hI_1 hf_1 _ _ _ hR hP hD hS (lv_sub hl [1, 2, 3, 4] rfl)
    | succ n ih =>
      intro k_1 v3_1 τ_1 hk_1 hI_1 hf_1 H locs ls hR hP hD hS hl
      obtain ⟨S_1, hB_1⟩ : ∃ s9, s_X8_shareHay_l5 a1 k_1 (v3_1, τ_1) = s9 := ⟨_, rfl⟩
      have hR : s_X8_shareHay_c5 a1 a2 (iter (s_X8_shareHay_l5 a1) n (k_1 + 1) S_1) = R := by rw [← hB_1]; exact hR
      have hB_1 : ((v3_1 + (s_X1_partsForHay (s_X8_coverOf τ_1 (nI k_1)) a1)), (s_X8_coverOf τ_1 (nI k_1))) = S_1 := hB_1
      refine lv_iload hx hb dX8_shareHay_5 (lv_at hl 0 rfl) ?_
      refine lv_aload_n hx hb dX8_shareHay_7 rfl (lv_at hl 2 rfl) ?_
      refine va_get (D := D) (ci := 8) (v := .int (τ_1 812 0)) (C := RX8) (T := TX8) (N := 19) hx hb hts hu8 hown hK hP 0 wc_0 rfl 12 (by decide) (hts (.fieldLink RX8 79 "GrazeBook" "ownerCount" "I") (List.mem_cons_of_mem _ mw_222)) (fun _ h9 => h9) rfl dX8_shareHay_8 ?_
      refine lv_icmp_ge (tgt := 33) hx hb dX8_shareHay_11 (by decide) (fun c_11 => absurd c_11 (ge_go hk_1)) (fun _ => ?_)
      refine lv_iload_n hx hb dX8_shareHay_14 rfl (lv_at hl 1 rfl) ?_
      refine lv_aload_n hx hb dX8_shareHay_15 rfl (lv_at hl 2 rfl) ?_
      refine lv_iload hx hb dX8_shareHay_16 (lv_at hl 0 rfl) ?_
      have hF := pw_free hD hS hA
      refine va_callr (va_runV (As := [.int (nI k_1)]) (rest := [.int v3_1]) ⟨hx, hb, hml, hown, hts⟩ (k_X8_coverOf l D ca h ad pa tb τ_1 (nI k_1) H.size hI_1 _ rfl) (cwV 1 hts gX8_shareHay_X8_coverOf rfl rfl rfl (by decide +kernel) ⟨Nat.le_of_ble_eq_true rfl, Nat.le_of_ble_eq_true rfl⟩) ⟨cw_blind, va_recv hK hP (ci := 8) (q0 := 0) rfl wc_0, cw_give hP hK hD hZ hS hF⟩ rfl rfl hl.1 rfl (lv_room (Nat.le_of_ble_eq_true rfl)) dX8_shareHay_18 ⟨Nat.le_of_ble_eq_true rfl, Nat.le_of_ble_eq_true rfl⟩) hS (fun q _ h => hF q h) hF (fun u r_12 t H1 locs ht hvm hw hB hz1 hk1 hS => ?_)
      obtain ⟨er_12, hB⟩ := hB
      subst er_12
      obtain ⟨hB, hI_13⟩ := hB
      obtain ⟨hP, hD⟩ := pw_back hF ht hB
      clear hB hk1 hz1 hF
      generalize H1 = H at hP hS ⊢
      obtain ⟨τc_14, hτc_14⟩ : ∃ t9, (s_X8_coverOf τ_1 (nI k_1)) = t9 := ⟨_, rfl⟩
      rw [hτc_14] at hP hD hI_13
      (try rw [hτc_14] at hB_1)
      refine lv_iload_n hx hb dX8_shareHay_21 rfl (lv_at hl 3 rfl) ?_
      have hF := pw_free hD hS hA
      refine va_calli (va_runV (As := [.int a1]) (rest := [.int v3_1]) ⟨hx, hb, hml, hown, hts⟩ (k_X1_partsForHay l D ca h ad pa tb τc_14 a1 H.size hI_13 _ rfl) (cwV 1 hts gX8_shareHay_X1_partsForHay rfl rfl rfl (by decide +kernel) ⟨Nat.le_of_ble_eq_true rfl, Nat.le_of_ble_eq_true rfl⟩) ⟨cw_blind, va_recv hK hP (ci := 1) (q0 := 3) rfl wc_3, cw_give hP hK hD hZ hS hF⟩ rfl rfl hl.1 rfl (lv_room (Nat.le_of_ble_eq_true rfl)) dX8_shareHay_22 ⟨Nat.le_of_ble_eq_true rfl, Nat.le_of_ble_eq_true rfl⟩) hS (fun q _ h => hF q h) hF (fun r_15 u t H1 locs ht hvm hw hB hz1 hk1 hS => ?_)
      rw [hw]
      obtain ⟨hP, hD⟩ := pw_back hF ht hB
      clear hB hk1 hz1 hF
      generalize H1 = H at hP hS ⊢
      refine lv_iadd hx hb dX8_shareHay_25 ?_
      refine lv_istore_n (lv' := [(3, .int (v3_1 + (s_X1_partsForHay τc_14 a1))), (4, .int (nI k_1)), (0, .ref h), (1, .int a1), (2, .int a2)]) hx hb dX8_shareHay_26 rfl hl (by decide) rfl (fun ls hl => ?_)
      refine lv_iinc (v := (nI (k_1 + 1))) (lv' := [(4, .int (nI (k_1 + 1))), (3, .int (v3_1 + (s_X1_partsForHay τc_14 a1))), (0, .ref h), (1, .int a1), (2, .int a2)]) hx hb dX8_shareHay_27 hl (k := 1) rfl (by rw [show Int32.ofInt 1 = 1 from by decide]; exact nI_1 _) (by decide) rfl (fun ls hl => ?_)
      refine lv_goto (tgt := 5) hx hb dX8_shareHay_30 (by decide) ?_
      subst hB_1
      exact ih (k_1 + 1) (v3_1 + (s_X1_partsForHay τc_14 a1)) τc_14 (lpk_cast (congrFun ((show τc_14 812 = τ_1 812 by rw [← hτc_14]; exact fr_s_X8_coverOf τ_1 (nI k_1) (f := 812) (by decide) (by decide) (by decide) (by decide) (by decide)).trans rfl) 0) (ge_next hk_1)) hI_13 (⟨((show τc_14 811 = τ_1 811 by rw [← hτc_14]; exact fr_s_X8_coverOf τ_1 (nI k_1) (f := 811) (by decide) (by decide) (by decide) (by decide) (by decide)).trans (hf_1.1)), ((show τc_14 812 = τ_1 812 by rw [← hτc_14]; exact fr_s_X8_coverOf τ_1 (nI k_1) (f := 812) (by decide) (by decide) (by decide) (by decide) (by decide)).trans (hf_1.2.1)), ((show τc_14 814 = τ_1 814 by rw [← hτc_14]; exact fr_s_X8_coverOf τ_1 (nI k_1) (f := 814) (by decide) (by decide) (by decide) (by decide) (by decide)).trans (hf_1.2.2.1)), ((show τc_14 815 = τ_1 815 by rw [← hτc_14]; exact fr_s_X8_coverOf τ_1 (nI k_1) (f := 815) (by decide) (by decide) (by decide) (by decide) (by decide)).trans (hf_1.2.2.2))⟩) _ _ _ hR hP hD hS (lv_sub hl [0, 1, 2, 3, 4] rfl)
  exact hL_1 _ 0 (0 : Int32) σ ⟨rfl, by decide⟩ hI (⟨rfl, rfl, rfl, rfl⟩) _ _ _ hR hP hD hS (lv_sub hl [0, 1, 2, 3, 4] rfl)

def s_X8_latestOn_c5  : Int32 → Int32 := fun x9 => match x9 with
  | v3_1 => v3_1
def s_X8_latestOn_l5 (σ : St) (a1 : Int32) (a2 : Int32) (k_1 : Nat) : Int32 → Int32 := fun x9 => match x9 with
  | v3_1 => (if (σ 203 k_1) = a1 then (if a2 ≤ (σ 204 k_1) then v3_1 else (if v3_1 = (-1 : Int32) then (nI k_1) else (if (σ 204 k_1) ≤ (σ 204 (v3_1.toNatClampNeg)) then v3_1 else (nI k_1)))) else v3_1)
def s_X8_latestOn (σ : St) (a1 : Int32) (a2 : Int32) : Int32 := (s_X8_latestOn_c5 (iter (s_X8_latestOn_l5 σ a1 a2) ((σ 815 0).toNatClampNeg - 0) 0 (-1 : Int32)))
set_option maxHeartbeats 1000000 in
set_option maxRecDepth 100000 in
theorem k_X8_latestOn (l : Launch) (D : va_G) (ca : Nat → ClassId) (h : Nat) (ad : Nat → Nat) (pa : Nat → Nat → Nat) (tb : Nat) (σ : St) (a1 : Int32) (a2 : Int32) (sz : Nat) (hI : IX σ)  (R : Int32) (hR : s_X8_latestOn σ a1 a2 = R) : Met l yX8_latestOn wsX8_latestOn ({ frames := 0, cells := 0, slots := 0, locals := 0 }) (va_Pc [.ref h, .int a1, .int a2] (cw_pre D ca (WC ca h ad pa σ) sz tb)) (va_Qi (fun (r : Int32) (_ : Unit) => r = R) (fun (_ : Unit) (t : State) => pw_post D ca (WC ca h ad pa σ) sz (WC ca h ad pa σ) t) (va_A (WC ca h ad pa σ) sz)) 0 0 (va_A (WC ca h ad pa σ) sz) := by
  refine Met.ofW (cc := cX8_latestOn) (maxL := 6) (ret := (some .int)) (by decide) rfl ?_
  intro p e s m args below meth c s₁ B hml hv
  obtain ⟨rfl, ⟨hsz, hP, hK, hD0⟩, hZ⟩ := hv
  have hx := B.exec
  have hb := B.bytes
  have hr := B.returns
  have hts := atoms_spec (ws := wsX8_latestOn) B.pre
  have hown : s.vm.findClass RX8 = some m.cls := findClass_of_methodNamed B.named
  have hlocks := B.notSynchronized
  have hu2 : ∀ w ∈ u_ws RX2 TX2 8, w ∈ wsX8_latestOn := fun w h => List.mem_cons_of_mem _ (uw2 w h)
  have hu8 : ∀ w ∈ u_ws RX8 TX8 19, w ∈ wsX8_latestOn := fun w h => List.mem_cons_of_mem _ (uw8 w h)
  subst hsz
  have hD := hD0.self (sz := s.heap.size)
  obtain ⟨A, hAe⟩ : ∃ A, A = va_A (WC ca h ad pa σ) s.heap.size := ⟨_, rfl⟩
  rw [← hAe] at hD hZ ⊢
  have hA : ∀ q : Nat, s.heap.size ≤ q → A q := fun q h => by rw [hAe]; exact Or.inr h
  have hS : va_S A s.heap s.heap [] := va_S.rf
  have hl := lv_entry ([.ref h, .int a1, .int a2]) (n := 6) (Nat.le_of_ble_eq_true rfl)
  rw [lg_entry_eq]
  generalize (lg_sl ([.ref h, .int a1, .int a2]) ++ List.replicate (6 - (lg_sl ([.ref h, .int a1, .int a2])).length) Slot.unset).toArray = ls at hl ⊢
  have hl : lv_has ls 6 [(0, .ref h), (1, .int a1), (2, .int a2)] := hl
  obtain ⟨H, hH⟩ : ∃ H, H = s.heap := ⟨_, rfl⟩
  have hP : va_P D vwCl (WC ca h ad pa σ) H := by rw [hH]; exact hP
  have hS : va_S A s.heap H [] := by rw [hH]; exact hS
  obtain ⟨QQ, hQ⟩ : ∃ Q9, Q9 = MQ below (va_Qi (fun (r : Int32) (_ : Unit) => r = R) (fun (_ : Unit) (t : State) => pw_post D ca (WC ca h ad pa σ) s.heap.size (WC ca h ad pa σ) t) A) ([.ref h, .int a1, .int a2] : List Value).toArray s 0 0 A := ⟨_, rfl⟩
  rw [← hQ]
  show W _ _ _ _ _ _ _ _ _ _ s.heap _ _ _ _ _
  rw [← hH]
  have hR : (s_X8_latestOn_c5 (iter (s_X8_latestOn_l5 σ a1 a2) ((σ 815 0).toNatClampNeg - 0) 0 (-1 : Int32))) = R := hR
  refine lv_iconst (v := (-1 : Int32)) hx hb dX8_latestOn_0 (by decide) ?_
  refine lv_istore_n (lv' := [(3, .int (-1 : Int32)), (0, .ref h), (1, .int a1), (2, .int a2)]) hx hb dX8_latestOn_1 rfl hl (by decide) rfl (fun ls hl => ?_)
  refine lv_iconst (v := (0 : Int32)) hx hb dX8_latestOn_2 (by decide) ?_
  refine lv_istore (lv' := [(4, .int (0 : Int32)), (3, .int (-1 : Int32)), (0, .ref h), (1, .int a1), (2, .int a2)]) hx hb dX8_latestOn_3 hl (by decide) rfl (fun ls hl => ?_)
  have hE_1 : ∀ (v3_1 : Int32) (hv_1 : v3_1 = (-1 : Int32) ∨ (0 ≤ v3_1.toInt ∧ v3_1.toInt < (σ 815 0).toInt)) (H : Heap) (locs : List Loc) (ls : Array Slot), s_X8_latestOn_c5 v3_1 = R → va_P D vwCl (WC ca h ad pa σ) H → va_D A (WC ca h ad pa σ) → va_S A s.heap H locs → lv_has ls 6 [(3, .int v3_1)] → W p l e ((headSpec wsX8_latestOn ({ frames := 0, cells := 0, slots := 0, locals := 0 })).room) s m ([.ref h, .int a1, .int a2] : List Value).toArray below meth c H locs 0 0 QQ (F0 m 90 ls []) := by
    intro v3_1 hv_1 H locs ls hR hP hD hS hl
    have hR : v3_1 = R := hR
    refine lv_iload_n hx hb dX8_latestOn_90 rfl (lv_at hl 0 rfl) ?_
    subst hR
    rw [hQ]
    exact W.iret (v := v3_1) hx hb hr (fun t ht hW => ⟨⟨v3_1, (), rfl, rfl, ⟨by rw [ht]; exact hP, va_K.moved hW.alike hK, by rw [← hAe]; exact hD⟩⟩, hS.F ht⟩) hS.2.2 dX8_latestOn_91
  have hL_1 : ∀ (n k_1 : Nat) (v3_1 : Int32) (hk_1 : lpk (σ 815 0) k_1 n) (hv_1 : v3_1 = (-1 : Int32) ∨ (0 ≤ v3_1.toInt ∧ v3_1.toInt < (σ 815 0).toInt)) (H : Heap) (locs : List Loc) (ls : Array Slot), s_X8_latestOn_c5 (iter (s_X8_latestOn_l5 σ a1 a2) n k_1 v3_1) = R → va_P D vwCl (WC ca h ad pa σ) H → va_D A (WC ca h ad pa σ) → va_S A s.heap H locs → lv_has ls 6 [(4, .int (nI k_1)), (3, .int v3_1), (0, .ref h), (1, .int a1), (2, .int a2)] → W p l e ((headSpec wsX8_latestOn ({ frames := 0, cells := 0, slots := 0, locals := 0 })).room) s m ([.ref h, .int a1, .int a2] : List Value).toArray below meth c H locs 0 0 QQ (F0 m 5 ls []) := by
    intro n
    induction n with
    | zero =>
      intro k_1 v3_1 hk_1 hv_1 H locs ls hR hP hD hS hl
      refine lv_iload hx hb dX8_latestOn_5 (lv_at hl 0 rfl) ?_
      refine lv_aload_n hx hb dX8_latestOn_7 rfl (lv_at hl 2 rfl) ?_
      refine va_get (D := D) (ci := 8) (v := .int (σ 815 0)) (C := RX8) (T := TX8) (N := 19) hx hb hts hu8 hown hK hP 0 wc_0 rfl 15 (by decide) (hts (.fieldLink RX8 88 "GrazeBook" "herdCount" "I") (List.mem_cons_of_mem _ mw_225)) (fun _ h9 => h9) rfl dX8_latestOn_8 ?_
      refine lv_icmp_ge (tgt := 90) hx hb dX8_latestOn_11 (by decide) (fun _ => ?_) (fun c_2 => absurd (ge_end hk_1) c_2)
      exact hE_1 v3_1 hv_1 _ _ _ hR hP hD hS (lv_sub hl [1] rfl)
    | succ n ih =>
      intro k_1 v3_1 hk_1 hv_1 H locs ls hR hP hD hS hl
      obtain ⟨S_1, hB_1⟩ : ∃ s9, s_X8_latestOn_l5 σ a1 a2 k_1 v3_1 = s9 := ⟨_, rfl⟩
      have hR : s_X8_latestOn_c5 (iter (s_X8_latestOn_l5 σ a1 a2) n (k_1 + 1) S_1) = R := by rw [← hB_1]; exact hR
      have hB_1 : (if (σ 203 k_1) = a1 then (if a2 ≤ (σ 204 k_1) then v3_1 else (if v3_1 = (-1 : Int32) then (nI k_1) else (if (σ 204 k_1) ≤ (σ 204 (v3_1.toNatClampNeg)) then v3_1 else (nI k_1)))) else v3_1) = S_1 := hB_1
      refine lv_iload hx hb dX8_latestOn_5 (lv_at hl 0 rfl) ?_
      refine lv_aload_n hx hb dX8_latestOn_7 rfl (lv_at hl 2 rfl) ?_
      refine va_get (D := D) (ci := 8) (v := .int (σ 815 0)) (C := RX8) (T := TX8) (N := 19) hx hb hts hu8 hown hK hP 0 wc_0 rfl 15 (by decide) (hts (.fieldLink RX8 88 "GrazeBook" "herdCount" "I") (List.mem_cons_of_mem _ mw_225)) (fun _ h9 => h9) rfl dX8_latestOn_8 ?_
      refine lv_icmp_ge (tgt := 90) hx hb dX8_latestOn_11 (by decide) (fun c_3 => absurd c_3 (ge_go hk_1)) (fun _ => ?_)
      refine lv_aload_n hx hb dX8_latestOn_14 rfl (lv_at hl 2 rfl) ?_
      refine va_get (D := D) (ci := 8) (v := .ref (ad 805)) (C := RX8) (T := TX8) (N := 19) hx hb hts hu8 hown hK hP 0 wc_0 rfl 5 (by decide) (hts (.fieldLink RX8 40 "GrazeBook" "herds" "[LGrazeBook$Drove;") (List.mem_cons_of_mem _ mw_215)) (fun _ h9 => h9) rfl dX8_latestOn_15 ?_
      refine lv_iload hx hb dX8_latestOn_18 (lv_at hl 0 rfl) ?_
      refine va_aldq_k (k := k_1) (b := pa 3 k_1) hx hb hK hP 9 5 wc_9 rfl (ix_cl hk_1) (rf_at (k_ltb hk_1)) (ix_loop (N := 20) hk_1 (ix_815 hI) (by decide) (by decide)) dX8_latestOn_20 ?_
      refine va_get (D := D) (ci := 2) (v := .int (σ 203 k_1)) (C := RX2) (T := TX2) (N := 8) hx hb hts hu2 hown hK hP (pcD ca h ad pa σ k_1) (wc_aD (k_ltb hk_1)) rfl 3 (by decide) (hts (.fieldLink RX8 163 "GrazeBook$Drove" "piece" "I") (List.mem_cons_of_mem _ mw_451)) (fun _ h9 => h9) rfl dX8_latestOn_21 ?_
      refine lv_iload_n hx hb dX8_latestOn_24 rfl (lv_at hl 3 rfl) ?_
      refine lv_icmp_ne (tgt := 46) hx hb dX8_latestOn_25 (by decide) (fun c_4 => ?_) (fun c_4 => ?_)
      · have hB_1 := (if_neg c_4).symm.trans hB_1
        refine lv_iconst (v := (0 : Int32)) hx hb dX8_latestOn_46 (by decide) ?_
        refine lv_istore (lv' := [(5, .int (0 : Int32)), (4, .int (nI k_1)), (3, .int v3_1), (0, .ref h), (1, .int a1), (2, .int a2)]) hx hb dX8_latestOn_47 hl (by decide) rfl (fun ls hl => ?_)
        refine lv_iload hx hb dX8_latestOn_49 (lv_at hl 0 rfl) ?_
        refine lv_if_eq (tgt := 84) hx hb dX8_latestOn_51 (by decide) (fun _ => ?_) (fun c_5 => absurd (by decide) c_5)
        refine lv_iinc (v := (nI (k_1 + 1))) (lv' := [(4, .int (nI (k_1 + 1))), (5, .int (0 : Int32)), (3, .int v3_1), (0, .ref h), (1, .int a1), (2, .int a2)]) hx hb dX8_latestOn_84 hl (k := 1) rfl (by rw [show Int32.ofInt 1 = 1 from by decide]; exact nI_1 _) (by decide) rfl (fun ls hl => ?_)
        refine lv_goto (tgt := 5) hx hb dX8_latestOn_87 (by decide) ?_
        subst hB_1
        exact ih (k_1 + 1) v3_1 (ge_next hk_1) hv_1 _ _ _ hR hP hD hS (lv_sub hl [0, 2, 3, 4, 5] rfl)
      · have hB_1 := (if_pos c_4).symm.trans hB_1
        refine lv_aload_n hx hb dX8_latestOn_28 rfl (lv_at hl 2 rfl) ?_
        refine va_get (D := D) (ci := 8) (v := .ref (ad 805)) (C := RX8) (T := TX8) (N := 19) hx hb hts hu8 hown hK hP 0 wc_0 rfl 5 (by decide) (hts (.fieldLink RX8 40 "GrazeBook" "herds" "[LGrazeBook$Drove;") (List.mem_cons_of_mem _ mw_215)) (fun _ h9 => h9) rfl dX8_latestOn_29 ?_
        refine lv_iload hx hb dX8_latestOn_32 (lv_at hl 0 rfl) ?_
        refine va_aldq_k (k := k_1) (b := pa 3 k_1) hx hb hK hP 9 5 wc_9 rfl (ix_cl hk_1) (rf_at (k_ltb hk_1)) (ix_loop (N := 20) hk_1 (ix_815 hI) (by decide) (by decide)) dX8_latestOn_34 ?_
        refine va_get (D := D) (ci := 2) (v := .int (σ 204 k_1)) (C := RX2) (T := TX2) (N := 8) hx hb hts hu2 hown hK hP (pcD ca h ad pa σ k_1) (wc_aD (k_ltb hk_1)) rfl 4 (by decide) (hts (.fieldLink RX8 175 "GrazeBook$Drove" "order" "I") (List.mem_cons_of_mem _ mw_453)) (fun _ h9 => h9) rfl dX8_latestOn_35 ?_
        refine lv_iload_n hx hb dX8_latestOn_38 rfl (lv_at hl 4 rfl) ?_
        refine lv_icmp_ge (tgt := 46) hx hb dX8_latestOn_39 (by decide) (fun c_6 => ?_) (fun c_6 => ?_)
        · have hB_1 := (if_pos c_6).symm.trans hB_1
          refine lv_iconst (v := (0 : Int32)) hx hb dX8_latestOn_46 (by decide) ?_
          refine lv_istore (lv' := [(5, .int (0 : Int32)), (4, .int (nI k_1)), (3, .int v3_1), (0, .ref h), (1, .int a1), (2, .int a2)]) hx hb dX8_latestOn_47 hl (by decide) rfl (fun ls hl => ?_)
          refine lv_iload hx hb dX8_latestOn_49 (lv_at hl 0 rfl) ?_
          refine lv_if_eq (tgt := 84) hx hb dX8_latestOn_51 (by decide) (fun _ => ?_) (fun c_7 => absurd (by decide) c_7)
          refine lv_iinc (v := (nI (k_1 + 1))) (lv' := [(4, .int (nI (k_1 + 1))), (5, .int (0 : Int32)), (3, .int v3_1), (0, .ref h), (1, .int a1), (2, .int a2)]) hx hb dX8_latestOn_84 hl (k := 1) rfl (by rw [show Int32.ofInt 1 = 1 from by decide]; exact nI_1 _) (by decide) rfl (fun ls hl => ?_)
          refine lv_goto (tgt := 5) hx hb dX8_latestOn_87 (by decide) ?_
          subst hB_1
          exact ih (k_1 + 1) v3_1 (ge_next hk_1) hv_1 _ _ _ hR hP hD hS (lv_sub hl [0, 2, 3, 4, 5] rfl)
        · have hB_1 := (if_neg c_6).symm.trans hB_1
          refine lv_iconst (v := (1 : Int32)) hx hb dX8_latestOn_42 (by decide) ?_
          refine lv_goto (tgt := 47) hx hb dX8_latestOn_43 (by decide) ?_
          refine lv_istore (lv' := [(5, .int (1 : Int32)), (4, .int (nI k_1)), (3, .int v3_1), (0, .ref h), (1, .int a1), (2, .int a2)]) hx hb dX8_latestOn_47 hl (by decide) rfl (fun ls hl => ?_)
          refine lv_iload hx hb dX8_latestOn_49 (lv_at hl 0 rfl) ?_
          refine lv_if_eq (tgt := 84) hx hb dX8_latestOn_51 (by decide) (fun c_8 => absurd c_8 (by decide)) (fun _ => ?_)
          refine lv_iload_n hx hb dX8_latestOn_54 rfl (lv_at hl 2 rfl) ?_
          refine lv_iconst (v := (-1 : Int32)) hx hb dX8_latestOn_55 (by decide) ?_
          refine lv_icmp_eq (tgt := 81) hx hb dX8_latestOn_56 (by decide) (fun c_9 => ?_) (fun c_9 => ?_)
          · have hB_1 := (if_pos c_9).symm.trans hB_1
            refine lv_iload hx hb dX8_latestOn_81 (lv_at hl 1 rfl) ?_
            refine lv_istore_n (lv' := [(3, .int (nI k_1)), (5, .int (1 : Int32)), (4, .int (nI k_1)), (0, .ref h), (1, .int a1), (2, .int a2)]) hx hb dX8_latestOn_83 rfl hl (by decide) rfl (fun ls hl => ?_)
            refine lv_iinc (v := (nI (k_1 + 1))) (lv' := [(4, .int (nI (k_1 + 1))), (3, .int (nI k_1)), (5, .int (1 : Int32)), (0, .ref h), (1, .int a1), (2, .int a2)]) hx hb dX8_latestOn_84 hl (k := 2) rfl (by rw [show Int32.ofInt 1 = 1 from by decide]; exact nI_1 _) (by decide) rfl (fun ls hl => ?_)
            refine lv_goto (tgt := 5) hx hb dX8_latestOn_87 (by decide) ?_
            subst hB_1
            exact ih (k_1 + 1) (nI k_1) (ge_next hk_1) (Or.inr (lo_k hk_1)) _ _ _ hR hP hD hS (lv_sub hl [0, 1, 3, 4, 5] rfl)
          · have hB_1 := (if_neg c_9).symm.trans hB_1
            refine lv_aload_n hx hb dX8_latestOn_59 rfl (lv_at hl 3 rfl) ?_
            refine va_get (D := D) (ci := 8) (v := .ref (ad 805)) (C := RX8) (T := TX8) (N := 19) hx hb hts hu8 hown hK hP 0 wc_0 rfl 5 (by decide) (hts (.fieldLink RX8 40 "GrazeBook" "herds" "[LGrazeBook$Drove;") (List.mem_cons_of_mem _ mw_215)) (fun _ h9 => h9) rfl dX8_latestOn_60 ?_
            refine lv_iload hx hb dX8_latestOn_63 (lv_at hl 1 rfl) ?_
            refine va_aldq_k (k := k_1) (b := pa 3 k_1) hx hb hK hP 9 5 wc_9 rfl (ix_cl hk_1) (rf_at (k_ltb hk_1)) (ix_loop (N := 20) hk_1 (ix_815 hI) (by decide) (by decide)) dX8_latestOn_65 ?_
            refine va_get (D := D) (ci := 2) (v := .int (σ 204 k_1)) (C := RX2) (T := TX2) (N := 8) hx hb hts hu2 hown hK hP (pcD ca h ad pa σ k_1) (wc_aD (k_ltb hk_1)) rfl 4 (by decide) (hts (.fieldLink RX8 175 "GrazeBook$Drove" "order" "I") (List.mem_cons_of_mem _ mw_453)) (fun _ h9 => h9) rfl dX8_latestOn_66 ?_
            refine lv_aload_n hx hb dX8_latestOn_69 rfl (lv_at hl 3 rfl) ?_
            refine va_get (D := D) (ci := 8) (v := .ref (ad 805)) (C := RX8) (T := TX8) (N := 19) hx hb hts hu8 hown hK hP 0 wc_0 rfl 5 (by decide) (hts (.fieldLink RX8 40 "GrazeBook" "herds" "[LGrazeBook$Drove;") (List.mem_cons_of_mem _ mw_215)) (fun _ h9 => h9) rfl dX8_latestOn_70 ?_
            refine lv_iload_n hx hb dX8_latestOn_73 rfl (lv_at hl 2 rfl) ?_
            refine va_aldq_k (k := (v3_1.toNatClampNeg)) (b := pa 3 (v3_1.toNatClampNeg)) hx hb hK hP 9 5 wc_9 rfl rfl (rf_at (own_inb (hv_1.resolve_left c_9))) (lo_rng (hv_1.resolve_left c_9) (ix_815 hI)) dX8_latestOn_74 ?_
            refine va_get (D := D) (ci := 2) (v := .int (σ 204 (v3_1.toNatClampNeg))) (C := RX2) (T := TX2) (N := 8) hx hb hts hu2 hown hK hP (pcD ca h ad pa σ (v3_1.toNatClampNeg)) (wc_aD (own_inb (hv_1.resolve_left c_9))) rfl 4 (by decide) (hts (.fieldLink RX8 175 "GrazeBook$Drove" "order" "I") (List.mem_cons_of_mem _ mw_453)) (fun _ h9 => h9) rfl dX8_latestOn_75 ?_
            refine lv_icmp_le (tgt := 84) hx hb dX8_latestOn_78 (by decide) (fun c_10 => ?_) (fun c_10 => ?_)
            · have hB_1 := (if_pos c_10).symm.trans hB_1
              refine lv_iinc (v := (nI (k_1 + 1))) (lv' := [(4, .int (nI (k_1 + 1))), (5, .int (1 : Int32)), (3, .int v3_1), (0, .ref h), (1, .int a1), (2, .int a2)]) hx hb dX8_latestOn_84 hl (k := 1) rfl (by rw [show Int32.ofInt 1 = 1 from by decide]; exact nI_1 _) (by decide) rfl (fun ls hl => ?_)
              refine lv_goto (tgt := 5) hx hb dX8_latestOn_87 (by decide) ?_
              subst hB_1
              exact ih (k_1 + 1) v3_1 (ge_next hk_1) hv_1 _ _ _ hR hP hD hS (lv_sub hl [0, 2, 3, 4, 5] rfl)
            · have hB_1 := (if_neg c_10).symm.trans hB_1
              refine lv_iload hx hb dX8_latestOn_81 (lv_at hl 1 rfl) ?_
              refine lv_istore_n (lv' := [(3, .int (nI k_1)), (5, .int (1 : Int32)), (4, .int (nI k_1)), (0, .ref h), (1, .int a1), (2, .int a2)]) hx hb dX8_latestOn_83 rfl hl (by decide) rfl (fun ls hl => ?_)
              refine lv_iinc (v := (nI (k_1 + 1))) (lv' := [(4, .int (nI (k_1 + 1))), (3, .int (nI k_1)), (5, .int (1 : Int32)), (0, .ref h), (1, .int a1), (2, .int a2)]) hx hb dX8_latestOn_84 hl (k := 2) rfl (by rw [show Int32.ofInt 1 = 1 from by decide]; exact nI_1 _) (by decide) rfl (fun ls hl => ?_)
              refine lv_goto (tgt := 5) hx hb dX8_latestOn_87 (by decide) ?_
              subst hB_1
              exact ih (k_1 + 1) (nI k_1) (ge_next hk_1) (Or.inr (lo_k hk_1)) _ _ _ hR hP hD hS (lv_sub hl [0, 1, 3, 4, 5] rfl)
  exact hL_1 _ 0 (-1 : Int32) ⟨rfl, by decide⟩ (Or.inl rfl) _ _ _ hR hP hD hS (lv_sub hl [0, 1, 2, 3, 4] rfl)

theorem lo_ok {σ : St} (a b : Int32) : s_X8_latestOn σ a b = (-1 : Int32) ∨ (0 ≤ (s_X8_latestOn σ a b).toInt ∧ (s_X8_latestOn σ a b).toInt < (σ 815 0).toInt) := by
  unfold s_X8_latestOn s_X8_latestOn_c5
  dsimp only
  have hn := tn_lt (σ 815 0)
  refine iter_inv (fun v => v = (-1 : Int32) ∨ (0 ≤ v.toInt ∧ v.toInt < (σ 815 0).toInt)) (N := (σ 815 0).toNatClampNeg) (fun k s hk hs => ?_) _ _ _ (by omega) (Or.inl rfl)
  have hk2 : 0 ≤ (nI k).toInt ∧ (nI k).toInt < (σ 815 0).toInt := by
    rw [nI_toInt (by omega)]
    rw [tn_toInt] at hk
    omega
  unfold s_X8_latestOn_l5
  dsimp only
  (repeat' split) <;> first | exact hs | exact Or.inr hk2

def s_X8_over_c36 (σ : St) (a1 : Int32) (a2 : Int32) : (Int32 × Int32) → Int32 × St := fun x9 => match x9 with
  | (v4_5, v3_5) => (if a2 < (0 : Int32) then ((-9 : Int32), σ) else (if v4_5 = (-1 : Int32) then ((-9 : Int32), σ) else (if v3_5 ≤ (σ 401 (a1.toNatClampNeg)) then ((-9 : Int32), σ) else (v4_5, σ))))
def s_X8_over_l36 (σ : St) (a1 : Int32) (k_5 : Nat) : (Int32 × Int32) → Option (Int32 × Int32) := fun x9 => match x9 with
  | (v4_5, v3_5) => (if (20 : Int32) ≤ (nI k_5) then none else (if v4_5 = (-1 : Int32) then none else (some ((s_X8_latestOn σ a1 (σ 204 (v4_5.toNatClampNeg))), (v3_5 - (s_X2_parts σ (v4_5.toNatClampNeg)))))))
def s_X8_over (σ : St) (a1 : Int32) (a2 : Int32) : Int32 × St := (if (s_X8_isPiece σ a1) = (0 : Int32) then (((s_X8_refuse σ (-1 : Int32)).1), ((s_X8_refuse σ (-1 : Int32)).2)) else (s_X8_over_c36 σ a1 a2 (iterC (s_X8_over_l36 σ a1) (a2.toNatClampNeg - 0) 0 ((s_X8_latestOn σ a1 ((σ 817 0) + (1 : Int32))), (s_X8_partsOn σ a1)))))
theorem fr_s_X8_over_c36 (σ : St) (a1 : Int32) (a2 : Int32) (s : (Int32 × Int32)) {f : Nat} (h810 : f ≠ 810) : (s_X8_over_c36 σ a1 a2 s).2 f = σ f := by
  obtain ⟨v4_5, v3_5⟩ := s
  unfold s_X8_over_c36
  all_goals ((try dsimp only) <;> ((repeat' split) <;> (try simp only [put_fr, ne_eq, not_false_eq_true, h810, fr_s_X8_refuse])))
theorem fr_s_X8_over (σ : St) (a1 : Int32) (a2 : Int32) {f : Nat} (h810 : f ≠ 810) : (s_X8_over σ a1 a2 ).2 f = σ f := by
  unfold s_X8_over
  all_goals ((try dsimp only) <;> ((repeat' split) <;> (try simp only [put_fr, ne_eq, not_false_eq_true, h810, fr_s_X8_refuse, fr_s_X8_over_c36])))
set_option maxHeartbeats 1000000 in
set_option maxRecDepth 100000 in
theorem k_X8_over (l : Launch) (D : va_G) (ca : Nat → ClassId) (h : Nat) (ad : Nat → Nat) (pa : Nat → Nat → Nat) (tb : Nat) (σ : St) (a1 : Int32) (a2 : Int32) (sz : Nat) (hI : IX σ)  (R1 : Int32) (R2 : St) (hR : s_X8_over σ a1 a2 = (R1, R2)) : Met l yX8_over wsX8_over ({ frames := 2, cells := 0, slots := 0, locals := 43 }) (va_Pc [.ref h, .int a1, .int a2] (cw_pre D ca (WC ca h ad pa σ) sz tb)) (va_Qi (fun (r : Int32) (_ : Unit) => r = R1) (fun (_ : Unit) (t : State) => pw_post D ca (WC ca h ad pa σ) sz (WC ca h ad pa R2) t ∧ IX R2) (va_A (WC ca h ad pa σ) sz)) 0 0 (va_A (WC ca h ad pa σ) sz) := by
  refine Met.ofW (cc := cX8_over) (maxL := 6) (ret := (some .int)) (by decide) rfl ?_
  intro p e s m args below meth c s₁ B hml hv
  obtain ⟨rfl, ⟨hsz, hP, hK, hD0⟩, hZ⟩ := hv
  have hx := B.exec
  have hb := B.bytes
  have hr := B.returns
  have hts := atoms_spec (ws := wsX8_over) B.pre
  have hown : s.vm.findClass RX8 = some m.cls := findClass_of_methodNamed B.named
  have hlocks := B.notSynchronized
  have hu2 : ∀ w ∈ u_ws RX2 TX2 8, w ∈ wsX8_over := fun w h => List.mem_cons_of_mem _ (uw2 w h)
  have hu4 : ∀ w ∈ u_ws RX4 TX4 6, w ∈ wsX8_over := fun w h => List.mem_cons_of_mem _ (uw4 w h)
  have hu8 : ∀ w ∈ u_ws RX8 TX8 19, w ∈ wsX8_over := fun w h => List.mem_cons_of_mem _ (uw8 w h)
  subst hsz
  have hD := hD0.self (sz := s.heap.size)
  obtain ⟨A, hAe⟩ : ∃ A, A = va_A (WC ca h ad pa σ) s.heap.size := ⟨_, rfl⟩
  rw [← hAe] at hD hZ ⊢
  have hA : ∀ q : Nat, s.heap.size ≤ q → A q := fun q h => by rw [hAe]; exact Or.inr h
  have hS : va_S A s.heap s.heap [] := va_S.rf
  have hl := lv_entry ([.ref h, .int a1, .int a2]) (n := 6) (Nat.le_of_ble_eq_true rfl)
  rw [lg_entry_eq]
  generalize (lg_sl ([.ref h, .int a1, .int a2]) ++ List.replicate (6 - (lg_sl ([.ref h, .int a1, .int a2])).length) Slot.unset).toArray = ls at hl ⊢
  have hl : lv_has ls 6 [(0, .ref h), (1, .int a1), (2, .int a2)] := hl
  obtain ⟨H, hH⟩ : ∃ H, H = s.heap := ⟨_, rfl⟩
  have hP : va_P D vwCl (WC ca h ad pa σ) H := by rw [hH]; exact hP
  have hS : va_S A s.heap H [] := by rw [hH]; exact hS
  obtain ⟨QQ, hQ⟩ : ∃ Q9, Q9 = MQ below (va_Qi (fun (r : Int32) (_ : Unit) => r = R1) (fun (_ : Unit) (t : State) => pw_post D ca (WC ca h ad pa σ) s.heap.size (WC ca h ad pa R2) t ∧ IX R2) A) ([.ref h, .int a1, .int a2] : List Value).toArray s 0 0 A := ⟨_, rfl⟩
  rw [← hQ]
  show W _ _ _ _ _ _ _ _ _ _ s.heap _ _ _ _ _
  rw [← hH]
  have hR : (if (s_X8_isPiece σ a1) = (0 : Int32) then (((s_X8_refuse σ (-1 : Int32)).1), ((s_X8_refuse σ (-1 : Int32)).2)) else (s_X8_over_c36 σ a1 a2 (iterC (s_X8_over_l36 σ a1) (a2.toNatClampNeg - 0) 0 ((s_X8_latestOn σ a1 ((σ 817 0) + (1 : Int32))), (s_X8_partsOn σ a1))))) = (R1, R2) := hR
  refine lv_aload_n hx hb dX8_over_0 rfl (lv_at hl 0 rfl) ?_
  refine lv_iload_n hx hb dX8_over_1 rfl (lv_at hl 1 rfl) ?_
  have hF := pw_free hD hS hA
  refine va_calli (va_runV (As := [.int a1]) (rest := []) ⟨hx, hb, hml, hown, hts⟩ (k_X8_isPiece l D ca h ad pa tb σ a1 H.size hI _ rfl) (cwV 1 hts gX8_over_X8_isPiece rfl rfl rfl (by decide +kernel) ⟨Nat.le_of_ble_eq_true rfl, Nat.le_of_ble_eq_true rfl⟩) ⟨cw_blind, va_recv hK hP (ci := 8) (q0 := 0) rfl wc_0, cw_give hP hK hD hZ hS hF⟩ rfl rfl hl.1 rfl (lv_room (Nat.le_of_ble_eq_true rfl)) dX8_over_2 ⟨Nat.le_of_ble_eq_true rfl, Nat.le_of_ble_eq_true rfl⟩) hS (fun q _ h => hF q h) hF (fun r_1 u t H1 locs ht hvm hw hB hz1 hk1 hS => ?_)
  rw [hw]
  obtain ⟨hP, hD⟩ := pw_back hF ht hB
  clear hB hk1 hz1 hF
  generalize H1 = H at hP hS ⊢
  refine lv_if_ne (tgt := 14) hx hb dX8_over_5 (by decide) (fun c_2 => ?_) (fun c_2 => ?_)
  · have hR := (if_neg c_2).symm.trans hR
    refine lv_aload_n hx hb dX8_over_14 rfl (lv_at hl 0 rfl) ?_
    refine lv_iload_n hx hb dX8_over_15 rfl (lv_at hl 1 rfl) ?_
    have hF := pw_free hD hS hA
    refine va_calli (va_runV (As := [.int a1]) (rest := []) ⟨hx, hb, hml, hown, hts⟩ (k_X8_partsOn l D ca h ad pa tb σ a1 H.size hI _ rfl) (cwV 1 hts gX8_over_X8_partsOn rfl rfl rfl (by decide +kernel) ⟨Nat.le_of_ble_eq_true rfl, Nat.le_of_ble_eq_true rfl⟩) ⟨cw_blind, va_recv hK hP (ci := 8) (q0 := 0) rfl wc_0, cw_give hP hK hD hZ hS hF⟩ rfl rfl hl.1 rfl (lv_room (Nat.le_of_ble_eq_true rfl)) dX8_over_16 ⟨Nat.le_of_ble_eq_true rfl, Nat.le_of_ble_eq_true rfl⟩) hS (fun q _ h => hF q h) hF (fun r_3 u t H1 locs ht hvm hw hB hz1 hk1 hS => ?_)
    rw [hw]
    obtain ⟨hP, hD⟩ := pw_back hF ht hB
    clear hB hk1 hz1 hF
    generalize H1 = H at hP hS ⊢
    refine lv_istore_n (lv' := [(3, .int (s_X8_partsOn σ a1)), (0, .ref h), (1, .int a1), (2, .int a2)]) hx hb dX8_over_19 rfl hl (by decide) rfl (fun ls hl => ?_)
    refine lv_aload_n hx hb dX8_over_20 rfl (lv_at hl 1 rfl) ?_
    refine lv_iload_n hx hb dX8_over_21 rfl (lv_at hl 2 rfl) ?_
    refine lv_aload_n hx hb dX8_over_22 rfl (lv_at hl 1 rfl) ?_
    refine va_get (D := D) (ci := 8) (v := .int (σ 817 0)) (C := RX8) (T := TX8) (N := 19) hx hb hts hu8 hown hK hP 0 wc_0 rfl 17 (by decide) (hts (.fieldLink RX8 94 "GrazeBook" "latestOrder" "I") (List.mem_cons_of_mem _ mw_227)) (fun _ h9 => h9) rfl dX8_over_23 ?_
    refine lv_iconst (v := (1 : Int32)) hx hb dX8_over_26 (by decide) ?_
    refine lv_iadd hx hb dX8_over_27 ?_
    have hF := pw_free hD hS hA
    refine va_calli (va_runV (As := [.int a1, .int ((σ 817 0) + (1 : Int32))]) (rest := []) ⟨hx, hb, hml, hown, hts⟩ (k_X8_latestOn l D ca h ad pa tb σ a1 ((σ 817 0) + (1 : Int32)) H.size hI _ rfl) (cwV 2 hts gX8_over_X8_latestOn rfl rfl rfl (by decide +kernel) ⟨Nat.le_of_ble_eq_true rfl, Nat.le_of_ble_eq_true rfl⟩) ⟨cw_blind, va_recv hK hP (ci := 8) (q0 := 0) rfl wc_0, cw_give hP hK hD hZ hS hF⟩ rfl rfl hl.1 rfl (lv_room (Nat.le_of_ble_eq_true rfl)) dX8_over_28 ⟨Nat.le_of_ble_eq_true rfl, Nat.le_of_ble_eq_true rfl⟩) hS (fun q _ h => hF q h) hF (fun r_4 u t H1 locs ht hvm hw hB hz1 hk1 hS => ?_)
    rw [hw]
    obtain ⟨hP, hD⟩ := pw_back hF ht hB
    clear hB hk1 hz1 hF
    generalize H1 = H at hP hS ⊢
    refine lv_istore (lv' := [(4, .int (s_X8_latestOn σ a1 ((σ 817 0) + (1 : Int32)))), (3, .int (s_X8_partsOn σ a1)), (0, .ref h), (1, .int a1), (2, .int a2)]) hx hb dX8_over_31 hl (by decide) rfl (fun ls hl => ?_)
    refine lv_iconst (v := (0 : Int32)) hx hb dX8_over_33 (by decide) ?_
    refine lv_istore (lv' := [(5, .int (0 : Int32)), (4, .int (s_X8_latestOn σ a1 ((σ 817 0) + (1 : Int32)))), (3, .int (s_X8_partsOn σ a1)), (0, .ref h), (1, .int a1), (2, .int a2)]) hx hb dX8_over_34 hl (by decide) rfl (fun ls hl => ?_)
    have hE_5 : ∀ (v4_5 : Int32) (v3_5 : Int32) (hv_5 : v4_5 = (-1 : Int32) ∨ (0 ≤ v4_5.toInt ∧ v4_5.toInt < (σ 815 0).toInt)) (H : Heap) (locs : List Loc) (ls : Array Slot), s_X8_over_c36 σ a1 a2 (v4_5, v3_5) = (R1, R2) → va_P D vwCl (WC ca h ad pa σ) H → va_D A (WC ca h ad pa σ) → va_S A s.heap H locs → lv_has ls 6 [(4, .int v4_5), (3, .int v3_5), (0, .ref h), (1, .int a1), (2, .int a2)] → W p l e ((headSpec wsX8_over ({ frames := 2, cells := 0, slots := 0, locals := 43 })).room) s m ([.ref h, .int a1, .int a2] : List Value).toArray below meth c H locs 0 0 QQ (F0 m 91 ls []) := by
      intro v4_5 v3_5 hv_5 H locs ls hR hP hD hS hl
      have hR : (if a2 < (0 : Int32) then ((-9 : Int32), σ) else (if v4_5 = (-1 : Int32) then ((-9 : Int32), σ) else (if v3_5 ≤ (σ 401 (a1.toNatClampNeg)) then ((-9 : Int32), σ) else (v4_5, σ)))) = (R1, R2) := hR
      refine lv_iload_n hx hb dX8_over_91 rfl (lv_at hl 4 rfl) ?_
      refine lv_if_lt (tgt := 119) hx hb dX8_over_92 (by decide) (fun c_6 => ?_) (fun c_6 => ?_)
      · have hR := (if_pos c_6).symm.trans hR
        refine lv_bipush (v := (-9 : Int32)) hx hb dX8_over_119 (by decide) ?_
        have hI9 : IX σ := hI
        obtain ⟨rfl, rfl⟩ := Prod.mk.inj (show ((-9 : Int32), σ) = (R1, R2) from hR)
        rw [hQ]
        exact W.iret (v := (-9 : Int32)) hx hb hr (fun t ht hW => ⟨⟨(-9 : Int32), (), rfl, rfl, ⟨by rw [ht]; exact hP, va_K.moved hW.alike hK, by rw [← hAe]; exact hD⟩, hI9⟩, hS.F ht⟩) hS.2.2 dX8_over_121
      · have hR := (if_neg c_6).symm.trans hR
        refine lv_iload hx hb dX8_over_95 (lv_at hl 0 rfl) ?_
        refine lv_iconst (v := (-1 : Int32)) hx hb dX8_over_97 (by decide) ?_
        refine lv_icmp_eq (tgt := 119) hx hb dX8_over_98 (by decide) (fun c_7 => ?_) (fun c_7 => ?_)
        · have hR := (if_pos c_7).symm.trans hR
          refine lv_bipush (v := (-9 : Int32)) hx hb dX8_over_119 (by decide) ?_
          have hI9 : IX σ := hI
          obtain ⟨rfl, rfl⟩ := Prod.mk.inj (show ((-9 : Int32), σ) = (R1, R2) from hR)
          rw [hQ]
          exact W.iret (v := (-9 : Int32)) hx hb hr (fun t ht hW => ⟨⟨(-9 : Int32), (), rfl, rfl, ⟨by rw [ht]; exact hP, va_K.moved hW.alike hK, by rw [← hAe]; exact hD⟩, hI9⟩, hS.F ht⟩) hS.2.2 dX8_over_121
        · have hR := (if_neg c_7).symm.trans hR
          refine lv_iload_n hx hb dX8_over_101 rfl (lv_at hl 1 rfl) ?_
          refine lv_aload_n hx hb dX8_over_102 rfl (lv_at hl 2 rfl) ?_
          refine va_get (D := D) (ci := 8) (v := .ref (ad 800)) (C := RX8) (T := TX8) (N := 19) hx hb hts hu8 hown hK hP 0 wc_0 rfl 0 (by decide) (hts (.fieldLink RX8 11 "GrazeBook" "pieces" "[LGrazeBook$Ground;") (List.mem_cons_of_mem _ mw_210)) (fun _ h9 => h9) rfl dX8_over_103 ?_
          refine lv_iload_n hx hb dX8_over_106 rfl (lv_at hl 3 rfl) ?_
          refine va_aldq_k (k := (a1.toNatClampNeg)) (b := pa 0 (a1.toNatClampNeg)) hx hb hK hP 6 2 wc_6 rfl rfl (rf_at (isb_Piece c_2)) (isx_Piece c_2 hI) dX8_over_107 ?_
          refine va_get (D := D) (ci := 4) (v := .int (σ 401 (a1.toNatClampNeg))) (C := RX4) (T := TX4) (N := 6) hx hb hts hu4 hown hK hP (pcG ca h ad pa σ (a1.toNatClampNeg)) (wc_aG (isb_Piece c_2)) rfl 1 (by decide) (hts (.fieldLink RX8 189 "GrazeBook$Ground" "bears" "I") (List.mem_cons_of_mem _ mw_286)) (fun _ h9 => h9) rfl dX8_over_108 ?_
          refine lv_icmp_le (tgt := 119) hx hb dX8_over_111 (by decide) (fun c_8 => ?_) (fun c_8 => ?_)
          · have hR := (if_pos c_8).symm.trans hR
            refine lv_bipush (v := (-9 : Int32)) hx hb dX8_over_119 (by decide) ?_
            have hI9 : IX σ := hI
            obtain ⟨rfl, rfl⟩ := Prod.mk.inj (show ((-9 : Int32), σ) = (R1, R2) from hR)
            rw [hQ]
            exact W.iret (v := (-9 : Int32)) hx hb hr (fun t ht hW => ⟨⟨(-9 : Int32), (), rfl, rfl, ⟨by rw [ht]; exact hP, va_K.moved hW.alike hK, by rw [← hAe]; exact hD⟩, hI9⟩, hS.F ht⟩) hS.2.2 dX8_over_121
          · have hR := (if_neg c_8).symm.trans hR
            refine lv_iload hx hb dX8_over_114 (lv_at hl 0 rfl) ?_
            refine lv_goto (tgt := 121) hx hb dX8_over_116 (by decide) ?_
            have hI9 : IX σ := hI
            obtain ⟨rfl, rfl⟩ := Prod.mk.inj (show (v4_5, σ) = (R1, R2) from hR)
            rw [hQ]
            exact W.iret (v := v4_5) hx hb hr (fun t ht hW => ⟨⟨v4_5, (), rfl, rfl, ⟨by rw [ht]; exact hP, va_K.moved hW.alike hK, by rw [← hAe]; exact hD⟩, hI9⟩, hS.F ht⟩) hS.2.2 dX8_over_121
    have hL_5 : ∀ (n k_5 : Nat) (v4_5 : Int32) (v3_5 : Int32) (hk_5 : lpk a2 k_5 n) (hv_5 : v4_5 = (-1 : Int32) ∨ (0 ≤ v4_5.toInt ∧ v4_5.toInt < (σ 815 0).toInt)) (H : Heap) (locs : List Loc) (ls : Array Slot), s_X8_over_c36 σ a1 a2 (iterC (s_X8_over_l36 σ a1) n k_5 (v4_5, v3_5)) = (R1, R2) → va_P D vwCl (WC ca h ad pa σ) H → va_D A (WC ca h ad pa σ) → va_S A s.heap H locs → lv_has ls 6 [(5, .int (nI k_5)), (4, .int v4_5), (3, .int v3_5), (0, .ref h), (1, .int a1), (2, .int a2)] → W p l e ((headSpec wsX8_over ({ frames := 2, cells := 0, slots := 0, locals := 43 })).room) s m ([.ref h, .int a1, .int a2] : List Value).toArray below meth c H locs 0 0 QQ (F0 m 36 ls []) := by
      intro n
      induction n with
      | zero =>
        intro k_5 v4_5 v3_5 hk_5 hv_5 H locs ls hR hP hD hS hl
        refine lv_iload hx hb dX8_over_36 (lv_at hl 0 rfl) ?_
        refine lv_iload_n hx hb dX8_over_38 rfl (lv_at hl 5 rfl) ?_
        refine lv_icmp_ge (tgt := 91) hx hb dX8_over_39 (by decide) (fun _ => ?_) (fun c_9 => absurd (ge_end hk_5) c_9)
        exact hE_5 v4_5 v3_5 hv_5 _ _ _ hR hP hD hS (lv_sub hl [1, 2, 3, 4, 5] rfl)
      | succ n ih =>
        intro k_5 v4_5 v3_5 hk_5 hv_5 H locs ls hR hP hD hS hl
        obtain ⟨S_5, hB_5⟩ : ∃ s9, s_X8_over_l36 σ a1 k_5 (v4_5, v3_5) = s9 := ⟨_, rfl⟩
        have hR : s_X8_over_c36 σ a1 a2 (iterC1 (s_X8_over_l36 σ a1) n k_5 (v4_5, v3_5) S_5) = (R1, R2) := by rw [← hB_5]; exact hR
        have hB_5 : (if (20 : Int32) ≤ (nI k_5) then none else (if v4_5 = (-1 : Int32) then none else (some ((s_X8_latestOn σ a1 (σ 204 (v4_5.toNatClampNeg))), (v3_5 - (s_X2_parts σ (v4_5.toNatClampNeg))))))) = S_5 := hB_5
        refine lv_iload hx hb dX8_over_36 (lv_at hl 0 rfl) ?_
        refine lv_iload_n hx hb dX8_over_38 rfl (lv_at hl 5 rfl) ?_
        refine lv_icmp_ge (tgt := 91) hx hb dX8_over_39 (by decide) (fun c_10 => absurd c_10 (ge_go hk_5)) (fun _ => ?_)
        refine lv_iload hx hb dX8_over_42 (lv_at hl 0 rfl) ?_
        refine lv_bipush (v := (20 : Int32)) hx hb dX8_over_44 (by decide) ?_
        refine lv_icmp_ge (tgt := 91) hx hb dX8_over_46 (by decide) (fun c_11 => ?_) (fun c_11 => ?_)
        · have hB_5 := (if_pos c_11).symm.trans hB_5
          subst hB_5
          exact hE_5 v4_5 v3_5 hv_5 _ _ _ hR hP hD hS (lv_sub hl [1, 2, 3, 4, 5] rfl)
        · have hB_5 := (if_neg c_11).symm.trans hB_5
          refine lv_iload hx hb dX8_over_49 (lv_at hl 1 rfl) ?_
          refine lv_iconst (v := (-1 : Int32)) hx hb dX8_over_51 (by decide) ?_
          refine lv_icmp_eq (tgt := 91) hx hb dX8_over_52 (by decide) (fun c_12 => ?_) (fun c_12 => ?_)
          · have hB_5 := (if_pos c_12).symm.trans hB_5
            subst hB_5
            exact hE_5 v4_5 v3_5 hv_5 _ _ _ hR hP hD hS (lv_sub hl [1, 2, 3, 4, 5] rfl)
          · have hB_5 := (if_neg c_12).symm.trans hB_5
            refine lv_iload_n hx hb dX8_over_55 rfl (lv_at hl 2 rfl) ?_
            refine lv_aload_n hx hb dX8_over_56 rfl (lv_at hl 3 rfl) ?_
            refine va_get (D := D) (ci := 8) (v := .ref (ad 805)) (C := RX8) (T := TX8) (N := 19) hx hb hts hu8 hown hK hP 0 wc_0 rfl 5 (by decide) (hts (.fieldLink RX8 40 "GrazeBook" "herds" "[LGrazeBook$Drove;") (List.mem_cons_of_mem _ mw_215)) (fun _ h9 => h9) rfl dX8_over_57 ?_
            refine lv_iload hx hb dX8_over_60 (lv_at hl 1 rfl) ?_
            refine va_aldq_k (k := (v4_5.toNatClampNeg)) (b := pa 3 (v4_5.toNatClampNeg)) hx hb hK hP 9 5 wc_9 rfl rfl (rf_at (own_inb (hv_5.resolve_left c_12))) (lo_rng (hv_5.resolve_left c_12) (ix_815 hI)) dX8_over_62 ?_
            have hF := pw_free hD hS hA
            refine va_calli (va_runV (As := []) (rest := [.int v3_5]) ⟨hx, hb, hml, hown, hts⟩ (k_X2_parts l D ca h ad pa tb σ (v4_5.toNatClampNeg) H.size hI (own_inb (hv_5.resolve_left c_12)) _ rfl) (cwV 0 hts gX8_over_X2_parts rfl rfl rfl (by decide +kernel) ⟨Nat.le_of_ble_eq_true rfl, Nat.le_of_ble_eq_true rfl⟩) ⟨cw_blind, va_recv hK hP (ci := 2) (q0 := (pcD ca h ad pa σ (v4_5.toNatClampNeg))) rfl (wc_aD (own_inb (hv_5.resolve_left c_12))), cw_give hP hK hD hZ hS hF⟩ rfl rfl hl.1 rfl (lv_room (Nat.le_of_ble_eq_true rfl)) dX8_over_63 ⟨Nat.le_of_ble_eq_true rfl, Nat.le_of_ble_eq_true rfl⟩) hS (fun q _ h => hF q h) hF (fun r_13 u t H1 locs ht hvm hw hB hz1 hk1 hS => ?_)
            rw [hw]
            obtain ⟨hP, hD⟩ := pw_back hF ht hB
            clear hB hk1 hz1 hF
            generalize H1 = H at hP hS ⊢
            refine lv_isub hx hb dX8_over_66 ?_
            refine lv_istore_n (lv' := [(3, .int (v3_5 - (s_X2_parts σ (v4_5.toNatClampNeg)))), (5, .int (nI k_5)), (4, .int v4_5), (0, .ref h), (1, .int a1), (2, .int a2)]) hx hb dX8_over_67 rfl hl (by decide) rfl (fun ls hl => ?_)
            refine lv_aload_n hx hb dX8_over_68 rfl (lv_at hl 3 rfl) ?_
            refine lv_iload_n hx hb dX8_over_69 rfl (lv_at hl 4 rfl) ?_
            refine lv_aload_n hx hb dX8_over_70 rfl (lv_at hl 3 rfl) ?_
            refine va_get (D := D) (ci := 8) (v := .ref (ad 805)) (C := RX8) (T := TX8) (N := 19) hx hb hts hu8 hown hK hP 0 wc_0 rfl 5 (by decide) (hts (.fieldLink RX8 40 "GrazeBook" "herds" "[LGrazeBook$Drove;") (List.mem_cons_of_mem _ mw_215)) (fun _ h9 => h9) rfl dX8_over_71 ?_
            refine lv_iload hx hb dX8_over_74 (lv_at hl 2 rfl) ?_
            refine va_aldq_k (k := (v4_5.toNatClampNeg)) (b := pa 3 (v4_5.toNatClampNeg)) hx hb hK hP 9 5 wc_9 rfl rfl (rf_at (own_inb (hv_5.resolve_left c_12))) (lo_rng (hv_5.resolve_left c_12) (ix_815 hI)) dX8_over_76 ?_
            refine va_get (D := D) (ci := 2) (v := .int (σ 204 (v4_5.toNatClampNeg))) (C := RX2) (T := TX2) (N := 8) hx hb hts hu2 hown hK hP (pcD ca h ad pa σ (v4_5.toNatClampNeg)) (wc_aD (own_inb (hv_5.resolve_left c_12))) rfl 4 (by decide) (hts (.fieldLink RX8 175 "GrazeBook$Drove" "order" "I") (List.mem_cons_of_mem _ mw_453)) (fun _ h9 => h9) rfl dX8_over_77 ?_
            have hF := pw_free hD hS hA
            refine va_calli (va_runV (As := [.int a1, .int (σ 204 (v4_5.toNatClampNeg))]) (rest := []) ⟨hx, hb, hml, hown, hts⟩ (k_X8_latestOn l D ca h ad pa tb σ a1 (σ 204 (v4_5.toNatClampNeg)) H.size hI _ rfl) (cwV 2 hts gX8_over_X8_latestOn rfl rfl rfl (by decide +kernel) ⟨Nat.le_of_ble_eq_true rfl, Nat.le_of_ble_eq_true rfl⟩) ⟨cw_blind, va_recv hK hP (ci := 8) (q0 := 0) rfl wc_0, cw_give hP hK hD hZ hS hF⟩ rfl rfl hl.1 rfl (lv_room (Nat.le_of_ble_eq_true rfl)) dX8_over_80 ⟨Nat.le_of_ble_eq_true rfl, Nat.le_of_ble_eq_true rfl⟩) hS (fun q _ h => hF q h) hF (fun r_14 u t H1 locs ht hvm hw hB hz1 hk1 hS => ?_)
            rw [hw]
            obtain ⟨hP, hD⟩ := pw_back hF ht hB
            clear hB hk1 hz1 hF
            generalize H1 = H at hP hS ⊢
            refine lv_istore (lv' := [(4, .int (s_X8_latestOn σ a1 (σ 204 (v4_5.toNatClampNeg)))), (3, .int (v3_5 - (s_X2_parts σ (v4_5.toNatClampNeg)))), (5, .int (nI k_5)), (0, .ref h), (1, .int a1), (2, .int a2)]) hx hb dX8_over_83 hl (by decide) rfl (fun ls hl => ?_)
            refine lv_iinc (v := (nI (k_5 + 1))) (lv' := [(5, .int (nI (k_5 + 1))), (4, .int (s_X8_latestOn σ a1 (σ 204 (v4_5.toNatClampNeg)))), (3, .int (v3_5 - (s_X2_parts σ (v4_5.toNatClampNeg)))), (0, .ref h), (1, .int a1), (2, .int a2)]) hx hb dX8_over_85 hl (k := 2) rfl (by rw [show Int32.ofInt 1 = 1 from by decide]; exact nI_1 _) (by decide) rfl (fun ls hl => ?_)
            refine lv_goto (tgt := 36) hx hb dX8_over_88 (by decide) ?_
            subst hB_5
            exact ih (k_5 + 1) (s_X8_latestOn σ a1 (σ 204 (v4_5.toNatClampNeg))) (v3_5 - (s_X2_parts σ (v4_5.toNatClampNeg))) (ge_next hk_5) (lo_ok _ _) _ _ _ hR hP hD hS (lv_sub hl [0, 1, 2, 3, 4, 5] rfl)
    exact hL_5 _ 0 (s_X8_latestOn σ a1 ((σ 817 0) + (1 : Int32))) (s_X8_partsOn σ a1) ⟨rfl, by decide⟩ (lo_ok _ _) _ _ _ hR hP hD hS (lv_sub hl [0, 1, 2, 3, 4, 5] rfl)
  · have hR := (if_pos c_2).symm.trans hR
    refine lv_aload_n hx hb dX8_over_8 rfl (lv_at hl 0 rfl) ?_
    refine lv_iconst (v := (-1 : Int32)) hx hb dX8_over_9 (by decide) ?_
    have hF := pw_free hD hS hA
    refine va_calli (va_runV (As := [.int (-1 : Int32)]) (rest := []) ⟨hx, hb, hml, hown, hts⟩ (k_X8_refuse l D ca h ad pa tb σ (-1 : Int32) H.size hI _ _ (Prod.eta _).symm) (cwV 1 hts gX8_over_X8_refuse rfl rfl rfl (by decide +kernel) ⟨Nat.le_of_ble_eq_true rfl, Nat.le_of_ble_eq_true rfl⟩) ⟨cw_blind, va_recv hK hP (ci := 8) (q0 := 0) rfl wc_0, cw_give hP hK hD hZ hS hF⟩ rfl rfl hl.1 rfl (lv_room (Nat.le_of_ble_eq_true rfl)) dX8_over_10 ⟨Nat.le_of_ble_eq_true rfl, Nat.le_of_ble_eq_true rfl⟩) hS (fun q _ h => hF q h) hF (fun r_15 u t H1 locs ht hvm hw hB hz1 hk1 hS => ?_)
    rw [hw]
    obtain ⟨hB, hI_16⟩ := hB
    obtain ⟨hP, hD⟩ := pw_back hF ht hB
    clear hB hk1 hz1 hF
    generalize H1 = H at hP hS ⊢
    obtain ⟨τc_17, hτc_17⟩ : ∃ t9, (s_X8_refuse σ (-1 : Int32)).2 = t9 := ⟨_, rfl⟩
    rw [hτc_17] at hP hD hI_16
    (try rw [hτc_17] at hR)
    obtain ⟨vc_18, hvc_18⟩ : ∃ t9, (s_X8_refuse σ (-1 : Int32)).1 = t9 := ⟨_, rfl⟩
    rw [hvc_18]
    (try rw [hvc_18] at hR)
    have hI9 : IX τc_17 := hI_16
    obtain ⟨rfl, rfl⟩ := Prod.mk.inj (show (vc_18, τc_17) = (R1, R2) from hR)
    rw [hQ]
    exact W.iret (v := vc_18) hx hb hr (fun t ht hW => ⟨⟨vc_18, (), rfl, rfl, ⟨by rw [ht]; exact hP, va_K.moved hW.alike hK, by rw [← hAe]; exact hD⟩, hI9⟩, hS.F ht⟩) hS.2.2 dX8_over_13

