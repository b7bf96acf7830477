def s_X8_pass_c35  : (Int32 × St) → Int32 × St := fun x9 => match x9 with
  | (v2_3, τ_3) => (v2_3, τ_3)
def s_X8_pass_l35  (k_3 : Nat) : (Int32 × St) → (Int32 × St) := fun x9 => match x9 with
  | (v2_3, τ_3) => ((v2_3 + ((s_X8_grazeAll (put τ_3 816 0 ((τ_3 816 0) + (1 : Int32)))).1)), (s_X8_lapse (s_X8_findUsed (s_X8_sellFromPound ((s_X8_grazeAll (put τ_3 816 0 ((τ_3 816 0) + (1 : Int32)))).2)))))
def s_X8_pass (σ : St) (a1 : Int32) : Int32 × St := (if (1 : Int32) ≤ a1 then (if a1 ≤ ((720 : Int32) - (σ 816 0)) then (s_X8_pass_c35 (iter s_X8_pass_l35 (a1.toNatClampNeg - 0) 0 ((0 : Int32), σ))) else (((s_X8_refuse σ (-6 : Int32)).1), ((s_X8_refuse σ (-6 : Int32)).2))) else (((s_X8_refuse σ (-4 : Int32)).1), ((s_X8_refuse σ (-4 : Int32)).2)))
theorem fr_s_X8_pass_c35  (s : (Int32 × St)) {f : Nat} (h7 : f ≠ 7) (h8 : f ≠ 8) (h205 : f ≠ 205) (h206 : f ≠ 206) (h300 : f ≠ 300) (h301 : f ≠ 301) (h302 : f ≠ 302) (h303 : f ≠ 303) (h304 : f ≠ 304) (h305 : f ≠ 305) (h306 : f ≠ 306) (h403 : f ≠ 403) (h405 : f ≠ 405) (h500 : f ≠ 500) (h590 : f ≠ 590) (h810 : f ≠ 810) (h816 : f ≠ 816) (h818 : f ≠ 818) : (s_X8_pass_c35 s).2 f = s.2 f := by
  obtain ⟨v2_3, τ_3⟩ := s
  unfold s_X8_pass_c35
  all_goals ((try dsimp only) <;> ((repeat' split) <;> (try simp only [put_fr, ne_eq, not_false_eq_true, h7, h8, h205, h206, h300, h301, h302, h303, h304, h305, h306, h403, h405, h500, h590, h810, h816, h818, fr_s_X8_refuse, fr_s_X8_grazeAll, fr_s_X8_sellFromPound, fr_s_X8_findUsed, fr_s_X8_lapse])))
theorem fr_s_X8_pass_l35  (k_3 : Nat) (s : (Int32 × St)) {f : Nat} (h7 : f ≠ 7) (h8 : f ≠ 8) (h205 : f ≠ 205) (h206 : f ≠ 206) (h300 : f ≠ 300) (h301 : f ≠ 301) (h302 : f ≠ 302) (h303 : f ≠ 303) (h304 : f ≠ 304) (h305 : f ≠ 305) (h306 : f ≠ 306) (h403 : f ≠ 403) (h405 : f ≠ 405) (h500 : f ≠ 500) (h590 : f ≠ 590) (h810 : f ≠ 810) (h816 : f ≠ 816) (h818 : f ≠ 818) : (s_X8_pass_l35 k_3 s).2 f = s.2 f := by
  obtain ⟨v2_3, τ_3⟩ := s
  unfold s_X8_pass_l35
  all_goals ((try dsimp only) <;> ((repeat' split) <;> (try simp only [put_fr, ne_eq, not_false_eq_true, h7, h8, h205, h206, h300, h301, h302, h303, h304, h305, h306, h403, h405, h500, h590, h810, h816, h818, fr_s_X8_refuse, fr_s_X8_grazeAll, fr_s_X8_sellFromPound, fr_s_X8_findUsed, fr_s_X8_lapse, fr_s_X8_pass_c35])))
theorem fri_s_X8_pass_l35  (n k : Nat) (s : (Int32 × St)) {f : Nat} (h7 : f ≠ 7) (h8 : f ≠ 8) (h205 : f ≠ 205) (h206 : f ≠ 206) (h300 : f ≠ 300) (h301 : f ≠ 301) (h302 : f ≠ 302) (h303 : f ≠ 303) (h304 : f ≠ 304) (h305 : f ≠ 305) (h306 : f ≠ 306) (h403 : f ≠ 403) (h405 : f ≠ 405) (h500 : f ≠ 500) (h590 : f ≠ 590) (h810 : f ≠ 810) (h816 : f ≠ 816) (h818 : f ≠ 818) : (iter s_X8_pass_l35 n k s).2 f = s.2 f := iter_fr (P := (fun s => s.2 f)) (fun k s => fr_s_X8_pass_l35  k s h7 h8 h205 h206 h300 h301 h302 h303 h304 h305 h306 h403 h405 h500 h590 h810 h816 h818) n k s
theorem fr_s_X8_pass (σ : St) (a1 : Int32) {f : Nat} (h7 : f ≠ 7) (h8 : f ≠ 8) (h205 : f ≠ 205) (h206 : f ≠ 206) (h300 : f ≠ 300) (h301 : f ≠ 301) (h302 : f ≠ 302) (h303 : f ≠ 303) (h304 : f ≠ 304) (h305 : f ≠ 305) (h306 : f ≠ 306) (h403 : f ≠ 403) (h405 : f ≠ 405) (h500 : f ≠ 500) (h590 : f ≠ 590) (h810 : f ≠ 810) (h816 : f ≠ 816) (h818 : f ≠ 818) : (s_X8_pass σ a1 ).2 f = σ f := by
  unfold s_X8_pass
  all_goals ((try dsimp only) <;> ((repeat' split) <;> (try simp only [put_fr, ne_eq, not_false_eq_true, h7, h8, h205, h206, h300, h301, h302, h303, h304, h305, h306, h403, h405, h500, h590, h810, h816, h818, fr_s_X8_refuse, fr_s_X8_grazeAll, fr_s_X8_sellFromPound, fr_s_X8_findUsed, fr_s_X8_lapse, fr_s_X8_pass_c35, fri_s_X8_pass_l35])))
set_option maxHeartbeats 1000000 in
set_option maxRecDepth 100000 in
theorem k_X8_pass (l : Launch) (D : va_G) (ca : Nat → ClassId) (h : Nat) (ad : Nat → Nat) (pa : Nat → Nat → Nat) (tb : Nat) (σ : St) (a1 : Int32) (sz : Nat) (hI : IX σ)  (R1 : Int32) (R2 : St) (hR : s_X8_pass σ a1 = (R1, R2)) : Met l yX8_pass wsX8_pass ({ frames := 5, cells := 0, slots := 0, locals := 119 }) (va_Pc [.ref h, .int a1] (cw_pre D ca (WC ca h ad pa σ) sz tb)) (va_Qi (fun (r : Int32) (_ : Unit) => r = R1) (fun (_ : Unit) (t : State) => pw_post D ca (WC ca h ad pa σ) sz (WC ca h ad pa R2) t ∧ IX R2) (va_A (WC ca h ad pa σ) sz)) 0 0 (va_A (WC ca h ad pa σ) sz) := by
  refine Met.ofW (cc := cX8_pass) (maxL := 4) (ret := (some .int)) (by decide) rfl ?_
  intro p e s m args below meth c s₁ B hml hv
  obtain ⟨rfl, ⟨hsz, hP, hK, hD0⟩, hZ⟩ := hv
  have hx := B.exec
  have hb := B.bytes
  have hr := B.returns
  have hts := atoms_spec (ws := wsX8_pass) B.pre
  have hown : s.vm.findClass RX8 = some m.cls := findClass_of_methodNamed B.named
  have hlocks := B.notSynchronized
  have hu8 : ∀ w ∈ u_ws RX8 TX8 19, w ∈ wsX8_pass := fun w h => List.mem_cons_of_mem _ (uw8 w h)
  subst hsz
  have hD := hD0.self (sz := s.heap.size)
  obtain ⟨A, hAe⟩ : ∃ A, A = va_A (WC ca h ad pa σ) s.heap.size := ⟨_, rfl⟩
  rw [← hAe] at hD hZ ⊢
  have hA : ∀ q : Nat, s.heap.size ≤ q → A q := fun q h => by rw [hAe]; exact Or.inr h
  have hS : va_S A s.heap s.heap [] := va_S.rf
  have hl := lv_entry ([.ref h, .int a1]) (n := 4) (Nat.le_of_ble_eq_true rfl)
  rw [lg_entry_eq]
  generalize (lg_sl ([.ref h, .int a1]) ++ List.replicate (4 - (lg_sl ([.ref h, .int a1])).length) Slot.unset).toArray = ls at hl ⊢
  have hl : lv_has ls 4 [(0, .ref h), (1, .int a1)] := hl
  obtain ⟨H, hH⟩ : ∃ H, H = s.heap := ⟨_, rfl⟩
  have hP : va_P D vwCl (WC ca h ad pa σ) H := by rw [hH]; exact hP
  have hS : va_S A s.heap H [] := by rw [hH]; exact hS
  obtain ⟨QQ, hQ⟩ : ∃ Q9, Q9 = MQ below (va_Qi (fun (r : Int32) (_ : Unit) => r = R1) (fun (_ : Unit) (t : State) => pw_post D ca (WC ca h ad pa σ) s.heap.size (WC ca h ad pa R2) t ∧ IX R2) A) ([.ref h, .int a1] : List Value).toArray s 0 0 A := ⟨_, rfl⟩
  rw [← hQ]
  show W _ _ _ _ _ _ _ _ _ _ s.heap _ _ _ _ _
  rw [← hH]
  have hR : (if (1 : Int32) ≤ a1 then (if a1 ≤ ((720 : Int32) - (σ 816 0)) then (s_X8_pass_c35 (iter s_X8_pass_l35 (a1.toNatClampNeg - 0) 0 ((0 : Int32), σ))) else (((s_X8_refuse σ (-6 : Int32)).1), ((s_X8_refuse σ (-6 : Int32)).2))) else (((s_X8_refuse σ (-4 : Int32)).1), ((s_X8_refuse σ (-4 : Int32)).2))) = (R1, R2) := hR
  refine lv_iload_n hx hb dX8_pass_0 rfl (lv_at hl 1 rfl) ?_
  refine lv_iconst (v := (1 : Int32)) hx hb dX8_pass_1 (by decide) ?_
  refine lv_icmp_ge (tgt := 12) hx hb dX8_pass_2 (by decide) (fun c_1 => ?_) (fun c_1 => ?_)
  · have hR := (if_pos c_1).symm.trans hR
    refine lv_iload_n hx hb dX8_pass_12 rfl (lv_at hl 1 rfl) ?_
    refine lv_sipush (v := (720 : Int32)) hx hb dX8_pass_13 (by decide) ?_
    refine lv_aload_n hx hb dX8_pass_16 rfl (lv_at hl 0 rfl) ?_
    refine va_get (D := D) (ci := 8) (v := .int (σ 816 0)) (C := RX8) (T := TX8) (N := 19) hx hb hts hu8 hown hK hP 0 wc_0 rfl 16 (by decide) (hts (.fieldLink RX8 91 "GrazeBook" "day" "I") (List.mem_cons_of_mem _ mw_226)) (fun _ h9 => h9) rfl dX8_pass_17 ?_
    refine lv_isub hx hb dX8_pass_20 ?_
    refine lv_icmp_le (tgt := 31) hx hb dX8_pass_21 (by decide) (fun c_2 => ?_) (fun c_2 => ?_)
    · have hR := (if_pos c_2).symm.trans hR
      refine lv_iconst (v := (0 : Int32)) hx hb dX8_pass_31 (by decide) ?_
      refine lv_istore_n (lv' := [(2, .int (0 : Int32)), (0, .ref h), (1, .int a1)]) hx hb dX8_pass_32 rfl hl (by decide) rfl (fun ls hl => ?_)
      refine lv_iconst (v := (0 : Int32)) hx hb dX8_pass_33 (by decide) ?_
      refine lv_istore_n (lv' := [(3, .int (0 : Int32)), (2, .int (0 : Int32)), (0, .ref h), (1, .int a1)]) hx hb dX8_pass_34 rfl hl (by decide) rfl (fun ls hl => ?_)
      have hE_3 : ∀ (v2_3 : Int32) (τ_3 : St) (hI_3 : IX τ_3) (hf_3 : τ_3 811 = σ 811 ∧ τ_3 812 = σ 812 ∧ τ_3 814 = σ 814 ∧ τ_3 815 = σ 815) (hd_3 : True) (H : Heap) (locs : List Loc) (ls : Array Slot), s_X8_pass_c35 (v2_3, τ_3) = (R1, R2) → va_P D vwCl (WC ca h ad pa τ_3) H → va_D A (WC ca h ad pa τ_3) → va_S A s.heap H locs → lv_has ls 4 [(2, .int v2_3)] → W p l e ((headSpec wsX8_pass ({ frames := 5, cells := 0, slots := 0, locals := 119 })).room) s m ([.ref h, .int a1] : List Value).toArray below meth c H locs 0 0 QQ (F0 m 75 ls []) := by
        intro v2_3 τ_3 hI_3 hf_3 hd_3 H locs ls hR hP hD hS hl
        have hR : (v2_3, τ_3) = (R1, R2) := hR
        refine lv_iload_n hx hb dX8_pass_75 rfl (lv_at hl 0 rfl) ?_
        have hI9 : IX τ_3 := hI_3
        obtain ⟨rfl, rfl⟩ := Prod.mk.inj (show (v2_3, τ_3) = (R1, R2) from hR)
        rw [hQ]
        exact W.iret (v := v2_3) hx hb hr (fun t ht hW => ⟨⟨v2_3, (), rfl, rfl, ⟨by rw [ht]; exact hP, va_K.moved hW.alike hK, by rw [← hAe]; exact hD⟩, hI9⟩, hS.F ht⟩) hS.2.2 dX8_pass_76
      have hL_3 : ∀ (n k_3 : Nat) (v2_3 : Int32) (τ_3 : St) (hk_3 : lpk a1 k_3 n) (hI_3 : IX τ_3) (hf_3 : τ_3 811 = σ 811 ∧ τ_3 812 = σ 812 ∧ τ_3 814 = σ 814 ∧ τ_3 815 = σ 815) (hd_3 : (τ_3 816 0).toInt + a1.toInt - (k_3 : Int) ≤ 720) (H : Heap) (locs : List Loc) (ls : Array Slot), s_X8_pass_c35 (iter s_X8_pass_l35 n k_3 (v2_3, τ_3)) = (R1, R2) → va_P D vwCl (WC ca h ad pa τ_3) H → va_D A (WC ca h ad pa τ_3) → va_S A s.heap H locs → lv_has ls 4 [(3, .int (nI k_3)), (2, .int v2_3), (0, .ref h), (1, .int a1)] → W p l e ((headSpec wsX8_pass ({ frames := 5, cells := 0, slots := 0, locals := 119 })).room) s m ([.ref h, .int a1] : List Value).toArray below meth c H locs 0 0 QQ (F0 m 35 ls []) := by
        intro n
        induction n with
        | zero =>
          intro k_3 v2_3 τ_3 hk_3 hI_3 hf_3 hd_3 H locs ls hR hP hD hS hl
          refine lv_iload_n hx hb dX8_pass_35 rfl (lv_at hl 0 rfl) ?_
          refine lv_iload_n hx hb dX8_pass_36 rfl (lv_at hl 3 rfl) ?_
          refine lv_icmp_ge (tgt := 75) hx hb dX8_pass_37 (by decide) (fun _ => ?_) (fun c_4 => absurd (ge_end hk_3) c_4)
          exact hE_3 v2_3 τ_3 hI_3 hf_3 trivial _ _ _ hR hP hD hS (lv_sub hl [1] rfl)
        | succ n ih =>
          intro k_3 v2_3 τ_3 hk_3 hI_3 hf_3 hd_3 H locs ls hR hP hD hS hl
          obtain ⟨S_3, hB_3⟩ : ∃ s9, s_X8_pass_l35 k_3 (v2_3, τ_3) = s9 := ⟨_, rfl⟩
          have hR : s_X8_pass_c35 (iter s_X8_pass_l35 n (k_3 + 1) S_3) = (R1, R2) := by rw [← hB_3]; exact hR
          have hB_3 : ((v2_3 + ((s_X8_grazeAll (put τ_3 816 0 ((τ_3 816 0) + (1 : Int32)))).1)), (s_X8_lapse (s_X8_findUsed (s_X8_sellFromPound ((s_X8_grazeAll (put τ_3 816 0 ((τ_3 816 0) + (1 : Int32)))).2))))) = S_3 := hB_3
          refine lv_iload_n hx hb dX8_pass_35 rfl (lv_at hl 0 rfl) ?_
          refine lv_iload_n hx hb dX8_pass_36 rfl (lv_at hl 3 rfl) ?_
          refine lv_icmp_ge (tgt := 75) hx hb dX8_pass_37 (by decide) (fun c_5 => absurd c_5 (ge_go hk_3)) (fun _ => ?_)
          refine lv_aload_n hx hb dX8_pass_40 rfl (lv_at hl 2 rfl) ?_
          refine lv_dup hx hb dX8_pass_41 rfl ?_
          refine va_get (D := D) (ci := 8) (v := .int (τ_3 816 0)) (C := RX8) (T := TX8) (N := 19) hx hb hts hu8 hown hK hP 0 wc_0 rfl 16 (by decide) (hts (.fieldLink RX8 91 "GrazeBook" "day" "I") (List.mem_cons_of_mem _ mw_226)) (fun _ h9 => h9) rfl dX8_pass_42 ?_
          refine lv_iconst (v := (1 : Int32)) hx hb dX8_pass_45 (by decide) ?_
          refine lv_iadd hx hb dX8_pass_46 ?_
          refine va_put (D := D) (ci := 8) (v := .int ((τ_3 816 0) + (1 : Int32))) (ty := .int) (C := RX8) (T := TX8) (N := 19) hx hb hts hu8 tyX8 tyX8_ok nmX8 hown hK hP hD hS 0 wc_0 rfl 16 (by decide) (hts (.fieldLink RX8 91 "GrazeBook" "day" "I") (List.mem_cons_of_mem _ mw_226)) (fun _ h9 => h9) rfl (by decide +kernel) rfl rfl (Nat.le_of_ble_eq_true rfl) dX8_pass_47 (fun H locs hP hD hS => ?_)
          rw [wc_p816] at hP hD
          refine lv_iload_n hx hb dX8_pass_50 rfl (lv_at hl 1 rfl) ?_
          refine lv_aload_n hx hb dX8_pass_51 rfl (lv_at hl 2 rfl) ?_
          have hF := pw_free hD hS hA
          refine va_calli (va_runV (As := []) (rest := [.int v2_3]) ⟨hx, hb, hml, hown, hts⟩ (k_X8_grazeAll l D ca h ad pa tb (put τ_3 816 0 ((τ_3 816 0) + (1 : Int32))) H.size (ix_put816 (σ := τ_3) hI_3 (day_ok (ix_816 hI_3).1 hd_3 hk_3)) _ _ (Prod.eta _).symm) (cwV 0 hts gX8_pass_X8_grazeAll rfl rfl rfl (by decide +kernel) ⟨Nat.le_of_ble_eq_true rfl, Nat.le_of_ble_eq_true rfl⟩) ⟨cw_blind, va_recv hK hP (ci := 8) (q0 := 0) rfl wc_0, cw_give hP hK hD hZ hS hF⟩ rfl rfl hl.1 rfl (lv_room (Nat.le_of_ble_eq_true rfl)) dX8_pass_52 ⟨Nat.le_of_ble_eq_true rfl, Nat.le_of_ble_eq_true rfl⟩) hS (fun q _ h => hF q h) hF (fun r_6 u t H1 locs ht hvm hw hB hz1 hk1 hS => ?_)
          rw [hw]
          obtain ⟨hB, hI_7⟩ := hB
          obtain ⟨hP, hD⟩ := pw_back hF ht hB
          clear hB hk1 hz1 hF
          generalize H1 = H at hP hS ⊢
          obtain ⟨τc_8, hτc_8⟩ : ∃ t9, (s_X8_grazeAll (put τ_3 816 0 ((τ_3 816 0) + (1 : Int32)))).2 = t9 := ⟨_, rfl⟩
          rw [hτc_8] at hP hD hI_7
          (try rw [hτc_8] at hB_3)
          obtain ⟨vc_9, hvc_9⟩ : ∃ t9, (s_X8_grazeAll (put τ_3 816 0 ((τ_3 816 0) + (1 : Int32)))).1 = t9 := ⟨_, rfl⟩
          rw [hvc_9]
          (try rw [hvc_9] at hB_3)
          refine lv_iadd hx hb dX8_pass_55 ?_
          refine lv_istore_n (lv' := [(2, .int (v2_3 + vc_9)), (3, .int (nI k_3)), (0, .ref h), (1, .int a1)]) hx hb dX8_pass_56 rfl hl (by decide) rfl (fun ls hl => ?_)
          refine lv_aload_n hx hb dX8_pass_57 rfl (lv_at hl 2 rfl) ?_
          have hF := pw_free hD hS hA
          refine va_callv (va_runV (As := []) (rest := []) ⟨hx, hb, hml, hown, hts⟩ (k_X8_sellFromPound l D ca h ad pa tb τc_8 H.size hI_7 _ rfl) (cwV 0 hts gX8_pass_X8_sellFromPound rfl rfl rfl (by decide +kernel) ⟨Nat.le_of_ble_eq_true rfl, Nat.le_of_ble_eq_true rfl⟩) ⟨cw_blind, va_recv hK hP (ci := 8) (q0 := 0) rfl wc_0, cw_give hP hK hD hZ hS hF⟩ rfl rfl hl.1 rfl (lv_room (Nat.le_of_ble_eq_true rfl)) dX8_pass_58 ⟨Nat.le_of_ble_eq_true rfl, Nat.le_of_ble_eq_true rfl⟩) hS (fun q _ h => hF q h) hF (fun u t H1 locs ht hvm hw hB hz1 hk1 hS => ?_)
          obtain ⟨hB, hI_11⟩ := hB
          obtain ⟨hP, hD⟩ := pw_back hF ht hB
          clear hB hk1 hz1 hF
          generalize H1 = H at hP hS ⊢
          obtain ⟨τc_12, hτc_12⟩ : ∃ t9, (s_X8_sellFromPound τc_8) = t9 := ⟨_, rfl⟩
          rw [hτc_12] at hP hD hI_11
          (try rw [hτc_12] at hB_3)
          refine lv_aload_n hx hb dX8_pass_61 rfl (lv_at hl 2 rfl) ?_
          have hF := pw_free hD hS hA
          refine va_callv (va_runV (As := []) (rest := []) ⟨hx, hb, hml, hown, hts⟩ (k_X8_findUsed l D ca h ad pa tb τc_12 H.size hI_11 _ rfl) (cwV 0 hts gX8_pass_X8_findUsed rfl rfl rfl (by decide +kernel) ⟨Nat.le_of_ble_eq_true rfl, Nat.le_of_ble_eq_true rfl⟩) ⟨cw_blind, va_recv hK hP (ci := 8) (q0 := 0) rfl wc_0, cw_give hP hK hD hZ hS hF⟩ rfl rfl hl.1 rfl (lv_room (Nat.le_of_ble_eq_true rfl)) dX8_pass_62 ⟨Nat.le_of_ble_eq_true rfl, Nat.le_of_ble_eq_true rfl⟩) hS (fun q _ h => hF q h) hF (fun u t H1 locs ht hvm hw hB hz1 hk1 hS => ?_)
          obtain ⟨hB, hI_14⟩ := hB
          obtain ⟨hP, hD⟩ := pw_back hF ht hB
          clear hB hk1 hz1 hF
          generalize H1 = H at hP hS ⊢
          obtain ⟨τc_15, hτc_15⟩ : ∃ t9, (s_X8_findUsed τc_12) = t9 := ⟨_, rfl⟩
          rw [hτc_15] at hP hD hI_14
          (try rw [hτc_15] at hB_3)
          refine lv_aload_n hx hb dX8_pass_65 rfl (lv_at hl 2 rfl) ?_
          have hF := pw_free hD hS hA
          refine va_callv (va_runV (As := []) (rest := []) ⟨hx, hb, hml, hown, hts⟩ (k_X8_lapse l D ca h ad pa tb τc_15 H.size hI_14 _ rfl) (cwV 0 hts gX8_pass_X8_lapse rfl rfl rfl (by decide +kernel) ⟨Nat.le_of_ble_eq_true rfl, Nat.le_of_ble_eq_true rfl⟩) ⟨cw_blind, va_recv hK hP (ci := 8) (q0 := 0) rfl wc_0, cw_give hP hK hD hZ hS hF⟩ rfl rfl hl.1 rfl (lv_room (Nat.le_of_ble_eq_true rfl)) dX8_pass_66 ⟨Nat.le_of_ble_eq_true rfl, Nat.le_of_ble_eq_true rfl⟩) hS (fun q _ h => hF q h) hF (fun u t H1 locs ht hvm hw hB hz1 hk1 hS => ?_)
          obtain ⟨hB, hI_17⟩ := hB
          obtain ⟨hP, hD⟩ := pw_back hF ht hB
          clear hB hk1 hz1 hF
          generalize H1 = H at hP hS ⊢
          obtain ⟨τc_18, hτc_18⟩ : ∃ t9, (s_X8_lapse τc_15) = t9 := ⟨_, rfl⟩
          rw [hτc_18] at hP hD hI_17
          (try rw [hτc_18] at hB_3)
          refine lv_iinc (v := (nI (k_3 + 1))) (lv' := [(3, .int (nI (k_3 + 1))), (2, .int (v2_3 + vc_9)), (0, .ref h), (1, .int a1)]) hx hb dX8_pass_69 hl (k := 1) rfl (by rw [show Int32.ofInt 1 = 1 from by decide]; exact nI_1 _) (by decide) rfl (fun ls hl => ?_)
          refine lv_goto (tgt := 35) hx hb dX8_pass_72 (by decide) ?_
          subst hB_3
          exact ih (k_3 + 1) (v2_3 + vc_9) τc_18 (ge_next hk_3) hI_17 (⟨((show τc_18 811 = τc_15 811 by rw [← hτc_18]; exact fr_s_X8_lapse τc_15 (f := 811) (by decide) (by decide)).trans ((show τc_15 811 = τc_12 811 by rw [← hτc_15]; exact fr_s_X8_findUsed τc_12 (f := 811) (by decide)).trans ((show τc_12 811 = τc_8 811 by rw [← hτc_12]; exact fr_s_X8_sellFromPound τc_8 (f := 811) (by decide) (by decide) (by decide)).trans ((show τc_8 811 = (put τ_3 816 0 ((τ_3 816 0) + (1 : Int32))) 811 by rw [← hτc_8]; exact fr_s_X8_grazeAll (put τ_3 816 0 ((τ_3 816 0) + (1 : Int32))) (f := 811) (by decide) (by decide) (by decide) (by decide) (by decide) (by decide) (by decide) (by decide) (by decide) (by decide)).trans (hf_3.1))))), ((show τc_18 812 = τc_15 812 by rw [← hτc_18]; exact fr_s_X8_lapse τc_15 (f := 812) (by decide) (by decide)).trans ((show τc_15 812 = τc_12 812 by rw [← hτc_15]; exact fr_s_X8_findUsed τc_12 (f := 812) (by decide)).trans ((show τc_12 812 = τc_8 812 by rw [← hτc_12]; exact fr_s_X8_sellFromPound τc_8 (f := 812) (by decide) (by decide) (by decide)).trans ((show τc_8 812 = (put τ_3 816 0 ((τ_3 816 0) + (1 : Int32))) 812 by rw [← hτc_8]; exact fr_s_X8_grazeAll (put τ_3 816 0 ((τ_3 816 0) + (1 : Int32))) (f := 812) (by decide) (by decide) (by decide) (by decide) (by decide) (by decide) (by decide) (by decide) (by decide) (by decide)).trans (hf_3.2.1))))), ((show τc_18 814 = τc_15 814 by rw [← hτc_18]; exact fr_s_X8_lapse τc_15 (f := 814) (by decide) (by decide)).trans ((show τc_15 814 = τc_12 814 by rw [← hτc_15]; exact fr_s_X8_findUsed τc_12 (f := 814) (by decide)).trans ((show τc_12 814 = τc_8 814 by rw [← hτc_12]; exact fr_s_X8_sellFromPound τc_8 (f := 814) (by decide) (by decide) (by decide)).trans ((show τc_8 814 = (put τ_3 816 0 ((τ_3 816 0) + (1 : Int32))) 814 by rw [← hτc_8]; exact fr_s_X8_grazeAll (put τ_3 816 0 ((τ_3 816 0) + (1 : Int32))) (f := 814) (by decide) (by decide) (by decide) (by decide) (by decide) (by decide) (by decide) (by decide) (by decide) (by decide)).trans (hf_3.2.2.1))))), ((show τc_18 815 = τc_15 815 by rw [← hτc_18]; exact fr_s_X8_lapse τc_15 (f := 815) (by decide) (by decide)).trans ((show τc_15 815 = τc_12 815 by rw [← hτc_15]; exact fr_s_X8_findUsed τc_12 (f := 815) (by decide)).trans ((show τc_12 815 = τc_8 815 by rw [← hτc_12]; exact fr_s_X8_sellFromPound τc_8 (f := 815) (by decide) (by decide) (by decide)).trans ((show τc_8 815 = (put τ_3 816 0 ((τ_3 816 0) + (1 : Int32))) 815 by rw [← hτc_8]; exact fr_s_X8_grazeAll (put τ_3 816 0 ((τ_3 816 0) + (1 : Int32))) (f := 815) (by decide) (by decide) (by decide) (by decide) (by decide) (by decide) (by decide) (by decide) (by decide) (by decide)).trans (hf_3.2.2.2)))))⟩) (day_next (congrFun ((show τc_18 816 = τc_15 816 by rw [← hτc_18]; exact fr_s_X8_lapse τc_15 (f := 816) (by decide) (by decide)).trans ((show τc_15 816 = τc_12 816 by rw [← hτc_15]; exact fr_s_X8_findUsed τc_12 (f := 816) (by decide)).trans ((show τc_12 816 = τc_8 816 by rw [← hτc_12]; exact fr_s_X8_sellFromPound τc_8 (f := 816) (by decide) (by decide) (by decide)).trans ((show τc_8 816 = (put τ_3 816 0 ((τ_3 816 0) + (1 : Int32))) 816 by rw [← hτc_8]; exact fr_s_X8_grazeAll (put τ_3 816 0 ((τ_3 816 0) + (1 : Int32))) (f := 816) (by decide) (by decide) (by decide) (by decide) (by decide) (by decide) (by decide) (by decide) (by decide) (by decide)).trans rfl)))) 0) (ix_816 hI_3).1 hd_3 hk_3) _ _ _ hR hP hD hS (lv_sub hl [0, 1, 2, 3] rfl)
      exact hL_3 _ 0 (0 : Int32) σ ⟨rfl, by decide⟩ hI (⟨rfl, rfl, rfl, rfl⟩) (show (σ 816 0).toInt + a1.toInt - ((0 : Nat) : Int) ≤ 720 by have := day_0 (ix_816 hI) c_2; omega) _ _ _ hR hP hD hS (lv_sub hl [0, 1, 2, 3] rfl)
    · have hR := (if_neg c_2).symm.trans hR
      refine lv_aload_n hx hb dX8_pass_24 rfl (lv_at hl 0 rfl) ?_
      refine lv_bipush (v := (-6 : Int32)) hx hb dX8_pass_25 (by decide) ?_
      have hF := pw_free hD hS hA
      refine va_calli (va_runV (As := [.int (-6 : Int32)]) (rest := []) ⟨hx, hb, hml, hown, hts⟩ (k_X8_refuse l D ca h ad pa tb σ (-6 : Int32) H.size hI _ _ (Prod.eta _).symm) (cwV 1 hts gX8_pass_X8_refuse rfl rfl rfl (by decide +kernel) ⟨Nat.le_of_ble_eq_true rfl, Nat.le_of_ble_eq_true rfl⟩) ⟨cw_blind, va_recv hK hP (ci := 8) (q0 := 0) rfl wc_0, cw_give hP hK hD hZ hS hF⟩ rfl rfl hl.1 rfl (lv_room (Nat.le_of_ble_eq_true rfl)) dX8_pass_27 ⟨Nat.le_of_ble_eq_true rfl, Nat.le_of_ble_eq_true rfl⟩) hS (fun q _ h => hF q h) hF (fun r_19 u t H1 locs ht hvm hw hB hz1 hk1 hS => ?_)
      rw [hw]
      obtain ⟨hB, hI_20⟩ := hB
      obtain ⟨hP, hD⟩ := pw_back hF ht hB
      clear hB hk1 hz1 hF
      generalize H1 = H at hP hS ⊢
      obtain ⟨τc_21, hτc_21⟩ : ∃ t9, (s_X8_refuse σ (-6 : Int32)).2 = t9 := ⟨_, rfl⟩
      rw [hτc_21] at hP hD hI_20
      (try rw [hτc_21] at hR)
      obtain ⟨vc_22, hvc_22⟩ : ∃ t9, (s_X8_refuse σ (-6 : Int32)).1 = t9 := ⟨_, rfl⟩
      rw [hvc_22]
      (try rw [hvc_22] at hR)
      have hI9 : IX τc_21 := hI_20
      obtain ⟨rfl, rfl⟩ := Prod.mk.inj (show (vc_22, τc_21) = (R1, R2) from hR)
      rw [hQ]
      exact W.iret (v := vc_22) hx hb hr (fun t ht hW => ⟨⟨vc_22, (), rfl, rfl, ⟨by rw [ht]; exact hP, va_K.moved hW.alike hK, by rw [← hAe]; exact hD⟩, hI9⟩, hS.F ht⟩) hS.2.2 dX8_pass_30
  · have hR := (if_neg c_1).symm.trans hR
    refine lv_aload_n hx hb dX8_pass_5 rfl (lv_at hl 0 rfl) ?_
    refine lv_bipush (v := (-4 : Int32)) hx hb dX8_pass_6 (by decide) ?_
    have hF := pw_free hD hS hA
    refine va_calli (va_runV (As := [.int (-4 : Int32)]) (rest := []) ⟨hx, hb, hml, hown, hts⟩ (k_X8_refuse l D ca h ad pa tb σ (-4 : Int32) H.size hI _ _ (Prod.eta _).symm) (cwV 1 hts gX8_pass_X8_refuse rfl rfl rfl (by decide +kernel) ⟨Nat.le_of_ble_eq_true rfl, Nat.le_of_ble_eq_true rfl⟩) ⟨cw_blind, va_recv hK hP (ci := 8) (q0 := 0) rfl wc_0, cw_give hP hK hD hZ hS hF⟩ rfl rfl hl.1 rfl (lv_room (Nat.le_of_ble_eq_true rfl)) dX8_pass_8 ⟨Nat.le_of_ble_eq_true rfl, Nat.le_of_ble_eq_true rfl⟩) hS (fun q _ h => hF q h) hF (fun r_23 u t H1 locs ht hvm hw hB hz1 hk1 hS => ?_)
    rw [hw]
    obtain ⟨hB, hI_24⟩ := hB
    obtain ⟨hP, hD⟩ := pw_back hF ht hB
    clear hB hk1 hz1 hF
    generalize H1 = H at hP hS ⊢
    obtain ⟨τc_25, hτc_25⟩ : ∃ t9, (s_X8_refuse σ (-4 : Int32)).2 = t9 := ⟨_, rfl⟩
    rw [hτc_25] at hP hD hI_24
    (try rw [hτc_25] at hR)
    obtain ⟨vc_26, hvc_26⟩ : ∃ t9, (s_X8_refuse σ (-4 : Int32)).1 = t9 := ⟨_, rfl⟩
    rw [hvc_26]
    (try rw [hvc_26] at hR)
    have hI9 : IX τc_25 := hI_24
    obtain ⟨rfl, rfl⟩ := Prod.mk.inj (show (vc_26, τc_25) = (R1, R2) from hR)
    rw [hQ]
    exact W.iret (v := vc_26) hx hb hr (fun t ht hW => ⟨⟨vc_26, (), rfl, rfl, ⟨by rw [ht]; exact hP, va_K.moved hW.alike hK, by rw [← hAe]; exact hD⟩, hI9⟩, hS.F ht⟩) hS.2.2 dX8_pass_11

def s_X6_begin (σ : St) (a1 : Int32) (a2 : Int32) (a3 : Int32) (a4 : Int32) : St := (if a2 = (-1 : Int32) then (put (put (put (put (put σ 605 0 a1) 606 0 a2) 607 0 (1 : Int32)) 608 0 a3) 609 0 a4) else (put (put (put (put (put σ 605 0 a1) 606 0 a2) 607 0 (2 : Int32)) 608 0 a3) 609 0 a4))
theorem fr_s_X6_begin (σ : St) (a1 : Int32) (a2 : Int32) (a3 : Int32) (a4 : Int32) {f : Nat} (h605 : f ≠ 605) (h606 : f ≠ 606) (h607 : f ≠ 607) (h608 : f ≠ 608) (h609 : f ≠ 609) : (s_X6_begin σ a1 a2 a3 a4 ) f = σ f := by
  unfold s_X6_begin
  all_goals ((try dsimp only) <;> ((repeat' split) <;> (try simp only [put_fr, ne_eq, not_false_eq_true, h605, h606, h607, h608, h609])))
set_option maxHeartbeats 1000000 in
set_option maxRecDepth 100000 in
theorem k_X6_begin (l : Launch) (D : va_G) (ca : Nat → ClassId) (h : Nat) (ad : Nat → Nat) (pa : Nat → Nat → Nat) (tb : Nat) (σ : St) (a1 : Int32) (a2 : Int32) (a3 : Int32) (a4 : Int32) (sz : Nat) (hI : IX σ) (hw : (a2 = -1 ∧ 0 ≤ a3.toInt ∧ a3.toInt ≤ 4) ∨ (¬ a2 = -1 ∧ 0 ≤ a3.toInt ∧ a3.toInt ≤ 2)) (R : St) (hR : s_X6_begin σ a1 a2 a3 a4 = R) : Met l yX6_begin wsX6_begin ({ frames := 0, cells := 0, slots := 0, locals := 0 }) (va_Pc [.ref (ad 809), .int a1, .int a2, .int a3, .int a4] (cw_pre D ca (WC ca h ad pa σ) sz tb)) (va_Qv (fun _ : Unit => True) (fun (_ : Unit) (t : State) => pw_post D ca (WC ca h ad pa σ) sz (WC ca h ad pa R) t ∧ IX R) (va_A (WC ca h ad pa σ) sz)) 0 0 (va_A (WC ca h ad pa σ) sz) := by
  refine Met.ofW (cc := cX6_begin) (maxL := 5) (ret := none) (by decide) rfl ?_
  intro p e s m args below meth c s₁ B hml hv
  obtain ⟨rfl, ⟨hsz, hP, hK, hD0⟩, hZ⟩ := hv
  have hx := B.exec
  have hb := B.bytes
  have hr := B.returns
  have hts := atoms_spec (ws := wsX6_begin) B.pre
  have hown : s.vm.findClass RX6 = some m.cls := findClass_of_methodNamed B.named
  have hlocks := B.notSynchronized
  have hu6 : ∀ w ∈ u_ws RX6 TX6 10, w ∈ wsX6_begin := fun w h => List.mem_cons_of_mem _ (uw6 w h)
  subst hsz
  have hD := hD0.self (sz := s.heap.size)
  obtain ⟨A, hAe⟩ : ∃ A, A = va_A (WC ca h ad pa σ) s.heap.size := ⟨_, rfl⟩
  rw [← hAe] at hD hZ ⊢
  have hA : ∀ q : Nat, s.heap.size ≤ q → A q := fun q h => by rw [hAe]; exact Or.inr h
  have hS : va_S A s.heap s.heap [] := va_S.rf
  have hl := lv_entry ([.ref (ad 809), .int a1, .int a2, .int a3, .int a4]) (n := 5) (Nat.le_of_ble_eq_true rfl)
  rw [lg_entry_eq]
  generalize (lg_sl ([.ref (ad 809), .int a1, .int a2, .int a3, .int a4]) ++ List.replicate (5 - (lg_sl ([.ref (ad 809), .int a1, .int a2, .int a3, .int a4])).length) Slot.unset).toArray = ls at hl ⊢
  have hl : lv_has ls 5 [(0, .ref (ad 809)), (1, .int a1), (2, .int a2), (3, .int a3), (4, .int a4)] := hl
  obtain ⟨H, hH⟩ : ∃ H, H = s.heap := ⟨_, rfl⟩
  have hP : va_P D vwCl (WC ca h ad pa σ) H := by rw [hH]; exact hP
  have hS : va_S A s.heap H [] := by rw [hH]; exact hS
  obtain ⟨QQ, hQ⟩ : ∃ Q9, Q9 = MQ below (va_Qv (fun _ : Unit => True) (fun (_ : Unit) (t : State) => pw_post D ca (WC ca h ad pa σ) s.heap.size (WC ca h ad pa R) t ∧ IX R) A) ([.ref (ad 809), .int a1, .int a2, .int a3, .int a4] : List Value).toArray s 0 0 A := ⟨_, rfl⟩
  rw [← hQ]
  show W _ _ _ _ _ _ _ _ _ _ s.heap _ _ _ _ _
  rw [← hH]
  have hR : (if a2 = (-1 : Int32) then (put (put (put (put (put σ 605 0 a1) 606 0 a2) 607 0 (1 : Int32)) 608 0 a3) 609 0 a4) else (put (put (put (put (put σ 605 0 a1) 606 0 a2) 607 0 (2 : Int32)) 608 0 a3) 609 0 a4)) = R := hR
  refine lv_aload_n hx hb dX6_begin_0 rfl (lv_at hl 0 rfl) ?_
  refine lv_iload_n hx hb dX6_begin_1 rfl (lv_at hl 1 rfl) ?_
  refine va_put (D := D) (ci := 6) (v := .int a1) (ty := .int) (C := RX6) (T := TX6) (N := 10) hx hb hts hu6 tyX6 tyX6_ok nmX6 hown hK hP hD hS 5 wc_5 rfl 5 (by decide) (hts (.fieldLink RX6 29 "GrazeBook$Turns" "firstHerd" "I") (List.mem_cons_of_mem _ mw_180)) (fun _ h9 => h9) rfl (by decide +kernel) rfl rfl (Nat.le_of_ble_eq_true rfl) dX6_begin_2 (fun H locs hP hD hS => ?_)
  rw [wc_p605] at hP hD
  refine lv_aload_n hx hb dX6_begin_5 rfl (lv_at hl 0 rfl) ?_
  refine lv_iload_n hx hb dX6_begin_6 rfl (lv_at hl 2 rfl) ?_
  refine va_put (D := D) (ci := 6) (v := .int a2) (ty := .int) (C := RX6) (T := TX6) (N := 10) hx hb hts hu6 tyX6 tyX6_ok nmX6 hown hK hP hD hS 5 wc_5 rfl 6 (by decide) (hts (.fieldLink RX6 33 "GrazeBook$Turns" "secondHerd" "I") (List.mem_cons_of_mem _ mw_182)) (fun _ h9 => h9) rfl (by decide +kernel) rfl rfl (Nat.le_of_ble_eq_true rfl) dX6_begin_7 (fun H locs hP hD hS => ?_)
  rw [wc_p606] at hP hD
  refine lv_aload_n hx hb dX6_begin_10 rfl (lv_at hl 0 rfl) ?_
  refine lv_iload_n hx hb dX6_begin_11 rfl (lv_at hl 2 rfl) ?_
  refine lv_iconst (v := (-1 : Int32)) hx hb dX6_begin_12 (by decide) ?_
  refine lv_icmp_ne (tgt := 20) hx hb dX6_begin_13 (by decide) (fun c_1 => ?_) (fun c_1 => ?_)
  · have hR := (if_neg c_1).symm.trans hR
    refine lv_iconst (v := (2 : Int32)) hx hb dX6_begin_20 (by decide) ?_
    refine va_put (D := D) (ci := 6) (v := .int (2 : Int32)) (ty := .int) (C := RX6) (T := TX6) (N := 10) hx hb hts hu6 tyX6 tyX6_ok nmX6 hown hK hP hD hS 5 wc_5 rfl 7 (by decide) (hts (.fieldLink RX6 36 "GrazeBook$Turns" "width" "I") (List.mem_cons_of_mem _ mw_184)) (fun _ h9 => h9) rfl (by decide +kernel) rfl rfl (Nat.le_of_ble_eq_true rfl) dX6_begin_21 (fun H locs hP hD hS => ?_)
    rw [wc_p607] at hP hD
    refine lv_aload_n hx hb dX6_begin_24 rfl (lv_at hl 0 rfl) ?_
    refine lv_iload_n hx hb dX6_begin_25 rfl (lv_at hl 3 rfl) ?_
    refine va_put (D := D) (ci := 6) (v := .int a3) (ty := .int) (C := RX6) (T := TX6) (N := 10) hx hb hts hu6 tyX6 tyX6_ok nmX6 hown hK hP hD hS 5 wc_5 rfl 8 (by decide) (hts (.fieldLink RX6 39 "GrazeBook$Turns" "steps" "I") (List.mem_cons_of_mem _ mw_185)) (fun _ h9 => h9) rfl (by decide +kernel) rfl rfl (Nat.le_of_ble_eq_true rfl) dX6_begin_26 (fun H locs hP hD hS => ?_)
    rw [wc_p608] at hP hD
    refine lv_aload_n hx hb dX6_begin_29 rfl (lv_at hl 0 rfl) ?_
    refine lv_iload hx hb dX6_begin_30 (lv_at hl 4 rfl) ?_
    refine va_put (D := D) (ci := 6) (v := .int a4) (ty := .int) (C := RX6) (T := TX6) (N := 10) hx hb hts hu6 tyX6 tyX6_ok nmX6 hown hK hP hD hS 5 wc_5 rfl 9 (by decide) (hts (.fieldLink RX6 42 "GrazeBook$Turns" "days" "I") (List.mem_cons_of_mem _ mw_187)) (fun _ h9 => h9) rfl (by decide +kernel) rfl rfl (Nat.le_of_ble_eq_true rfl) dX6_begin_32 (fun H locs hP hD hS => ?_)
    rw [wc_p609] at hP hD
    have hI9 : IX (put (put (put (put (put σ 605 0 a1) 606 0 a2) 607 0 (2 : Int32)) 608 0 a3) 609 0 a4) := (ix_putplan (σ := (put (put σ 605 0 a1) 606 0 a2)) hI (bg_2 hw c_1))
    subst hR
    rw [hQ]
    exact W.vret hx hb hr (fun t ht hW => ⟨⟨(), rfl, trivial, ⟨by rw [ht]; exact hP, va_K.moved hW.alike hK, by rw [← hAe]; exact hD⟩, hI9⟩, hS.F ht⟩) hS.2.2 dX6_begin_35
  · have hR := (if_pos c_1).symm.trans hR
    refine lv_iconst (v := (1 : Int32)) hx hb dX6_begin_16 (by decide) ?_
    refine lv_goto (tgt := 21) hx hb dX6_begin_17 (by decide) ?_
    refine va_put (D := D) (ci := 6) (v := .int (1 : Int32)) (ty := .int) (C := RX6) (T := TX6) (N := 10) hx hb hts hu6 tyX6 tyX6_ok nmX6 hown hK hP hD hS 5 wc_5 rfl 7 (by decide) (hts (.fieldLink RX6 36 "GrazeBook$Turns" "width" "I") (List.mem_cons_of_mem _ mw_184)) (fun _ h9 => h9) rfl (by decide +kernel) rfl rfl (Nat.le_of_ble_eq_true rfl) dX6_begin_21 (fun H locs hP hD hS => ?_)
    rw [wc_p607] at hP hD
    refine lv_aload_n hx hb dX6_begin_24 rfl (lv_at hl 0 rfl) ?_
    refine lv_iload_n hx hb dX6_begin_25 rfl (lv_at hl 3 rfl) ?_
    refine va_put (D := D) (ci := 6) (v := .int a3) (ty := .int) (C := RX6) (T := TX6) (N := 10) hx hb hts hu6 tyX6 tyX6_ok nmX6 hown hK hP hD hS 5 wc_5 rfl 8 (by decide) (hts (.fieldLink RX6 39 "GrazeBook$Turns" "steps" "I") (List.mem_cons_of_mem _ mw_185)) (fun _ h9 => h9) rfl (by decide +kernel) rfl rfl (Nat.le_of_ble_eq_true rfl) dX6_begin_26 (fun H locs hP hD hS => ?_)
    rw [wc_p608] at hP hD
    refine lv_aload_n hx hb dX6_begin_29 rfl (lv_at hl 0 rfl) ?_
    refine lv_iload hx hb dX6_begin_30 (lv_at hl 4 rfl) ?_
    refine va_put (D := D) (ci := 6) (v := .int a4) (ty := .int) (C := RX6) (T := TX6) (N := 10) hx hb hts hu6 tyX6 tyX6_ok nmX6 hown hK hP hD hS 5 wc_5 rfl 9 (by decide) (hts (.fieldLink RX6 42 "GrazeBook$Turns" "days" "I") (List.mem_cons_of_mem _ mw_187)) (fun _ h9 => h9) rfl (by decide +kernel) rfl rfl (Nat.le_of_ble_eq_true rfl) dX6_begin_32 (fun H locs hP hD hS => ?_)
    rw [wc_p609] at hP hD
    have hI9 : IX (put (put (put (put (put σ 605 0 a1) 606 0 a2) 607 0 (1 : Int32)) 608 0 a3) 609 0 a4) := (ix_putplan (σ := (put (put σ 605 0 a1) 606 0 a2)) hI (bg_1 hw c_1))
    subst hR
    rw [hQ]
    exact W.vret hx hb hr (fun t ht hW => ⟨⟨(), rfl, trivial, ⟨by rw [ht]; exact hP, va_K.moved hW.alike hK, by rw [← hAe]; exact hD⟩, hI9⟩, hS.F ht⟩) hS.2.2 dX6_begin_35

def s_X6_isTurning (σ : St) (a1 : Int32) : Int32 := (if a1 = (σ 605 0) then (1 : Int32) else (if a1 = (σ 606 0) then (1 : Int32) else (0 : Int32)))
set_option maxHeartbeats 1000000 in
set_option maxRecDepth 100000 in
theorem k_X6_isTurning (l : Launch) (D : va_G) (ca : Nat → ClassId) (h : Nat) (ad : Nat → Nat) (pa : Nat → Nat → Nat) (tb : Nat) (σ : St) (a1 : Int32) (sz : Nat) (hI : IX σ)  (R : Int32) (hR : s_X6_isTurning σ a1 = R) : Met l yX6_isTurning wsX6_isTurning ({ frames := 0, cells := 0, slots := 0, locals := 0 }) (va_Pc [.ref (ad 809), .int a1] (cw_pre D ca (WC ca h ad pa σ) sz tb)) (va_Qi (fun (r : Int32) (_ : Unit) => r = R) (fun (_ : Unit) (t : State) => pw_post D ca (WC ca h ad pa σ) sz (WC ca h ad pa σ) t) (va_A (WC ca h ad pa σ) sz)) 0 0 (va_A (WC ca h ad pa σ) sz) := by
  refine Met.ofW (cc := cX6_isTurning) (maxL := 2) (ret := (some .boolean)) (by decide) rfl ?_
  intro p e s m args below meth c s₁ B hml hv
  obtain ⟨rfl, ⟨hsz, hP, hK, hD0⟩, hZ⟩ := hv
  have hx := B.exec
  have hb := B.bytes
  have hr := B.returns
  have hts := atoms_spec (ws := wsX6_isTurning) B.pre
  have hown : s.vm.findClass RX6 = some m.cls := findClass_of_methodNamed B.named
  have hlocks := B.notSynchronized
  have hu6 : ∀ w ∈ u_ws RX6 TX6 10, w ∈ wsX6_isTurning := fun w h => List.mem_cons_of_mem _ (uw6 w h)
  subst hsz
  have hD := hD0.self (sz := s.heap.size)
  obtain ⟨A, hAe⟩ : ∃ A, A = va_A (WC ca h ad pa σ) s.heap.size := ⟨_, rfl⟩
  rw [← hAe] at hD hZ ⊢
  have hA : ∀ q : Nat, s.heap.size ≤ q → A q := fun q h => by rw [hAe]; exact Or.inr h
  have hS : va_S A s.heap s.heap [] := va_S.rf
  have hl := lv_entry ([.ref (ad 809), .int a1]) (n := 2) (Nat.le_of_ble_eq_true rfl)
  rw [lg_entry_eq]
  generalize (lg_sl ([.ref (ad 809), .int a1]) ++ List.replicate (2 - (lg_sl ([.ref (ad 809), .int a1])).length) Slot.unset).toArray = ls at hl ⊢
  have hl : lv_has ls 2 [(0, .ref (ad 809)), (1, .int a1)] := hl
  obtain ⟨H, hH⟩ : ∃ H, H = s.heap := ⟨_, rfl⟩
  have hP : va_P D vwCl (WC ca h ad pa σ) H := by rw [hH]; exact hP
  have hS : va_S A s.heap H [] := by rw [hH]; exact hS
  obtain ⟨QQ, hQ⟩ : ∃ Q9, Q9 = MQ below (va_Qi (fun (r : Int32) (_ : Unit) => r = R) (fun (_ : Unit) (t : State) => pw_post D ca (WC ca h ad pa σ) s.heap.size (WC ca h ad pa σ) t) A) ([.ref (ad 809), .int a1] : List Value).toArray s 0 0 A := ⟨_, rfl⟩
  rw [← hQ]
  show W _ _ _ _ _ _ _ _ _ _ s.heap _ _ _ _ _
  rw [← hH]
  have hR : (if a1 = (σ 605 0) then (1 : Int32) else (if a1 = (σ 606 0) then (1 : Int32) else (0 : Int32))) = R := hR
  refine lv_iload_n hx hb dX6_isTurning_0 rfl (lv_at hl 1 rfl) ?_
  refine lv_aload_n hx hb dX6_isTurning_1 rfl (lv_at hl 0 rfl) ?_
  refine va_get (D := D) (ci := 6) (v := .int (σ 605 0)) (C := RX6) (T := TX6) (N := 10) hx hb hts hu6 hown hK hP 5 wc_5 rfl 5 (by decide) (hts (.fieldLink RX6 29 "GrazeBook$Turns" "firstHerd" "I") (List.mem_cons_of_mem _ mw_180)) (fun _ h9 => h9) rfl dX6_isTurning_2 ?_
  refine lv_icmp_eq (tgt := 16) hx hb dX6_isTurning_5 (by decide) (fun c_1 => ?_) (fun c_1 => ?_)
  · have hR := (if_pos c_1).symm.trans hR
    refine lv_iconst (v := (1 : Int32)) hx hb dX6_isTurning_16 (by decide) ?_
    refine lv_goto (tgt := 21) hx hb dX6_isTurning_17 (by decide) ?_
    subst hR
    rw [hQ]
    exact W.zret (v := (1 : Int32)) hx hb hr rfl (fun t ht hW => ⟨⟨(1 : Int32), (), rfl, rfl, ⟨by rw [ht]; exact hP, va_K.moved hW.alike hK, by rw [← hAe]; exact hD⟩⟩, hS.F ht⟩) hS.2.2 dX6_isTurning_21
  · have hR := (if_neg c_1).symm.trans hR
    refine lv_iload_n hx hb dX6_isTurning_8 rfl (lv_at hl 1 rfl) ?_
    refine lv_aload_n hx hb dX6_isTurning_9 rfl (lv_at hl 0 rfl) ?_
    refine va_get (D := D) (ci := 6) (v := .int (σ 606 0)) (C := RX6) (T := TX6) (N := 10) hx hb hts hu6 hown hK hP 5 wc_5 rfl 6 (by decide) (hts (.fieldLink RX6 33 "GrazeBook$Turns" "secondHerd" "I") (List.mem_cons_of_mem _ mw_182)) (fun _ h9 => h9) rfl dX6_isTurning_10 ?_
    refine lv_icmp_ne (tgt := 20) hx hb dX6_isTurning_13 (by decide) (fun c_2 => ?_) (fun c_2 => ?_)
    · have hR := (if_neg c_2).symm.trans hR
      refine lv_iconst (v := (0 : Int32)) hx hb dX6_isTurning_20 (by decide) ?_
      subst hR
      rw [hQ]
      exact W.zret (v := (0 : Int32)) hx hb hr rfl (fun t ht hW => ⟨⟨(0 : Int32), (), rfl, rfl, ⟨by rw [ht]; exact hP, va_K.moved hW.alike hK, by rw [← hAe]; exact hD⟩⟩, hS.F ht⟩) hS.2.2 dX6_isTurning_21
    · have hR := (if_pos c_2).symm.trans hR
      refine lv_iconst (v := (1 : Int32)) hx hb dX6_isTurning_16 (by decide) ?_
      refine lv_goto (tgt := 21) hx hb dX6_isTurning_17 (by decide) ?_
      subst hR
      rw [hQ]
      exact W.zret (v := (1 : Int32)) hx hb hr rfl (fun t ht hW => ⟨⟨(1 : Int32), (), rfl, rfl, ⟨by rw [ht]; exact hP, va_K.moved hW.alike hK, by rw [← hAe]; exact hD⟩⟩, hS.F ht⟩) hS.2.2 dX6_isTurning_21

def s_X6_slots (σ : St) : Int32 := (if ((σ 607 0) * (σ 608 0)) < (4 : Int32) then ((σ 607 0) * (σ 608 0)) else (4 : Int32))
set_option maxHeartbeats 1000000 in
set_option maxRecDepth 100000 in
theorem k_X6_slots (l : Launch) (D : va_G) (ca : Nat → ClassId) (h : Nat) (ad : Nat → Nat) (pa : Nat → Nat → Nat) (tb : Nat) (σ : St) (sz : Nat) (hI : IX σ)  (R : Int32) (hR : s_X6_slots σ = R) : Met l yX6_slots wsX6_slots ({ frames := 1, cells := 0, slots := 0, locals := 13 }) (va_Pc [.ref (ad 809)] (cw_pre D ca (WC ca h ad pa σ) sz tb)) (va_Qi (fun (r : Int32) (_ : Unit) => r = R) (fun (_ : Unit) (t : State) => pw_post D ca (WC ca h ad pa σ) sz (WC ca h ad pa σ) t) (va_A (WC ca h ad pa σ) sz)) 0 0 (va_A (WC ca h ad pa σ) sz) := by
  refine Met.ofW (cc := cX6_slots) (maxL := 1) (ret := (some .int)) (by decide) rfl ?_
  intro p e s m args below meth c s₁ B hml hv
  obtain ⟨rfl, ⟨hsz, hP, hK, hD0⟩, hZ⟩ := hv
  have hx := B.exec
  have hb := B.bytes
  have hr := B.returns
  have hts := atoms_spec (ws := wsX6_slots) B.pre
  have hown : s.vm.findClass RX6 = some m.cls := findClass_of_methodNamed B.named
  have hlocks := B.notSynchronized
  have hu6 : ∀ w ∈ u_ws RX6 TX6 10, w ∈ wsX6_slots := fun w h => List.mem_cons_of_mem _ (uw6 w h)
  subst hsz
  have hD := hD0.self (sz := s.heap.size)
  obtain ⟨A, hAe⟩ : ∃ A, A = va_A (WC ca h ad pa σ) s.heap.size := ⟨_, rfl⟩
  rw [← hAe] at hD hZ ⊢
  have hA : ∀ q : Nat, s.heap.size ≤ q → A q := fun q h => by rw [hAe]; exact Or.inr h
  have hS : va_S A s.heap s.heap [] := va_S.rf
  have hl := lv_entry ([.ref (ad 809)]) (n := 1) (Nat.le_of_ble_eq_true rfl)
  rw [lg_entry_eq]
  generalize (lg_sl ([.ref (ad 809)]) ++ List.replicate (1 - (lg_sl ([.ref (ad 809)])).length) Slot.unset).toArray = ls at hl ⊢
  have hl : lv_has ls 1 [(0, .ref (ad 809))] := hl
  obtain ⟨H, hH⟩ : ∃ H, H = s.heap := ⟨_, rfl⟩
  have hP : va_P D vwCl (WC ca h ad pa σ) H := by rw [hH]; exact hP
  have hS : va_S A s.heap H [] := by rw [hH]; exact hS
  obtain ⟨QQ, hQ⟩ : ∃ Q9, Q9 = MQ below (va_Qi (fun (r : Int32) (_ : Unit) => r = R) (fun (_ : Unit) (t : State) => pw_post D ca (WC ca h ad pa σ) s.heap.size (WC ca h ad pa σ) t) A) ([.ref (ad 809)] : List Value).toArray s 0 0 A := ⟨_, rfl⟩
  rw [← hQ]
  show W _ _ _ _ _ _ _ _ _ _ s.heap _ _ _ _ _
  rw [← hH]
  have hR : (if ((σ 607 0) * (σ 608 0)) < (4 : Int32) then ((σ 607 0) * (σ 608 0)) else (4 : Int32)) = R := hR
  refine lv_iconst (v := (4 : Int32)) hx hb dX6_slots_0 (by decide) ?_
  refine lv_aload_n hx hb dX6_slots_1 rfl (lv_at hl 0 rfl) ?_
  refine va_get (D := D) (ci := 6) (v := .int (σ 607 0)) (C := RX6) (T := TX6) (N := 10) hx hb hts hu6 hown hK hP 5 wc_5 rfl 7 (by decide) (hts (.fieldLink RX6 36 "GrazeBook$Turns" "width" "I") (List.mem_cons_of_mem _ mw_184)) (fun _ h9 => h9) rfl dX6_slots_2 ?_
  refine lv_aload_n hx hb dX6_slots_5 rfl (lv_at hl 0 rfl) ?_
  refine va_get (D := D) (ci := 6) (v := .int (σ 608 0)) (C := RX6) (T := TX6) (N := 10) hx hb hts hu6 hown hK hP 5 wc_5 rfl 8 (by decide) (hts (.fieldLink RX6 39 "GrazeBook$Turns" "steps" "I") (List.mem_cons_of_mem _ mw_185)) (fun _ h9 => h9) rfl dX6_slots_6 ?_
  refine lv_imul hx hb dX6_slots_9 ?_
  refine va_mmin hx hb (hml.trans hl.1.symm) hown (hts (.methodLink RX6 45 Lib.Math.min.name) (List.mem_cons_of_mem _ mw_685)) (hts (.static Lib.Math.min.name) (List.mem_cons_of_mem _ mw_588)) (hts (.initialized "java/lang/Math") (List.mem_cons_of_mem _ mw_68)) (hts (.code Lib.Math.min.name Lib.Math.min.code 2 (some .int)) (List.mem_cons_of_mem _ mw_589)) (Nat.le_of_ble_eq_true rfl) (Nat.le_of_ble_eq_true rfl) (Nat.le_of_ble_eq_true rfl) (Nat.le_of_ble_eq_true rfl) dX6_slots_10 ?_
  subst hR
  rw [hQ]
  exact W.iret (v := (if ((σ 607 0) * (σ 608 0)) < (4 : Int32) then ((σ 607 0) * (σ 608 0)) else (4 : Int32))) hx hb hr (fun t ht hW => ⟨⟨(if ((σ 607 0) * (σ 608 0)) < (4 : Int32) then ((σ 607 0) * (σ 608 0)) else (4 : Int32)), (), rfl, rfl, ⟨by rw [ht]; exact hP, va_K.moved hW.alike hK, by rw [← hAe]; exact hD⟩⟩, hS.F ht⟩) hS.2.2 dX6_slots_13

theorem slots_ok {σ : St} (h : IX σ) : 0 ≤ (s_X6_slots σ).toInt ∧ (s_X6_slots σ).toInt ≤ ((4 : Nat) : Int) := by
  unfold s_X6_slots
  have h1 := ix_607 h
  have e1 : (1 : Int32).toInt = 1 := by decide
  have e2 : (2 : Int32).toInt = 2 := by decide
  have e4 : (4 : Int32).toInt = 4 := by decide
  have q : 0 ≤ (σ 607 0 * σ 608 0).toInt := by
    rcases h1.1 with ⟨a, b⟩ | ⟨a, b⟩
    · rw [a, mul_ti (by rw [e1]; omega) (by rw [e1]; omega), e1]; omega
    · rw [a, mul_ti (by rw [e2]; omega) (by rw [e2]; omega), e2]; omega
  split
  · rename_i h2
    rw [Int32.lt_iff_toInt_lt, e4] at h2
    omega
  · rw [e4]
    omega
theorem way_ok {x : Int32} (h : 0 ≤ x.toInt ∧ x.toInt ≤ ((4 : Nat) : Int)) : 0 ≤ ((1 : Int32) <<< (x &&& 31)).toInt ∧ ((1 : Int32) <<< (x &&& 31)).toInt ≤ ((16 : Nat) : Int) := by
  obtain ⟨j, hj, e⟩ := vp_in_of (x := x) (n := 5) (by rw [vp_in_iff]; omega) (by decide)
  subst e
  match j, hj with
  | 0, _ => decide
  | 1, _ => decide
  | 2, _ => decide
  | 3, _ => decide
  | 4, _ => decide
  | j + 5, hj => omega
theorem bit_ok {x : Int32} (h : vp_in x 4) : 0 ≤ ((1 : Int32) <<< (x &&& 31)).toInt ∧ ((1 : Int32) <<< (x &&& 31)).toInt < 16 := by
  obtain ⟨j, hj, e⟩ := vp_in_of h (by decide)
  subst e
  match j, hj with
  | 0, _ => decide
  | 1, _ => decide
  | 2, _ => decide
  | 3, _ => decide
  | j + 4, hj => omega
theorem or_ok {x y : Int32} (hx : 0 ≤ x.toInt ∧ x.toInt < 16) (hy : 0 ≤ y.toInt ∧ y.toInt < 16) : 0 ≤ (x ||| y).toInt ∧ (x ||| y).toInt < 16 := by
  obtain ⟨a, ha, e⟩ := vp_in_of (x := x) (n := 16) (vp_in_iff.mpr (by omega)) (by decide)
  obtain ⟨b, hb, e2⟩ := vp_in_of (x := y) (n := 16) (vp_in_iff.mpr (by omega)) (by decide)
  subst e; subst e2
  have e3 : nI a ||| nI b = nI (a ||| b) := by
    rw [← Int32.toBitVec_inj]
    show (nI a).toBitVec ||| (nI b).toBitVec = (nI (a ||| b)).toBitVec
    show BitVec.ofNat 32 a ||| BitVec.ofNat 32 b = BitVec.ofNat 32 (a ||| b)
    rw [BitVec.ofNat_or]
  have h3 : a ||| b < 16 := Nat.or_lt_two_pow (n := 4) ha hb
  rw [e3, nI_toInt (by omega)]
  omega

def s_X6_waysToVisit (σ : St) : Int32 := ((1 : Int32) <<< ((s_X6_slots σ) &&& 31))
set_option maxHeartbeats 1000000 in
set_option maxRecDepth 100000 in
theorem k_X6_waysToVisit (l : Launch) (D : va_G) (ca : Nat → ClassId) (h : Nat) (ad : Nat → Nat) (pa : Nat → Nat → Nat) (tb : Nat) (σ : St) (sz : Nat) (hI : IX σ)  (R : Int32) (hR : s_X6_waysToVisit σ = R) : Met l yX6_waysToVisit wsX6_waysToVisit ({ frames := 2, cells := 0, slots := 0, locals := 33 }) (va_Pc [.ref (ad 809)] (cw_pre D ca (WC ca h ad pa σ) sz tb)) (va_Qi (fun (r : Int32) (_ : Unit) => r = R) (fun (_ : Unit) (t : State) => pw_post D ca (WC ca h ad pa σ) sz (WC ca h ad pa σ) t) (va_A (WC ca h ad pa σ) sz)) 0 0 (va_A (WC ca h ad pa σ) sz) := by
  refine Met.ofW (cc := cX6_waysToVisit) (maxL := 1) (ret := (some .int)) (by decide) rfl ?_
  intro p e s m args below meth c s₁ B hml hv
  obtain ⟨rfl, ⟨hsz, hP, hK, hD0⟩, hZ⟩ := hv
  have hx := B.exec
  have hb := B.bytes
  have hr := B.returns
  have hts := atoms_spec (ws := wsX6_waysToVisit) B.pre
  have hown : s.vm.findClass RX6 = some m.cls := findClass_of_methodNamed B.named
  have hlocks := B.notSynchronized
  subst hsz
  have hD := hD0.self (sz := s.heap.size)
  obtain ⟨A, hAe⟩ : ∃ A, A = va_A (WC ca h ad pa σ) s.heap.size := ⟨_, rfl⟩
  rw [← hAe] at hD hZ ⊢
  have hA : ∀ q : Nat, s.heap.size ≤ q → A q := fun q h => by rw [hAe]; exact Or.inr h
  have hS : va_S A s.heap s.heap [] := va_S.rf
  have hl := lv_entry ([.ref (ad 809)]) (n := 1) (Nat.le_of_ble_eq_true rfl)
  rw [lg_entry_eq]
  generalize (lg_sl ([.ref (ad 809)]) ++ List.replicate (1 - (lg_sl ([.ref (ad 809)])).length) Slot.unset).toArray = ls at hl ⊢
  have hl : lv_has ls 1 [(0, .ref (ad 809))] := hl
  obtain ⟨H, hH⟩ : ∃ H, H = s.heap := ⟨_, rfl⟩
  have hP : va_P D vwCl (WC ca h ad pa σ) H := by rw [hH]; exact hP
  have hS : va_S A s.heap H [] := by rw [hH]; exact hS
  obtain ⟨QQ, hQ⟩ : ∃ Q9, Q9 = MQ below (va_Qi (fun (r : Int32) (_ : Unit) => r = R) (fun (_ : Unit) (t : State) => pw_post D ca (WC ca h ad pa σ) s.heap.size (WC ca h ad pa σ) t) A) ([.ref (ad 809)] : List Value).toArray s 0 0 A := ⟨_, rfl⟩
  rw [← hQ]
  show W _ _ _ _ _ _ _ _ _ _ s.heap _ _ _ _ _
  rw [← hH]
  have hR : ((1 : Int32) <<< ((s_X6_slots σ) &&& 31)) = R := hR
  refine lv_iconst (v := (1 : Int32)) hx hb dX6_waysToVisit_0 (by decide) ?_
  refine lv_aload_n hx hb dX6_waysToVisit_1 rfl (lv_at hl 0 rfl) ?_
  have hF := pw_free hD hS hA
  refine va_calli (va_runV (As := []) (rest := [.int (1 : Int32)]) ⟨hx, hb, hml, hown, hts⟩ (k_X6_slots l D ca h ad pa tb σ H.size hI _ rfl) (cwV 0 hts gX6_waysToVisit_X6_slots rfl rfl rfl (by decide +kernel) ⟨Nat.le_of_ble_eq_true rfl, Nat.le_of_ble_eq_true rfl⟩) ⟨cw_blind, va_recv hK hP (ci := 6) (q0 := 5) rfl wc_5, cw_give hP hK hD hZ hS hF⟩ rfl rfl hl.1 rfl (lv_room (Nat.le_of_ble_eq_true rfl)) dX6_waysToVisit_2 ⟨Nat.le_of_ble_eq_true rfl, Nat.le_of_ble_eq_true rfl⟩) hS (fun q _ h => hF q h) hF (fun r_1 u t H1 locs ht hvm hw hB hz1 hk1 hS => ?_)
  rw [hw]
  obtain ⟨hP, hD⟩ := pw_back hF ht hB
  clear hB hk1 hz1 hF
  generalize H1 = H at hP hS ⊢
  refine lv_ishl hx hb dX6_waysToVisit_5 ?_
  subst hR
  rw [hQ]
  exact W.iret (v := ((1 : Int32) <<< ((s_X6_slots σ) &&& 31))) hx hb hr (fun t ht hW => ⟨⟨((1 : Int32) <<< ((s_X6_slots σ) &&& 31)), (), rfl, rfl, ⟨by rw [ht]; exact hP, va_K.moved hW.alike hK, by rw [← hAe]; exact hD⟩⟩, hS.F ht⟩) hS.2.2 dX6_waysToVisit_6

def s_X6_visitsIn_j19 (σ : St) (a1 : Int32) (a2 : Int32) (y0_1 : Int32) : Int32 := (if ((a1 >>> (((a2 * (σ 607 0)) + y0_1) &&& 31)) &&& (1 : Int32)) = (1 : Int32) then (1 : Int32) else (0 : Int32))
def s_X6_visitsIn (σ : St) (a1 : Int32) (a2 : Int32) (a3 : Int32) : Int32 := (if a3 = (σ 605 0) then (s_X6_visitsIn_j19 σ a1 a2 (0 : Int32)) else (s_X6_visitsIn_j19 σ a1 a2 (1 : Int32)))
set_option maxHeartbeats 1000000 in
set_option maxRecDepth 100000 in
theorem k_X6_visitsIn (l : Launch) (D : va_G) (ca : Nat → ClassId) (h : Nat) (ad : Nat → Nat) (pa : Nat → Nat → Nat) (tb : Nat) (σ : St) (a1 : Int32) (a2 : Int32) (a3 : Int32) (sz : Nat) (hI : IX σ)  (R : Int32) (hR : s_X6_visitsIn σ a1 a2 a3 = R) : Met l yX6_visitsIn wsX6_visitsIn ({ frames := 0, cells := 0, slots := 0, locals := 0 }) (va_Pc [.ref (ad 809), .int a1, .int a2, .int a3] (cw_pre D ca (WC ca h ad pa σ) sz tb)) (va_Qi (fun (r : Int32) (_ : Unit) => r = R) (fun (_ : Unit) (t : State) => pw_post D ca (WC ca h ad pa σ) sz (WC ca h ad pa σ) t) (va_A (WC ca h ad pa σ) sz)) 0 0 (va_A (WC ca h ad pa σ) sz) := by
  refine Met.ofW (cc := cX6_visitsIn) (maxL := 5) (ret := (some .boolean)) (by decide) rfl ?_
  intro p e s m args below meth c s₁ B hml hv
  obtain ⟨rfl, ⟨hsz, hP, hK, hD0⟩, hZ⟩ := hv
  have hx := B.exec
  have hb := B.bytes
  have hr := B.returns
  have hts := atoms_spec (ws := wsX6_visitsIn) B.pre
  have hown : s.vm.findClass RX6 = some m.cls := findClass_of_methodNamed B.named
  have hlocks := B.notSynchronized
  have hu6 : ∀ w ∈ u_ws RX6 TX6 10, w ∈ wsX6_visitsIn := fun w h => List.mem_cons_of_mem _ (uw6 w h)
  subst hsz
  have hD := hD0.self (sz := s.heap.size)
  obtain ⟨A, hAe⟩ : ∃ A, A = va_A (WC ca h ad pa σ) s.heap.size := ⟨_, rfl⟩
  rw [← hAe] at hD hZ ⊢
  have hA : ∀ q : Nat, s.heap.size ≤ q → A q := fun q h => by rw [hAe]; exact Or.inr h
  have hS : va_S A s.heap s.heap [] := va_S.rf
  have hl := lv_entry ([.ref (ad 809), .int a1, .int a2, .int a3]) (n := 5) (Nat.le_of_ble_eq_true rfl)
  rw [lg_entry_eq]
  generalize (lg_sl ([.ref (ad 809), .int a1, .int a2, .int a3]) ++ List.replicate (5 - (lg_sl ([.ref (ad 809), .int a1, .int a2, .int a3])).length) Slot.unset).toArray = ls at hl ⊢
  have hl : lv_has ls 5 [(0, .ref (ad 809)), (1, .int a1), (2, .int a2), (3, .int a3)] := hl
  obtain ⟨H, hH⟩ : ∃ H, H = s.heap := ⟨_, rfl⟩
  have hP : va_P D vwCl (WC ca h ad pa σ) H := by rw [hH]; exact hP
  have hS : va_S A s.heap H [] := by rw [hH]; exact hS
  obtain ⟨QQ, hQ⟩ : ∃ Q9, Q9 = MQ below (va_Qi (fun (r : Int32) (_ : Unit) => r = R) (fun (_ : Unit) (t : State) => pw_post D ca (WC ca h ad pa σ) s.heap.size (WC ca h ad pa σ) t) A) ([.ref (ad 809), .int a1, .int a2, .int a3] : List Value).toArray s 0 0 A := ⟨_, rfl⟩
  rw [← hQ]
  show W _ _ _ _ _ _ _ _ _ _ s.heap _ _ _ _ _
  rw [← hH]
  have hR : (if a3 = (σ 605 0) then (s_X6_visitsIn_j19 σ a1 a2 (0 : Int32)) else (s_X6_visitsIn_j19 σ a1 a2 (1 : Int32))) = R := hR
  refine lv_iload_n hx hb dX6_visitsIn_0 rfl (lv_at hl 2 rfl) ?_
  refine lv_aload_n hx hb dX6_visitsIn_1 rfl (lv_at hl 0 rfl) ?_
  refine va_get (D := D) (ci := 6) (v := .int (σ 607 0)) (C := RX6) (T := TX6) (N := 10) hx hb hts hu6 hown hK hP 5 wc_5 rfl 7 (by decide) (hts (.fieldLink RX6 36 "GrazeBook$Turns" "width" "I") (List.mem_cons_of_mem _ mw_184)) (fun _ h9 => h9) rfl dX6_visitsIn_2 ?_
  refine lv_imul hx hb dX6_visitsIn_5 ?_
  refine lv_iload_n hx hb dX6_visitsIn_6 rfl (lv_at hl 3 rfl) ?_
  refine lv_aload_n hx hb dX6_visitsIn_7 rfl (lv_at hl 0 rfl) ?_
  refine va_get (D := D) (ci := 6) (v := .int (σ 605 0)) (C := RX6) (T := TX6) (N := 10) hx hb hts hu6 hown hK hP 5 wc_5 rfl 5 (by decide) (hts (.fieldLink RX6 29 "GrazeBook$Turns" "firstHerd" "I") (List.mem_cons_of_mem _ mw_180)) (fun _ h9 => h9) rfl dX6_visitsIn_8 ?_
  have hJ_1 : ∀ (y0_1 : Int32) (H : Heap) (locs : List Loc) (ls : Array Slot), s_X6_visitsIn_j19 σ a1 a2 y0_1 = R → va_P D vwCl (WC ca h ad pa σ) H → va_D A (WC ca h ad pa σ) → va_S A s.heap H locs → lv_has ls 5 [(1, .int a1)] → W p l e ((headSpec wsX6_visitsIn ({ frames := 0, cells := 0, slots := 0, locals := 0 })).room) s m ([.ref (ad 809), .int a1, .int a2, .int a3] : List Value).toArray below meth c H locs 0 0 QQ (F0 m 19 ls [.int y0_1, .int (a2 * (σ 607 0))]) := by
    intro y0_1 H locs ls hR hP hD hS hl
    have hR : (if ((a1 >>> (((a2 * (σ 607 0)) + y0_1) &&& 31)) &&& (1 : Int32)) = (1 : Int32) then (1 : Int32) else (0 : Int32)) = R := hR
    refine lv_iadd hx hb dX6_visitsIn_19 ?_
    refine lv_istore (lv' := [(4, .int ((a2 * (σ 607 0)) + y0_1)), (1, .int a1)]) hx hb dX6_visitsIn_20 hl (by decide) rfl (fun ls hl => ?_)
    refine lv_iload_n hx hb dX6_visitsIn_22 rfl (lv_at hl 1 rfl) ?_
    refine lv_iload hx hb dX6_visitsIn_23 (lv_at hl 0 rfl) ?_
    refine lv_ishr hx hb dX6_visitsIn_25 ?_
    refine lv_iconst (v := (1 : Int32)) hx hb dX6_visitsIn_26 (by decide) ?_
    refine lv_iand hx hb dX6_visitsIn_27 ?_
    refine lv_iconst (v := (1 : Int32)) hx hb dX6_visitsIn_28 (by decide) ?_
    refine lv_icmp_ne (tgt := 36) hx hb dX6_visitsIn_29 (by decide) (fun c_2 => ?_) (fun c_2 => ?_)
    · have hR := (if_neg c_2).symm.trans hR
      refine lv_iconst (v := (0 : Int32)) hx hb dX6_visitsIn_36 (by decide) ?_
      subst hR
      rw [hQ]
      exact W.zret (v := (0 : Int32)) hx hb hr rfl (fun t ht hW => ⟨⟨(0 : Int32), (), rfl, rfl, ⟨by rw [ht]; exact hP, va_K.moved hW.alike hK, by rw [← hAe]; exact hD⟩⟩, hS.F ht⟩) hS.2.2 dX6_visitsIn_37
    · have hR := (if_pos c_2).symm.trans hR
      refine lv_iconst (v := (1 : Int32)) hx hb dX6_visitsIn_32 (by decide) ?_
      refine lv_goto (tgt := 37) hx hb dX6_visitsIn_33 (by decide) ?_
      subst hR
      rw [hQ]
      exact W.zret (v := (1 : Int32)) hx hb hr rfl (fun t ht hW => ⟨⟨(1 : Int32), (), rfl, rfl, ⟨by rw [ht]; exact hP, va_K.moved hW.alike hK, by rw [← hAe]; exact hD⟩⟩, hS.F ht⟩) hS.2.2 dX6_visitsIn_37
  refine lv_icmp_ne (tgt := 18) hx hb dX6_visitsIn_11 (by decide) (fun c_3 => ?_) (fun c_3 => ?_)
  · have hR := (if_neg c_3).symm.trans hR
    refine lv_iconst (v := (1 : Int32)) hx hb dX6_visitsIn_18 (by decide) ?_
    exact hJ_1 (1 : Int32) _ _ _ hR hP hD hS (lv_sub hl [1] rfl)
  · have hR := (if_pos c_3).symm.trans hR
    refine lv_iconst (v := (0 : Int32)) hx hb dX6_visitsIn_14 (by decide) ?_
    refine lv_goto (tgt := 19) hx hb dX6_visitsIn_15 (by decide) ?_
    exact hJ_1 (0 : Int32) _ _ _ hR hP hD hS (lv_sub hl [1] rfl)

def s_X6_pieceOfStep (σ : St) (a1 : Int32) (a2 : Int32) : Int32 := (if a1 < (0 : Int32) then (-9 : Int32) else (if (σ 608 0) ≤ a1 then (-9 : Int32) else (if a2 < (0 : Int32) then (-9 : Int32) else (if a2 < (σ 607 0) then (σ 603 (((a1 * (σ 607 0)) + a2).toNatClampNeg)) else (-9 : Int32)))))
set_option maxHeartbeats 1000000 in
set_option maxRecDepth 100000 in
theorem k_X6_pieceOfStep (l : Launch) (D : va_G) (ca : Nat → ClassId) (h : Nat) (ad : Nat → Nat) (pa : Nat → Nat → Nat) (tb : Nat) (σ : St) (a1 : Int32) (a2 : Int32) (sz : Nat) (hI : IX σ)  (R : Int32) (hR : s_X6_pieceOfStep σ a1 a2 = R) : Met l yX6_pieceOfStep wsX6_pieceOfStep ({ frames := 0, cells := 0, slots := 0, locals := 0 }) (va_Pc [.ref (ad 809), .int a1, .int a2] (cw_pre D ca (WC ca h ad pa σ) sz tb)) (va_Qi (fun (r : Int32) (_ : Unit) => r = R) (fun (_ : Unit) (t : State) => pw_post D ca (WC ca h ad pa σ) sz (WC ca h ad pa σ) t) (va_A (WC ca h ad pa σ) sz)) 0 0 (va_A (WC ca h ad pa σ) sz) := by
  refine Met.ofW (cc := cX6_pieceOfStep) (maxL := 3) (ret := (some .int)) (by decide) rfl ?_
  intro p e s m args below meth c s₁ B hml hv
  obtain ⟨rfl, ⟨hsz, hP, hK, hD0⟩, hZ⟩ := hv
  have hx := B.exec
  have hb := B.bytes
  have hr := B.returns
  have hts := atoms_spec (ws := wsX6_pieceOfStep) B.pre
  have hown : s.vm.findClass RX6 = some m.cls := findClass_of_methodNamed B.named
  have hlocks := B.notSynchronized
  have hu6 : ∀ w ∈ u_ws RX6 TX6 10, w ∈ wsX6_pieceOfStep := fun w h => List.mem_cons_of_mem _ (uw6 w h)
  subst hsz
  have hD := hD0.self (sz := s.heap.size)
  obtain ⟨A, hAe⟩ : ∃ A, A = va_A (WC ca h ad pa σ) s.heap.size := ⟨_, rfl⟩
  rw [← hAe] at hD hZ ⊢
  have hA : ∀ q : Nat, s.heap.size ≤ q → A q := fun q h => by rw [hAe]; exact Or.inr h
  have hS : va_S A s.heap s.heap [] := va_S.rf
  have hl := lv_entry ([.ref (ad 809), .int a1, .int a2]) (n := 3) (Nat.le_of_ble_eq_true rfl)
  rw [lg_entry_eq]
  generalize (lg_sl ([.ref (ad 809), .int a1, .int a2]) ++ List.replicate (3 - (lg_sl ([.ref (ad 809), .int a1, .int a2])).length) Slot.unset).toArray = ls at hl ⊢
  have hl : lv_has ls 3 [(0, .ref (ad 809)), (1, .int a1), (2, .int a2)] := hl
  obtain ⟨H, hH⟩ : ∃ H, H = s.heap := ⟨_, rfl⟩
  have hP : va_P D vwCl (WC ca h ad pa σ) H := by rw [hH]; exact hP
  have hS : va_S A s.heap H [] := by rw [hH]; exact hS
  obtain ⟨QQ, hQ⟩ : ∃ Q9, Q9 = MQ below (va_Qi (fun (r : Int32) (_ : Unit) => r = R) (fun (_ : Unit) (t : State) => pw_post D ca (WC ca h ad pa σ) s.heap.size (WC ca h ad pa σ) t) A) ([.ref (ad 809), .int a1, .int a2] : List Value).toArray s 0 0 A := ⟨_, rfl⟩
  rw [← hQ]
  show W _ _ _ _ _ _ _ _ _ _ s.heap _ _ _ _ _
  rw [← hH]
  have hR : (if a1 < (0 : Int32) then (-9 : Int32) else (if (σ 608 0) ≤ a1 then (-9 : Int32) else (if a2 < (0 : Int32) then (-9 : Int32) else (if a2 < (σ 607 0) then (σ 603 (((a1 * (σ 607 0)) + a2).toNatClampNeg)) else (-9 : Int32))))) = R := hR
  refine lv_iload_n hx hb dX6_pieceOfStep_0 rfl (lv_at hl 1 rfl) ?_
  refine lv_if_lt (tgt := 24) hx hb dX6_pieceOfStep_1 (by decide) (fun c_1 => ?_) (fun c_1 => ?_)
  · have hR := (if_pos c_1).symm.trans hR
    refine lv_bipush (v := (-9 : Int32)) hx hb dX6_pieceOfStep_24 (by decide) ?_
    subst hR
    rw [hQ]
    exact W.iret (v := (-9 : Int32)) hx hb hr (fun t ht hW => ⟨⟨(-9 : Int32), (), rfl, rfl, ⟨by rw [ht]; exact hP, va_K.moved hW.alike hK, by rw [← hAe]; exact hD⟩⟩, hS.F ht⟩) hS.2.2 dX6_pieceOfStep_26
  · have hR := (if_neg c_1).symm.trans hR
    refine lv_iload_n hx hb dX6_pieceOfStep_4 rfl (lv_at hl 1 rfl) ?_
    refine lv_aload_n hx hb dX6_pieceOfStep_5 rfl (lv_at hl 0 rfl) ?_
    refine va_get (D := D) (ci := 6) (v := .int (σ 608 0)) (C := RX6) (T := TX6) (N := 10) hx hb hts hu6 hown hK hP 5 wc_5 rfl 8 (by decide) (hts (.fieldLink RX6 39 "GrazeBook$Turns" "steps" "I") (List.mem_cons_of_mem _ mw_185)) (fun _ h9 => h9) rfl dX6_pieceOfStep_6 ?_
    refine lv_icmp_ge (tgt := 24) hx hb dX6_pieceOfStep_9 (by decide) (fun c_2 => ?_) (fun c_2 => ?_)
    · have hR := (if_pos c_2).symm.trans hR
      refine lv_bipush (v := (-9 : Int32)) hx hb dX6_pieceOfStep_24 (by decide) ?_
      subst hR
      rw [hQ]
      exact W.iret (v := (-9 : Int32)) hx hb hr (fun t ht hW => ⟨⟨(-9 : Int32), (), rfl, rfl, ⟨by rw [ht]; exact hP, va_K.moved hW.alike hK, by rw [← hAe]; exact hD⟩⟩, hS.F ht⟩) hS.2.2 dX6_pieceOfStep_26
    · have hR := (if_neg c_2).symm.trans hR
      refine lv_iload_n hx hb dX6_pieceOfStep_12 rfl (lv_at hl 2 rfl) ?_
      refine lv_if_lt (tgt := 24) hx hb dX6_pieceOfStep_13 (by decide) (fun c_3 => ?_) (fun c_3 => ?_)
      · have hR := (if_pos c_3).symm.trans hR
        refine lv_bipush (v := (-9 : Int32)) hx hb dX6_pieceOfStep_24 (by decide) ?_
        subst hR
        rw [hQ]
        exact W.iret (v := (-9 : Int32)) hx hb hr (fun t ht hW => ⟨⟨(-9 : Int32), (), rfl, rfl, ⟨by rw [ht]; exact hP, va_K.moved hW.alike hK, by rw [← hAe]; exact hD⟩⟩, hS.F ht⟩) hS.2.2 dX6_pieceOfStep_26
      · have hR := (if_neg c_3).symm.trans hR
        refine lv_iload_n hx hb dX6_pieceOfStep_16 rfl (lv_at hl 2 rfl) ?_
        refine lv_aload_n hx hb dX6_pieceOfStep_17 rfl (lv_at hl 0 rfl) ?_
        refine va_get (D := D) (ci := 6) (v := .int (σ 607 0)) (C := RX6) (T := TX6) (N := 10) hx hb hts hu6 hown hK hP 5 wc_5 rfl 7 (by decide) (hts (.fieldLink RX6 36 "GrazeBook$Turns" "width" "I") (List.mem_cons_of_mem _ mw_184)) (fun _ h9 => h9) rfl dX6_pieceOfStep_18 ?_
        refine lv_icmp_lt (tgt := 27) hx hb dX6_pieceOfStep_21 (by decide) (fun c_4 => ?_) (fun c_4 => ?_)
        · have hR := (if_pos c_4).symm.trans hR
          refine lv_aload_n hx hb dX6_pieceOfStep_27 rfl (lv_at hl 0 rfl) ?_
          refine va_get (D := D) (ci := 6) (v := .ref (ad 603)) (C := RX6) (T := TX6) (N := 10) hx hb hts hu6 hown hK hP 5 wc_5 rfl 3 (by decide) (hts (.fieldLink RX6 23 "GrazeBook$Turns" "best" "[I") (List.mem_cons_of_mem _ mw_178)) (fun _ h9 => h9) rfl dX6_pieceOfStep_28 ?_
          refine lv_iload_n hx hb dX6_pieceOfStep_31 rfl (lv_at hl 1 rfl) ?_
          refine lv_aload_n hx hb dX6_pieceOfStep_32 rfl (lv_at hl 0 rfl) ?_
          refine va_get (D := D) (ci := 6) (v := .int (σ 607 0)) (C := RX6) (T := TX6) (N := 10) hx hb hts hu6 hown hK hP 5 wc_5 rfl 7 (by decide) (hts (.fieldLink RX6 36 "GrazeBook$Turns" "width" "I") (List.mem_cons_of_mem _ mw_184)) (fun _ h9 => h9) rfl dX6_pieceOfStep_33 ?_
          refine lv_imul hx hb dX6_pieceOfStep_36 ?_
          refine lv_iload_n hx hb dX6_pieceOfStep_37 rfl (lv_at hl 2 rfl) ?_
          refine lv_iadd hx hb dX6_pieceOfStep_38 ?_
          refine va_iald_k (k := (((a1 * (σ 607 0)) + a2).toNatClampNeg)) (v := (σ 603 (((a1 * (σ 607 0)) + a2).toNatClampNeg))) hx hb hK hP 24 0 wc_24 rfl rfl rfl (pl_place (ix_607 hI) (ip_le (not_lt0 c_1) (lt_of_not_le0 c_2)) (ip_le (not_lt0 c_3) c_4)) dX6_pieceOfStep_39 ?_
          subst hR
          rw [hQ]
          exact W.iret (v := (σ 603 (((a1 * (σ 607 0)) + a2).toNatClampNeg))) hx hb hr (fun t ht hW => ⟨⟨(σ 603 (((a1 * (σ 607 0)) + a2).toNatClampNeg)), (), rfl, rfl, ⟨by rw [ht]; exact hP, va_K.moved hW.alike hK, by rw [← hAe]; exact hD⟩⟩, hS.F ht⟩) hS.2.2 dX6_pieceOfStep_40
        · have hR := (if_neg c_4).symm.trans hR
          refine lv_bipush (v := (-9 : Int32)) hx hb dX6_pieceOfStep_24 (by decide) ?_
          subst hR
          rw [hQ]
          exact W.iret (v := (-9 : Int32)) hx hb hr (fun t ht hW => ⟨⟨(-9 : Int32), (), rfl, rfl, ⟨by rw [ht]; exact hP, va_K.moved hW.alike hK, by rw [← hAe]; exact hD⟩⟩, hS.F ht⟩) hS.2.2 dX6_pieceOfStep_26

def s_X6_isOpen_c2  : Unit → Int32 := fun x9 => match x9 with
  | _ => (1 : Int32)
def s_X6_isOpen_c2r  : Sum Int32 Unit → Int32 := fun x9 => match x9 with
  | .inl r => r
  | .inr s => s_X6_isOpen_c2 s
def s_X6_isOpen_c12  : Unit → Sum Int32 Unit := fun x9 => match x9 with
  | _ => (Sum.inr ())
def s_X6_isOpen_c12r  : Sum Int32 Unit → Sum Int32 Unit := fun x9 => match x9 with
  | .inl r => (Sum.inl r)
  | .inr s => s_X6_isOpen_c12 s
def s_X6_isOpen_l12 (σ : St) (k_1 : Nat) (k_4 : Nat) : Unit → Sum Int32 Unit := fun x9 => match x9 with
  | _ => (if (((σ 601 k_1) >>> ((σ 602 ((((nI k_1) * (σ 607 0)) + (nI k_4)).toNatClampNeg)) &&& 31)) &&& (1 : Int32)) = (0 : Int32) then (Sum.inl (0 : Int32)) else (Sum.inr ()))
def s_X6_isOpen_l2 (σ : St) (k_1 : Nat) : Unit → Sum Int32 Unit := fun x9 => match x9 with
  | _ => (s_X6_isOpen_c12r (iterR (s_X6_isOpen_l12 σ k_1) ((σ 607 0).toNatClampNeg - 0) 0 ()))
def s_X6_isOpen (σ : St) : Int32 := (s_X6_isOpen_c2r (iterR (s_X6_isOpen_l2 σ) ((σ 608 0).toNatClampNeg - 0) 0 ()))
set_option maxHeartbeats 1000000 in
set_option maxRecDepth 100000 in
theorem k_X6_isOpen (l : Launch) (D : va_G) (ca : Nat → ClassId) (h : Nat) (ad : Nat → Nat) (pa : Nat → Nat → Nat) (tb : Nat) (σ : St) (sz : Nat) (hI : IX σ)  (R : Int32) (hR : s_X6_isOpen σ = R) : Met l yX6_isOpen wsX6_isOpen ({ frames := 0, cells := 0, slots := 0, locals := 0 }) (va_Pc [.ref (ad 809)] (cw_pre D ca (WC ca h ad pa σ) sz tb)) (va_Qi (fun (r : Int32) (_ : Unit) => r = R) (fun (_ : Unit) (t : State) => pw_post D ca (WC ca h ad pa σ) sz (WC ca h ad pa σ) t) (va_A (WC ca h ad pa σ) sz)) 0 0 (va_A (WC ca h ad pa σ) sz) := by
  refine Met.ofW (cc := cX6_isOpen) (maxL := 3) (ret := (some .boolean)) (by decide) rfl ?_
  intro p e s m args below meth c s₁ B hml hv
  obtain ⟨rfl, ⟨hsz, hP, hK, hD0⟩, hZ⟩ := hv
  have hx := B.exec
  have hb := B.bytes
  have hr := B.returns
  have hts := atoms_spec (ws := wsX6_isOpen) B.pre
  have hown : s.vm.findClass RX6 = some m.cls := findClass_of_methodNamed B.named
  have hlocks := B.notSynchronized
  have hu6 : ∀ w ∈ u_ws RX6 TX6 10, w ∈ wsX6_isOpen := fun w h => List.mem_cons_of_mem _ (uw6 w h)
  subst hsz
  have hD := hD0.self (sz := s.heap.size)
  obtain ⟨A, hAe⟩ : ∃ A, A = va_A (WC ca h ad pa σ) s.heap.size := ⟨_, rfl⟩
  rw [← hAe] at hD hZ ⊢
  have hA : ∀ q : Nat, s.heap.size ≤ q → A q := fun q h => by rw [hAe]; exact Or.inr h
  have hS : va_S A s.heap s.heap [] := va_S.rf
  have hl := lv_entry ([.ref (ad 809)]) (n := 3) (Nat.le_of_ble_eq_true rfl)
  rw [lg_entry_eq]
  generalize (lg_sl ([.ref (ad 809)]) ++ List.replicate (3 - (lg_sl ([.ref (ad 809)])).length) Slot.unset).toArray = ls at hl ⊢
  have hl : lv_has ls 3 [(0, .ref (ad 809))] := hl
  obtain ⟨H, hH⟩ : ∃ H, H = s.heap := ⟨_, rfl⟩
  have hP : va_P D vwCl (WC ca h ad pa σ) H := by rw [hH]; exact hP
  have hS : va_S A s.heap H [] := by rw [hH]; exact hS
  obtain ⟨QQ, hQ⟩ : ∃ Q9, Q9 = MQ below (va_Qi (fun (r : Int32) (_ : Unit) => r = R) (fun (_ : Unit) (t : State) => pw_post D ca (WC ca h ad pa σ) s.heap.size (WC ca h ad pa σ) t) A) ([.ref (ad 809)] : List Value).toArray s 0 0 A := ⟨_, rfl⟩
  rw [← hQ]
  show W _ _ _ _ _ _ _ _ _ _ s.heap _ _ _ _ _
  rw [← hH]
  have hR : (s_X6_isOpen_c2r (iterR (s_X6_isOpen_l2 σ) ((σ 608 0).toNatClampNeg - 0) 0 ())) = R := hR
  refine lv_iconst (v := (0 : Int32)) hx hb dX6_isOpen_0 (by decide) ?_
  refine lv_istore_n (lv' := [(1, .int (0 : Int32)), (0, .ref (ad 809))]) hx hb dX6_isOpen_1 rfl hl (by decide) rfl (fun ls hl => ?_)
  have hE_1 : ∀ (H : Heap) (locs : List Loc) (ls : Array Slot), s_X6_isOpen_c2 () = R → va_P D vwCl (WC ca h ad pa σ) H → va_D A (WC ca h ad pa σ) → va_S A s.heap H locs → lv_has ls 3 [] → W p l e ((headSpec wsX6_isOpen ({ frames := 0, cells := 0, slots := 0, locals := 0 })).room) s m ([.ref (ad 809)] : List Value).toArray below meth c H locs 0 0 QQ (F0 m 59 ls []) := by
    intro  H locs ls hR hP hD hS hl
    have hR : (1 : Int32) = R := hR
    refine lv_iconst (v := (1 : Int32)) hx hb dX6_isOpen_59 (by decide) ?_
    subst hR
    rw [hQ]
    exact W.zret (v := (1 : Int32)) hx hb hr rfl (fun t ht hW => ⟨⟨(1 : Int32), (), rfl, rfl, ⟨by rw [ht]; exact hP, va_K.moved hW.alike hK, by rw [← hAe]; exact hD⟩⟩, hS.F ht⟩) hS.2.2 dX6_isOpen_60
  have hL_1 : ∀ (n k_1 : Nat) (hk_1 : lpk (σ 608 0) k_1 n) (H : Heap) (locs : List Loc) (ls : Array Slot), s_X6_isOpen_c2r (iterR (s_X6_isOpen_l2 σ) n k_1 ()) = R → va_P D vwCl (WC ca h ad pa σ) H → va_D A (WC ca h ad pa σ) → va_S A s.heap H locs → lv_has ls 3 [(1, .int (nI k_1)), (0, .ref (ad 809))] → W p l e ((headSpec wsX6_isOpen ({ frames := 0, cells := 0, slots := 0, locals := 0 })).room) s m ([.ref (ad 809)] : List Value).toArray below meth c H locs 0 0 QQ (F0 m 2 ls []) := by
    intro n
    induction n with
    | zero =>
      intro k_1 hk_1 H locs ls hR hP hD hS hl
      refine lv_iload_n hx hb dX6_isOpen_2 rfl (lv_at hl 0 rfl) ?_
      refine lv_aload_n hx hb dX6_isOpen_3 rfl (lv_at hl 1 rfl) ?_
      refine va_get (D := D) (ci := 6) (v := .int (σ 608 0)) (C := RX6) (T := TX6) (N := 10) hx hb hts hu6 hown hK hP 5 wc_5 rfl 8 (by decide) (hts (.fieldLink RX6 39 "GrazeBook$Turns" "steps" "I") (List.mem_cons_of_mem _ mw_185)) (fun _ h9 => h9) rfl dX6_isOpen_4 ?_
      refine lv_icmp_ge (tgt := 59) hx hb dX6_isOpen_7 (by decide) (fun _ => ?_) (fun c_2 => absurd (ge_end hk_1) c_2)
      exact hE_1  _ _ _ hR hP hD hS (lv_sub hl [] rfl)
    | succ n ih =>
      intro k_1 hk_1 H locs ls hR hP hD hS hl
      obtain ⟨S_1, hB_1⟩ : ∃ s9, s_X6_isOpen_l2 σ k_1 () = s9 := ⟨_, rfl⟩
      have hR : s_X6_isOpen_c2r (iterR1 (s_X6_isOpen_l2 σ) n k_1 S_1) = R := by rw [← hB_1]; exact hR
      have hB_1 : (s_X6_isOpen_c12r (iterR (s_X6_isOpen_l12 σ k_1) ((σ 607 0).toNatClampNeg - 0) 0 ())) = S_1 := hB_1
      refine lv_iload_n hx hb dX6_isOpen_2 rfl (lv_at hl 0 rfl) ?_
      refine lv_aload_n hx hb dX6_isOpen_3 rfl (lv_at hl 1 rfl) ?_
      refine va_get (D := D) (ci := 6) (v := .int (σ 608 0)) (C := RX6) (T := TX6) (N := 10) hx hb hts hu6 hown hK hP 5 wc_5 rfl 8 (by decide) (hts (.fieldLink RX6 39 "GrazeBook$Turns" "steps" "I") (List.mem_cons_of_mem _ mw_185)) (fun _ h9 => h9) rfl dX6_isOpen_4 ?_
      refine lv_icmp_ge (tgt := 59) hx hb dX6_isOpen_7 (by decide) (fun c_3 => absurd c_3 (ge_go hk_1)) (fun _ => ?_)
      refine lv_iconst (v := (0 : Int32)) hx hb dX6_isOpen_10 (by decide) ?_
      refine lv_istore_n (lv' := [(2, .int (0 : Int32)), (1, .int (nI k_1)), (0, .ref (ad 809))]) hx hb dX6_isOpen_11 rfl hl (by decide) rfl (fun ls hl => ?_)
      have hE_4 : ∀ (H : Heap) (locs : List Loc) (ls : Array Slot), s_X6_isOpen_c12 () = S_1 → va_P D vwCl (WC ca h ad pa σ) H → va_D A (WC ca h ad pa σ) → va_S A s.heap H locs → lv_has ls 3 [(1, .int (nI k_1)), (0, .ref (ad 809))] → W p l e ((headSpec wsX6_isOpen ({ frames := 0, cells := 0, slots := 0, locals := 0 })).room) s m ([.ref (ad 809)] : List Value).toArray below meth c H locs 0 0 QQ (F0 m 53 ls []) := by
        intro  H locs ls hB_1 hP hD hS hl
        have hB_1 : (Sum.inr ()) = S_1 := hB_1
        refine lv_iinc (v := (nI (k_1 + 1))) (lv' := [(1, .int (nI (k_1 + 1))), (0, .ref (ad 809))]) hx hb dX6_isOpen_53 hl (k := 0) rfl (by rw [show Int32.ofInt 1 = 1 from by decide]; exact nI_1 _) (by decide) rfl (fun ls hl => ?_)
        refine lv_goto (tgt := 2) hx hb dX6_isOpen_56 (by decide) ?_
        subst hB_1
        exact ih (k_1 + 1)  (ge_next hk_1)  _ _ _ hR hP hD hS (lv_sub hl [0, 1] rfl)
      have hL_4 : ∀ (n k_4 : Nat) (hk_4 : lpk (σ 607 0) k_4 n) (H : Heap) (locs : List Loc) (ls : Array Slot), s_X6_isOpen_c12r (iterR (s_X6_isOpen_l12 σ k_1) n k_4 ()) = S_1 → va_P D vwCl (WC ca h ad pa σ) H → va_D A (WC ca h ad pa σ) → va_S A s.heap H locs → lv_has ls 3 [(2, .int (nI k_4)), (1, .int (nI k_1)), (0, .ref (ad 809))] → W p l e ((headSpec wsX6_isOpen ({ frames := 0, cells := 0, slots := 0, locals := 0 })).room) s m ([.ref (ad 809)] : List Value).toArray below meth c H locs 0 0 QQ (F0 m 12 ls []) := by
        intro n
        induction n with
        | zero =>
          intro k_4 hk_4 H locs ls hB_1 hP hD hS hl
          refine lv_iload_n hx hb dX6_isOpen_12 rfl (lv_at hl 0 rfl) ?_
          refine lv_aload_n hx hb dX6_isOpen_13 rfl (lv_at hl 2 rfl) ?_
          refine va_get (D := D) (ci := 6) (v := .int (σ 607 0)) (C := RX6) (T := TX6) (N := 10) hx hb hts hu6 hown hK hP 5 wc_5 rfl 7 (by decide) (hts (.fieldLink RX6 36 "GrazeBook$Turns" "width" "I") (List.mem_cons_of_mem _ mw_184)) (fun _ h9 => h9) rfl dX6_isOpen_14 ?_
          refine lv_icmp_ge (tgt := 53) hx hb dX6_isOpen_17 (by decide) (fun _ => ?_) (fun c_5 => absurd (ge_end hk_4) c_5)
          exact hE_4  _ _ _ hB_1 hP hD hS (lv_sub hl [1, 2] rfl)
        | succ n ih =>
          intro k_4 hk_4 H locs ls hB_1 hP hD hS hl
          obtain ⟨S_4, hB_4⟩ : ∃ s9, s_X6_isOpen_l12 σ k_1 k_4 () = s9 := ⟨_, rfl⟩
          have hB_1 : s_X6_isOpen_c12r (iterR1 (s_X6_isOpen_l12 σ k_1) n k_4 S_4) = S_1 := by rw [← hB_4]; exact hB_1
          have hB_4 : (if (((σ 601 k_1) >>> ((σ 602 ((((nI k_1) * (σ 607 0)) + (nI k_4)).toNatClampNeg)) &&& 31)) &&& (1 : Int32)) = (0 : Int32) then (Sum.inl (0 : Int32)) else (Sum.inr ())) = S_4 := hB_4
          refine lv_iload_n hx hb dX6_isOpen_12 rfl (lv_at hl 0 rfl) ?_
          refine lv_aload_n hx hb dX6_isOpen_13 rfl (lv_at hl 2 rfl) ?_
          refine va_get (D := D) (ci := 6) (v := .int (σ 607 0)) (C := RX6) (T := TX6) (N := 10) hx hb hts hu6 hown hK hP 5 wc_5 rfl 7 (by decide) (hts (.fieldLink RX6 36 "GrazeBook$Turns" "width" "I") (List.mem_cons_of_mem _ mw_184)) (fun _ h9 => h9) rfl dX6_isOpen_14 ?_
          refine lv_icmp_ge (tgt := 53) hx hb dX6_isOpen_17 (by decide) (fun c_6 => absurd c_6 (ge_go hk_4)) (fun _ => ?_)
          refine lv_aload_n hx hb dX6_isOpen_20 rfl (lv_at hl 2 rfl) ?_
          refine va_get (D := D) (ci := 6) (v := .ref (ad 601)) (C := RX6) (T := TX6) (N := 10) hx hb hts hu6 hown hK hP 5 wc_5 rfl 1 (by decide) (hts (.fieldLink RX6 16 "GrazeBook$Turns" "open" "[I") (List.mem_cons_of_mem _ mw_175)) (fun _ h9 => h9) rfl dX6_isOpen_21 ?_
          refine lv_iload_n hx hb dX6_isOpen_24 rfl (lv_at hl 1 rfl) ?_
          refine va_iald_k (k := k_1) (v := (σ 601 k_1)) hx hb hK hP 22 0 wc_22 rfl (ix_cl hk_1) rfl (ix_loop (N := 4) hk_1 (w_le (ix_607 hI)).1 (by decide) (by decide)) dX6_isOpen_25 ?_
          refine lv_aload_n hx hb dX6_isOpen_26 rfl (lv_at hl 2 rfl) ?_
          refine va_get (D := D) (ci := 6) (v := .ref (ad 602)) (C := RX6) (T := TX6) (N := 10) hx hb hts hu6 hown hK hP 5 wc_5 rfl 2 (by decide) (hts (.fieldLink RX6 20 "GrazeBook$Turns" "trial" "[I") (List.mem_cons_of_mem _ mw_177)) (fun _ h9 => h9) rfl dX6_isOpen_27 ?_
          refine lv_iload_n hx hb dX6_isOpen_30 rfl (lv_at hl 1 rfl) ?_
          refine lv_aload_n hx hb dX6_isOpen_31 rfl (lv_at hl 2 rfl) ?_
          refine va_get (D := D) (ci := 6) (v := .int (σ 607 0)) (C := RX6) (T := TX6) (N := 10) hx hb hts hu6 hown hK hP 5 wc_5 rfl 7 (by decide) (hts (.fieldLink RX6 36 "GrazeBook$Turns" "width" "I") (List.mem_cons_of_mem _ mw_184)) (fun _ h9 => h9) rfl dX6_isOpen_32 ?_
          refine lv_imul hx hb dX6_isOpen_35 ?_
          refine lv_iload_n hx hb dX6_isOpen_36 rfl (lv_at hl 0 rfl) ?_
          refine lv_iadd hx hb dX6_isOpen_37 ?_
          refine va_iald_k (k := ((((nI k_1) * (σ 607 0)) + (nI k_4)).toNatClampNeg)) (v := (σ 602 ((((nI k_1) * (σ 607 0)) + (nI k_4)).toNatClampNeg))) hx hb hK hP 23 0 wc_23 rfl rfl rfl (pl_place (ix_607 hI) (lo_k hk_1) (lo_k hk_4)) dX6_isOpen_38 ?_
          refine lv_ishr hx hb dX6_isOpen_39 ?_
          refine lv_iconst (v := (1 : Int32)) hx hb dX6_isOpen_40 (by decide) ?_
          refine lv_iand hx hb dX6_isOpen_41 ?_
          refine lv_if_ne (tgt := 47) hx hb dX6_isOpen_42 (by decide) (fun c_7 => ?_) (fun c_7 => ?_)
          · have hB_4 := (if_neg c_7).symm.trans hB_4
            refine lv_iinc (v := (nI (k_4 + 1))) (lv' := [(2, .int (nI (k_4 + 1))), (1, .int (nI k_1)), (0, .ref (ad 809))]) hx hb dX6_isOpen_47 hl (k := 0) rfl (by rw [show Int32.ofInt 1 = 1 from by decide]; exact nI_1 _) (by decide) rfl (fun ls hl => ?_)
            refine lv_goto (tgt := 12) hx hb dX6_isOpen_50 (by decide) ?_
            subst hB_4
            exact ih (k_4 + 1)  (ge_next hk_4)  _ _ _ hB_1 hP hD hS (lv_sub hl [0, 1, 2] rfl)
          · have hB_4 := (if_pos c_7).symm.trans hB_4
            refine lv_iconst (v := (0 : Int32)) hx hb dX6_isOpen_45 (by decide) ?_
            subst hB_4
            subst hB_1
            subst hR
            rw [hQ]
            exact W.zret (v := (0 : Int32)) hx hb hr rfl (fun t ht hW => ⟨⟨(0 : Int32), (), rfl, rfl, ⟨by rw [ht]; exact hP, va_K.moved hW.alike hK, by rw [← hAe]; exact hD⟩⟩, hS.F ht⟩) hS.2.2 dX6_isOpen_46
      exact hL_4 _ 0  ⟨rfl, by decide⟩  _ _ _ hB_1 hP hD hS (lv_sub hl [0, 1, 2] rfl)
  exact hL_1 _ 0  ⟨rfl, by decide⟩  _ _ _ hR hP hD hS (lv_sub hl [0, 1] rfl)

def s_X8_planned (σ : St) (a1 : Int32) (a2 : Int32) : Int32 := (s_X6_pieceOfStep σ a1 a2)
set_option maxHeartbeats 1000000 in
set_option maxRecDepth 100000 in
theorem k_X8_planned (l : Launch) (D : va_G) (ca : Nat → ClassId) (h : Nat) (ad : Nat → Nat) (pa : Nat → Nat → Nat) (tb : Nat) (σ : St) (a1 : Int32) (a2 : Int32) (sz : Nat) (hI : IX σ)  (R : Int32) (hR : s_X8_planned σ a1 a2 = R) : Met l yX8_planned wsX8_planned ({ frames := 1, cells := 0, slots := 0, locals := 22 }) (va_Pc [.ref h, .int a1, .int a2] (cw_pre D ca (WC ca h ad pa σ) sz tb)) (va_Qi (fun (r : Int32) (_ : Unit) => r = R) (fun (_ : Unit) (t : State) => pw_post D ca (WC ca h ad pa σ) sz (WC ca h ad pa σ) t) (va_A (WC ca h ad pa σ) sz)) 0 0 (va_A (WC ca h ad pa σ) sz) := by
  refine Met.ofW (cc := cX8_planned) (maxL := 3) (ret := (some .int)) (by decide) rfl ?_
  intro p e s m args below meth c s₁ B hml hv
  obtain ⟨rfl, ⟨hsz, hP, hK, hD0⟩, hZ⟩ := hv
  have hx := B.exec
  have hb := B.bytes
  have hr := B.returns
  have hts := atoms_spec (ws := wsX8_planned) B.pre
  have hown : s.vm.findClass RX8 = some m.cls := findClass_of_methodNamed B.named
  have hlocks := B.notSynchronized
  have hu8 : ∀ w ∈ u_ws RX8 TX8 19, w ∈ wsX8_planned := fun w h => List.mem_cons_of_mem _ (uw8 w h)
  subst hsz
  have hD := hD0.self (sz := s.heap.size)
  obtain ⟨A, hAe⟩ : ∃ A, A = va_A (WC ca h ad pa σ) s.heap.size := ⟨_, rfl⟩
  rw [← hAe] at hD hZ ⊢
  have hA : ∀ q : Nat, s.heap.size ≤ q → A q := fun q h => by rw [hAe]; exact Or.inr h
  have hS : va_S A s.heap s.heap [] := va_S.rf
  have hl := lv_entry ([.ref h, .int a1, .int a2]) (n := 3) (Nat.le_of_ble_eq_true rfl)
  rw [lg_entry_eq]
  generalize (lg_sl ([.ref h, .int a1, .int a2]) ++ List.replicate (3 - (lg_sl ([.ref h, .int a1, .int a2])).length) Slot.unset).toArray = ls at hl ⊢
  have hl : lv_has ls 3 [(0, .ref h), (1, .int a1), (2, .int a2)] := hl
  obtain ⟨H, hH⟩ : ∃ H, H = s.heap := ⟨_, rfl⟩
  have hP : va_P D vwCl (WC ca h ad pa σ) H := by rw [hH]; exact hP
  have hS : va_S A s.heap H [] := by rw [hH]; exact hS
  obtain ⟨QQ, hQ⟩ : ∃ Q9, Q9 = MQ below (va_Qi (fun (r : Int32) (_ : Unit) => r = R) (fun (_ : Unit) (t : State) => pw_post D ca (WC ca h ad pa σ) s.heap.size (WC ca h ad pa σ) t) A) ([.ref h, .int a1, .int a2] : List Value).toArray s 0 0 A := ⟨_, rfl⟩
  rw [← hQ]
  show W _ _ _ _ _ _ _ _ _ _ s.heap _ _ _ _ _
  rw [← hH]
  have hR : (s_X6_pieceOfStep σ a1 a2) = R := hR
  refine lv_aload_n hx hb dX8_planned_0 rfl (lv_at hl 0 rfl) ?_
  refine va_get (D := D) (ci := 8) (v := .ref (ad 809)) (C := RX8) (T := TX8) (N := 19) hx hb hts hu8 hown hK hP 0 wc_0 rfl 9 (by decide) (hts (.fieldLink RX8 68 "GrazeBook" "turns" "LGrazeBook$Turns;") (List.mem_cons_of_mem _ mw_219)) (fun _ h9 => h9) rfl dX8_planned_1 ?_
  refine lv_iload_n hx hb dX8_planned_4 rfl (lv_at hl 1 rfl) ?_
  refine lv_iload_n hx hb dX8_planned_5 rfl (lv_at hl 2 rfl) ?_
  have hF := pw_free hD hS hA
  refine va_calli (va_runV (As := [.int a1, .int a2]) (rest := []) ⟨hx, hb, hml, hown, hts⟩ (k_X6_pieceOfStep l D ca h ad pa tb σ a1 a2 H.size hI _ rfl) (cwV 2 hts gX8_planned_X6_pieceOfStep rfl rfl rfl (by decide +kernel) ⟨Nat.le_of_ble_eq_true rfl, Nat.le_of_ble_eq_true rfl⟩) ⟨cw_blind, va_recv hK hP (ci := 6) (q0 := 5) rfl wc_5, cw_give hP hK hD hZ hS hF⟩ rfl rfl hl.1 rfl (lv_room (Nat.le_of_ble_eq_true rfl)) dX8_planned_6 ⟨Nat.le_of_ble_eq_true rfl, Nat.le_of_ble_eq_true rfl⟩) hS (fun q _ h => hF q h) hF (fun r_1 u t H1 locs ht hvm hw hB hz1 hk1 hS => ?_)
  rw [hw]
  obtain ⟨hP, hD⟩ := pw_back hF ht hB
  clear hB hk1 hz1 hF
  generalize H1 = H at hP hS ⊢
  subst hR
  rw [hQ]
  exact W.iret (v := (s_X6_pieceOfStep σ a1 a2)) hx hb hr (fun t ht hW => ⟨⟨(s_X6_pieceOfStep σ a1 a2), (), rfl, rfl, ⟨by rw [ht]; exact hP, va_K.moved hW.alike hK, by rw [← hAe]; exact hD⟩⟩, hS.F ht⟩) hS.2.2 dX8_planned_9

def s_X8_openPieces_c4  : Int32 → Int32 := fun x9 => match x9 with
  | v2_1 => v2_1
def s_X8_openPieces_l4 (σ : St) (a1 : Int32) (k_1 : Nat) : Int32 → Int32 := fun x9 => match x9 with
  | v2_1 => (if (s_X4_restsOn σ k_1 a1) = (0 : Int32) then (v2_1 ||| ((1 : Int32) <<< ((nI k_1) &&& 31))) else v2_1)
def s_X8_openPieces (σ : St) (a1 : Int32) : Int32 := (s_X8_openPieces_c4 (iter (s_X8_openPieces_l4 σ a1) ((σ 811 0).toNatClampNeg - 0) 0 (0 : Int32)))
set_option maxHeartbeats 1000000 in
set_option maxRecDepth 100000 in
theorem k_X8_openPieces (l : Launch) (D : va_G) (ca : Nat → ClassId) (h : Nat) (ad : Nat → Nat) (pa : Nat → Nat → Nat) (tb : Nat) (σ : St) (a1 : Int32) (sz : Nat) (hI : IX σ)  (R : Int32) (hR : s_X8_openPieces σ a1 = R) : Met l yX8_openPieces wsX8_openPieces ({ frames := 1, cells := 0, slots := 0, locals := 21 }) (va_Pc [.ref h, .int a1] (cw_pre D ca (WC ca h ad pa σ) sz tb)) (va_Qi (fun (r : Int32) (_ : Unit) => r = R) (fun (_ : Unit) (t : State) => pw_post D ca (WC ca h ad pa σ) sz (WC ca h ad pa σ) t) (va_A (WC ca h ad pa σ) sz)) 0 0 (va_A (WC ca h ad pa σ) sz) := by
  refine Met.ofW (cc := cX8_openPieces) (maxL := 4) (ret := (some .int)) (by decide) rfl ?_
  intro p e s m args below meth c s₁ B hml hv
  obtain ⟨rfl, ⟨hsz, hP, hK, hD0⟩, hZ⟩ := hv
  have hx := B.exec
  have hb := B.bytes
  have hr := B.returns
  have hts := atoms_spec (ws := wsX8_openPieces) B.pre
  have hown : s.vm.findClass RX8 = some m.cls := findClass_of_methodNamed B.named
  have hlocks := B.notSynchronized
  have hu8 : ∀ w ∈ u_ws RX8 TX8 19, w ∈ wsX8_openPieces := fun w h => List.mem_cons_of_mem _ (uw8 w h)
  subst hsz
  have hD := hD0.self (sz := s.heap.size)
  obtain ⟨A, hAe⟩ : ∃ A, A = va_A (WC ca h ad pa σ) s.heap.size := ⟨_, rfl⟩
  rw [← hAe] at hD hZ ⊢
  have hA : ∀ q : Nat, s.heap.size ≤ q → A q := fun q h => by rw [hAe]; exact Or.inr h
  have hS : va_S A s.heap s.heap [] := va_S.rf
  have hl := lv_entry ([.ref h, .int a1]) (n := 4) (Nat.le_of_ble_eq_true rfl)
  rw [lg_entry_eq]
  generalize (lg_sl ([.ref h, .int a1]) ++ List.replicate (4 - (lg_sl ([.ref h, .int a1])).length) Slot.unset).toArray = ls at hl ⊢
  have hl : lv_has ls 4 [(0, .ref h), (1, .int a1)] := hl
  obtain ⟨H, hH⟩ : ∃ H, H = s.heap := ⟨_, rfl⟩
  have hP : va_P D vwCl (WC ca h ad pa σ) H := by rw [hH]; exact hP
  have hS : va_S A s.heap H [] := by rw [hH]; exact hS
  obtain ⟨QQ, hQ⟩ : ∃ Q9, Q9 = MQ below (va_Qi (fun (r : Int32) (_ : Unit) => r = R) (fun (_ : Unit) (t : State) => pw_post D ca (WC ca h ad pa σ) s.heap.size (WC ca h ad pa σ) t) A) ([.ref h, .int a1] : List Value).toArray s 0 0 A := ⟨_, rfl⟩
  rw [← hQ]
  show W _ _ _ _ _ _ _ _ _ _ s.heap _ _ _ _ _
  rw [← hH]
  have hR : (s_X8_openPieces_c4 (iter (s_X8_openPieces_l4 σ a1) ((σ 811 0).toNatClampNeg - 0) 0 (0 : Int32))) = R := hR
  refine lv_iconst (v := (0 : Int32)) hx hb dX8_openPieces_0 (by decide) ?_
  refine lv_istore_n (lv' := [(2, .int (0 : Int32)), (0, .ref h), (1, .int a1)]) hx hb dX8_openPieces_1 rfl hl (by decide) rfl (fun ls hl => ?_)
  refine lv_iconst (v := (0 : Int32)) hx hb dX8_openPieces_2 (by decide) ?_
  refine lv_istore_n (lv' := [(3, .int (0 : Int32)), (2, .int (0 : Int32)), (0, .ref h), (1, .int a1)]) hx hb dX8_openPieces_3 rfl hl (by decide) rfl (fun ls hl => ?_)
  have hE_1 : ∀ (v2_1 : Int32) (H : Heap) (locs : List Loc) (ls : Array Slot), s_X8_openPieces_c4 v2_1 = R → va_P D vwCl (WC ca h ad pa σ) H → va_D A (WC ca h ad pa σ) → va_S A s.heap H locs → lv_has ls 4 [(2, .int v2_1)] → W p l e ((headSpec wsX8_openPieces ({ frames := 1, cells := 0, slots := 0, locals := 21 })).room) s m ([.ref h, .int a1] : List Value).toArray below meth c H locs 0 0 QQ (F0 m 37 ls []) := by
    intro v2_1 H locs ls hR hP hD hS hl
    have hR : v2_1 = R := hR
    refine lv_iload_n hx hb dX8_openPieces_37 rfl (lv_at hl 0 rfl) ?_
    subst hR
    rw [hQ]
    exact W.iret (v := v2_1) hx hb hr (fun t ht hW => ⟨⟨v2_1, (), rfl, rfl, ⟨by rw [ht]; exact hP, va_K.moved hW.alike hK, by rw [← hAe]; exact hD⟩⟩, hS.F ht⟩) hS.2.2 dX8_openPieces_38
  have hL_1 : ∀ (n k_1 : Nat) (v2_1 : Int32) (hk_1 : lpk (σ 811 0) k_1 n) (H : Heap) (locs : List Loc) (ls : Array Slot), s_X8_openPieces_c4 (iter (s_X8_openPieces_l4 σ a1) n k_1 v2_1) = R → va_P D vwCl (WC ca h ad pa σ) H → va_D A (WC ca h ad pa σ) → va_S A s.heap H locs → lv_has ls 4 [(3, .int (nI k_1)), (2, .int v2_1), (0, .ref h), (1, .int a1)] → W p l e ((headSpec wsX8_openPieces ({ frames := 1, cells := 0, slots := 0, locals := 21 })).room) s m ([.ref h, .int a1] : List Value).toArray below meth c H locs 0 0 QQ (F0 m 4 ls []) := by
    intro n
    induction n with
    | zero =>
      intro k_1 v2_1 hk_1 H locs ls hR hP hD hS hl
      refine lv_iload_n hx hb dX8_openPieces_4 rfl (lv_at hl 0 rfl) ?_
      refine lv_aload_n hx hb dX8_openPieces_5 rfl (lv_at hl 2 rfl) ?_
      refine va_get (D := D) (ci := 8) (v := .int (σ 811 0)) (C := RX8) (T := TX8) (N := 19) hx hb hts hu8 hown hK hP 0 wc_0 rfl 11 (by decide) (hts (.fieldLink RX8 75 "GrazeBook" "pieceCount" "I") (List.mem_cons_of_mem _ mw_221)) (fun _ h9 => h9) rfl dX8_openPieces_6 ?_
      refine lv_icmp_ge (tgt := 37) hx hb dX8_openPieces_9 (by decide) (fun _ => ?_) (fun c_2 => absurd (ge_end hk_1) c_2)
      exact hE_1 v2_1 _ _ _ hR hP hD hS (lv_sub hl [1] rfl)
    | succ n ih =>
      intro k_1 v2_1 hk_1 H locs ls hR hP hD hS hl
      obtain ⟨S_1, hB_1⟩ : ∃ s9, s_X8_openPieces_l4 σ a1 k_1 v2_1 = s9 := ⟨_, rfl⟩
      have hR : s_X8_openPieces_c4 (iter (s_X8_openPieces_l4 σ a1) n (k_1 + 1) S_1) = R := by rw [← hB_1]; exact hR
      have hB_1 : (if (s_X4_restsOn σ k_1 a1) = (0 : Int32) then (v2_1 ||| ((1 : Int32) <<< ((nI k_1) &&& 31))) else v2_1) = S_1 := hB_1
      refine lv_iload_n hx hb dX8_openPieces_4 rfl (lv_at hl 0 rfl) ?_
      refine lv_aload_n hx hb dX8_openPieces_5 rfl (lv_at hl 2 rfl) ?_
      refine va_get (D := D) (ci := 8) (v := .int (σ 811 0)) (C := RX8) (T := TX8) (N := 19) hx hb hts hu8 hown hK hP 0 wc_0 rfl 11 (by decide) (hts (.fieldLink RX8 75 "GrazeBook" "pieceCount" "I") (List.mem_cons_of_mem _ mw_221)) (fun _ h9 => h9) rfl dX8_openPieces_6 ?_
      refine lv_icmp_ge (tgt := 37) hx hb dX8_openPieces_9 (by decide) (fun c_3 => absurd c_3 (ge_go hk_1)) (fun _ => ?_)
      refine lv_aload_n hx hb dX8_openPieces_12 rfl (lv_at hl 2 rfl) ?_
      refine va_get (D := D) (ci := 8) (v := .ref (ad 800)) (C := RX8) (T := TX8) (N := 19) hx hb hts hu8 hown hK hP 0 wc_0 rfl 0 (by decide) (hts (.fieldLink RX8 11 "GrazeBook" "pieces" "[LGrazeBook$Ground;") (List.mem_cons_of_mem _ mw_210)) (fun _ h9 => h9) rfl dX8_openPieces_13 ?_
      refine lv_iload_n hx hb dX8_openPieces_16 rfl (lv_at hl 0 rfl) ?_
      refine va_aldq_k (k := k_1) (b := pa 0 k_1) hx hb hK hP 6 2 wc_6 rfl (ix_cl hk_1) (rf_at (k_ltb hk_1)) (ix_loop (N := 6) hk_1 (ix_811 hI) (by decide) (by decide)) dX8_openPieces_17 ?_
      refine lv_iload_n hx hb dX8_openPieces_18 rfl (lv_at hl 3 rfl) ?_
      have hF := pw_free hD hS hA
      refine va_calli (va_runV (As := [.int a1]) (rest := []) ⟨hx, hb, hml, hown, hts⟩ (k_X4_restsOn l D ca h ad pa tb σ k_1 a1 H.size hI (k_ltb hk_1) _ rfl) (cwV 1 hts gX8_openPieces_X4_restsOn rfl rfl rfl (by decide +kernel) ⟨Nat.le_of_ble_eq_true rfl, Nat.le_of_ble_eq_true rfl⟩) ⟨cw_blind, va_recv hK hP (ci := 4) (q0 := (pcG ca h ad pa σ k_1)) rfl (wc_aG (k_ltb hk_1)), cw_give hP hK hD hZ hS hF⟩ rfl rfl hl.1 rfl (lv_room (Nat.le_of_ble_eq_true rfl)) dX8_openPieces_19 ⟨Nat.le_of_ble_eq_true rfl, Nat.le_of_ble_eq_true rfl⟩) hS (fun q _ h => hF q h) hF (fun r_4 u t H1 locs ht hvm hw hB hz1 hk1 hS => ?_)
      rw [hw]
      obtain ⟨hP, hD⟩ := pw_back hF ht hB
      clear hB hk1 hz1 hF
      generalize H1 = H at hP hS ⊢
      refine lv_if_ne (tgt := 31) hx hb dX8_openPieces_22 (by decide) (fun c_5 => ?_) (fun c_5 => ?_)
      · have hB_1 := (if_neg c_5).symm.trans hB_1
        refine lv_iinc (v := (nI (k_1 + 1))) (lv' := [(3, .int (nI (k_1 + 1))), (2, .int v2_1), (0, .ref h), (1, .int a1)]) hx hb dX8_openPieces_31 hl (k := 0) rfl (by rw [show Int32.ofInt 1 = 1 from by decide]; exact nI_1 _) (by decide) rfl (fun ls hl => ?_)
        refine lv_goto (tgt := 4) hx hb dX8_openPieces_34 (by decide) ?_
        subst hB_1
        exact ih (k_1 + 1) v2_1 (ge_next hk_1)  _ _ _ hR hP hD hS (lv_sub hl [0, 1, 2, 3] rfl)
      · have hB_1 := (if_pos c_5).symm.trans hB_1
        refine lv_iload_n hx hb dX8_openPieces_25 rfl (lv_at hl 1 rfl) ?_
        refine lv_iconst (v := (1 : Int32)) hx hb dX8_openPieces_26 (by decide) ?_
        refine lv_iload_n hx hb dX8_openPieces_27 rfl (lv_at hl 0 rfl) ?_
        refine lv_ishl hx hb dX8_openPieces_28 ?_
        refine lv_ior hx hb dX8_openPieces_29 ?_
        refine lv_istore_n (lv' := [(2, .int (v2_1 ||| ((1 : Int32) <<< ((nI k_1) &&& 31)))), (3, .int (nI k_1)), (0, .ref h), (1, .int a1)]) hx hb dX8_openPieces_30 rfl hl (by decide) rfl (fun ls hl => ?_)
        refine lv_iinc (v := (nI (k_1 + 1))) (lv' := [(3, .int (nI (k_1 + 1))), (2, .int (v2_1 ||| ((1 : Int32) <<< ((nI k_1) &&& 31)))), (0, .ref h), (1, .int a1)]) hx hb dX8_openPieces_31 hl (k := 1) rfl (by rw [show Int32.ofInt 1 = 1 from by decide]; exact nI_1 _) (by decide) rfl (fun ls hl => ?_)
        refine lv_goto (tgt := 4) hx hb dX8_openPieces_34 (by decide) ?_
        subst hB_1
        exact ih (k_1 + 1) (v2_1 ||| ((1 : Int32) <<< ((nI k_1) &&& 31))) (ge_next hk_1)  _ _ _ hR hP hD hS (lv_sub hl [0, 1, 2, 3] rfl)
  exact hL_1 _ 0 (0 : Int32) ⟨rfl, by decide⟩  _ _ _ hR hP hD hS (lv_sub hl [0, 1, 2, 3] rfl)

def s_X8_gatherForStep_c10  : St → St := fun x9 => match x9 with
  | τ_4 => τ_4
def s_X8_gatherForStep_j64 (k_4 : Nat) (τ_4 : St) (y0_8 : Int32) : St := (if y0_8 = (0 : Int32) then τ_4 else (s_X3_add τ_4 (nI k_4) (s_X2_parts τ_4 k_4)))
def s_X8_gatherForStep_l10 (a1 : Int32) (a2 : Int32) (a3 : Int32) (k_4 : Nat) : St → St := fun x9 => match x9 with
  | τ_4 => (if (s_X6_isTurning τ_4 (nI k_4)) = (0 : Int32) then (if (τ_4 203 k_4) = a1 then (s_X8_gatherForStep_j64 k_4 τ_4 (1 : Int32)) else (s_X8_gatherForStep_j64 k_4 τ_4 (0 : Int32))) else (s_X8_gatherForStep_j64 k_4 τ_4 (s_X6_visitsIn τ_4 a2 a3 (nI k_4))))
def s_X8_gatherForStep (σ : St) (a1 : Int32) (a2 : Int32) (a3 : Int32) : St := (s_X8_gatherForStep_c10 (iter (s_X8_gatherForStep_l10 a1 a2 a3) (((s_X3_clear σ) 815 0).toNatClampNeg - 0) 0 (s_X3_clear σ)))
theorem fr_s_X8_gatherForStep_c10  (s : St) {f : Nat} (h300 : f ≠ 300) (h301 : f ≠ 301) (h302 : f ≠ 302) (h304 : f ≠ 304) (h305 : f ≠ 305) (h306 : f ≠ 306) : (s_X8_gatherForStep_c10 s) f = s f := by
  unfold s_X8_gatherForStep_c10
  all_goals ((try dsimp only) <;> ((repeat' split) <;> (try simp only [put_fr, ne_eq, not_false_eq_true, h300, h301, h302, h304, h305, h306, fr_s_X3_clear, fr_s_X3_add])))
theorem fr_s_X8_gatherForStep_j64 (k_4 : Nat) (τ_4 : St) (y0_8 : Int32) {f : Nat} (h300 : f ≠ 300) (h301 : f ≠ 301) (h302 : f ≠ 302) (h304 : f ≠ 304) (h305 : f ≠ 305) (h306 : f ≠ 306) : (s_X8_gatherForStep_j64 k_4 τ_4 y0_8) f = τ_4 f := by
  unfold s_X8_gatherForStep_j64
  all_goals ((try dsimp only) <;> ((repeat' split) <;> (try simp only [put_fr, ne_eq, not_false_eq_true, h300, h301, h302, h304, h305, h306, fr_s_X3_clear, fr_s_X3_add, fr_s_X8_gatherForStep_c10])))
theorem fr_s_X8_gatherForStep_l10 (a1 : Int32) (a2 : Int32) (a3 : Int32) (k_4 : Nat) (s : St) {f : Nat} (h300 : f ≠ 300) (h301 : f ≠ 301) (h302 : f ≠ 302) (h304 : f ≠ 304) (h305 : f ≠ 305) (h306 : f ≠ 306) : (s_X8_gatherForStep_l10 a1 a2 a3 k_4 s) f = s f := by
  unfold s_X8_gatherForStep_l10
  all_goals ((try dsimp only) <;> ((repeat' split) <;> (try simp only [put_fr, ne_eq, not_false_eq_true, h300, h301, h302, h304, h305, h306, fr_s_X3_clear, fr_s_X3_add, fr_s_X8_gatherForStep_c10, fr_s_X8_gatherForStep_j64])))
theorem fri_s_X8_gatherForStep_l10 (a1 : Int32) (a2 : Int32) (a3 : Int32) (n k : Nat) (s : St) {f : Nat} (h300 : f ≠ 300) (h301 : f ≠ 301) (h302 : f ≠ 302) (h304 : f ≠ 304) (h305 : f ≠ 305) (h306 : f ≠ 306) : (iter (s_X8_gatherForStep_l10 a1 a2 a3) n k s) f = s f := iter_fr (P := (fun s => s f)) (fun k s => fr_s_X8_gatherForStep_l10 a1 a2 a3 k s h300 h301 h302 h304 h305 h306) n k s
theorem fr_s_X8_gatherForStep (σ : St) (a1 : Int32) (a2 : Int32) (a3 : Int32) {f : Nat} (h300 : f ≠ 300) (h301 : f ≠ 301) (h302 : f ≠ 302) (h304 : f ≠ 304) (h305 : f ≠ 305) (h306 : f ≠ 306) : (s_X8_gatherForStep σ a1 a2 a3 ) f = σ f := by
  unfold s_X8_gatherForStep
  all_goals ((try dsimp only) <;> ((repeat' split) <;> (try simp only [put_fr, ne_eq, not_false_eq_true, h300, h301, h302, h304, h305, h306, fr_s_X3_clear, fr_s_X3_add, fr_s_X8_gatherForStep_c10, fr_s_X8_gatherForStep_j64, fri_s_X8_gatherForStep_l10])))
set_option maxHeartbeats 1000000 in
set_option maxRecDepth 100000 in
theorem k_X8_gatherForStep (l : Launch) (D : va_G) (ca : Nat → ClassId) (h : Nat) (ad : Nat → Nat) (pa : Nat → Nat → Nat) (tb : Nat) (σ : St) (a1 : Int32) (a2 : Int32) (a3 : Int32) (sz : Nat) (hI : IX σ)  (R : St) (hR : s_X8_gatherForStep σ a1 a2 a3 = R) : Met l yX8_gatherForStep wsX8_gatherForStep ({ frames := 1, cells := 0, slots := 0, locals := 24 }) (va_Pc [.ref h, .int a1, .int a2, .int a3] (cw_pre D ca (WC ca h ad pa σ) sz tb)) (va_Qv (fun _ : Unit => True) (fun (_ : Unit) (t : State) => pw_post D ca (WC ca h ad pa σ) sz (WC ca h ad pa R) t ∧ IX R) (va_A (WC ca h ad pa σ) sz)) 0 0 (va_A (WC ca h ad pa σ) sz) := by
  refine Met.ofW (cc := cX8_gatherForStep) (maxL := 6) (ret := none) (by decide) rfl ?_
  intro p e s m args below meth c s₁ B hml hv
  obtain ⟨rfl, ⟨hsz, hP, hK, hD0⟩, hZ⟩ := hv
  have hx := B.exec
  have hb := B.bytes
  have hr := B.returns
  have hts := atoms_spec (ws := wsX8_gatherForStep) B.pre
  have hown : s.vm.findClass RX8 = some m.cls := findClass_of_methodNamed B.named
  have hlocks := B.notSynchronized
  have hu2 : ∀ w ∈ u_ws RX2 TX2 8, w ∈ wsX8_gatherForStep := fun w h => List.mem_cons_of_mem _ (uw2 w h)
  have hu8 : ∀ w ∈ u_ws RX8 TX8 19, w ∈ wsX8_gatherForStep := fun w h => List.mem_cons_of_mem _ (uw8 w h)
  subst hsz
  have hD := hD0.self (sz := s.heap.size)
  obtain ⟨A, hAe⟩ : ∃ A, A = va_A (WC ca h ad pa σ) s.heap.size := ⟨_, rfl⟩
  rw [← hAe] at hD hZ ⊢
  have hA : ∀ q : Nat, s.heap.size ≤ q → A q := fun q h => by rw [hAe]; exact Or.inr h
  have hS : va_S A s.heap s.heap [] := va_S.rf
  have hl := lv_entry ([.ref h, .int a1, .int a2, .int a3]) (n := 6) (Nat.le_of_ble_eq_true rfl)
  rw [lg_entry_eq]
  generalize (lg_sl ([.ref h, .int a1, .int a2, .int a3]) ++ List.replicate (6 - (lg_sl ([.ref h, .int a1, .int a2, .int a3])).length) Slot.unset).toArray = ls at hl ⊢
  have hl : lv_has ls 6 [(0, .ref h), (1, .int a1), (2, .int a2), (3, .int a3)] := hl
  obtain ⟨H, hH⟩ : ∃ H, H = s.heap := ⟨_, rfl⟩
  have hP : va_P D vwCl (WC ca h ad pa σ) H := by rw [hH]; exact hP
  have hS : va_S A s.heap H [] := by rw [hH]; exact hS
  obtain ⟨QQ, hQ⟩ : ∃ Q9, Q9 = MQ below (va_Qv (fun _ : Unit => True) (fun (_ : Unit) (t : State) => pw_post D ca (WC ca h ad pa σ) s.heap.size (WC ca h ad pa R) t ∧ IX R) A) ([.ref h, .int a1, .int a2, .int a3] : List Value).toArray s 0 0 A := ⟨_, rfl⟩
  rw [← hQ]
  show W _ _ _ _ _ _ _ _ _ _ s.heap _ _ _ _ _
  rw [← hH]
  have hR : (s_X8_gatherForStep_c10 (iter (s_X8_gatherForStep_l10 a1 a2 a3) (((s_X3_clear σ) 815 0).toNatClampNeg - 0) 0 (s_X3_clear σ))) = R := hR
  refine lv_aload_n hx hb dX8_gatherForStep_0 rfl (lv_at hl 0 rfl) ?_
  refine va_get (D := D) (ci := 8) (v := .ref (ad 808)) (C := RX8) (T := TX8) (N := 19) hx hb hts hu8 hown hK hP 0 wc_0 rfl 8 (by decide) (hts (.fieldLink RX8 61 "GrazeBook" "grazing" "LGrazeBook$Grazing;") (List.mem_cons_of_mem _ mw_218)) (fun _ h9 => h9) rfl dX8_gatherForStep_1 ?_
  have hF := pw_free hD hS hA
  refine va_callv (va_runV (As := []) (rest := []) ⟨hx, hb, hml, hown, hts⟩ (k_X3_clear l D ca h ad pa tb σ H.size hI _ rfl) (cwV 0 hts gX8_gatherForStep_X3_clear rfl rfl rfl (by decide +kernel) ⟨Nat.le_of_ble_eq_true rfl, Nat.le_of_ble_eq_true rfl⟩) ⟨cw_blind, va_recv hK hP (ci := 3) (q0 := 4) rfl wc_4, cw_give hP hK hD hZ hS hF⟩ rfl rfl hl.1 rfl (lv_room (Nat.le_of_ble_eq_true rfl)) dX8_gatherForStep_4 ⟨Nat.le_of_ble_eq_true rfl, Nat.le_of_ble_eq_true rfl⟩) hS (fun q _ h => hF q h) hF (fun u t H1 locs ht hvm hw hB hz1 hk1 hS => ?_)
  obtain ⟨hB, hI_2⟩ := hB
  obtain ⟨hP, hD⟩ := pw_back hF ht hB
  clear hB hk1 hz1 hF
  generalize H1 = H at hP hS ⊢
  obtain ⟨τc_3, hτc_3⟩ : ∃ t9, (s_X3_clear σ) = t9 := ⟨_, rfl⟩
  rw [hτc_3] at hP hD hI_2
  (try rw [hτc_3] at hR)
  refine lv_iconst (v := (0 : Int32)) hx hb dX8_gatherForStep_7 (by decide) ?_
  refine lv_istore (lv' := [(4, .int (0 : Int32)), (0, .ref h), (1, .int a1), (2, .int a2), (3, .int a3)]) hx hb dX8_gatherForStep_8 hl (by decide) rfl (fun ls hl => ?_)
  have hE_4 : ∀ (τ_4 : St) (hI_4 : IX τ_4) (hf_4 : τ_4 811 = σ 811 ∧ τ_4 812 = σ 812 ∧ τ_4 814 = σ 814 ∧ τ_4 815 = σ 815) (H : Heap) (locs : List Loc) (ls : Array Slot), s_X8_gatherForStep_c10 τ_4 = R → va_P D vwCl (WC ca h ad pa τ_4) H → va_D A (WC ca h ad pa τ_4) → va_S A s.heap H locs → lv_has ls 6 [] → W p l e ((headSpec wsX8_gatherForStep ({ frames := 1, cells := 0, slots := 0, locals := 24 })).room) s m ([.ref h, .int a1, .int a2, .int a3] : List Value).toArray below meth c H locs 0 0 QQ (F0 m 96 ls []) := by
    intro τ_4 hI_4 hf_4 H locs ls hR hP hD hS hl
    have hR : τ_4 = R := hR
    have hI9 : IX τ_4 := hI_4
    subst hR
    rw [hQ]
    exact W.vret hx hb hr (fun t ht hW => ⟨⟨(), rfl, trivial, ⟨by rw [ht]; exact hP, va_K.moved hW.alike hK, by rw [← hAe]; exact hD⟩, hI9⟩, hS.F ht⟩) hS.2.2 dX8_gatherForStep_96
  have hL_4 : ∀ (n k_4 : Nat) (τ_4 : St) (hk_4 : lpk (τ_4 815 0) k_4 n) (hI_4 : IX τ_4) (hf_4 : τ_4 811 = σ 811 ∧ τ_4 812 = σ 812 ∧ τ_4 814 = σ 814 ∧ τ_4 815 = σ 815) (H : Heap) (locs : List Loc) (ls : Array Slot), s_X8_gatherForStep_c10 (iter (s_X8_gatherForStep_l10 a1 a2 a3) n k_4 τ_4) = R → va_P D vwCl (WC ca h ad pa τ_4) H → va_D A (WC ca h ad pa τ_4) → va_S A s.heap H locs → lv_has ls 6 [(4, .int (nI k_4)), (0, .ref h), (1, .int a1), (2, .int a2), (3, .int a3)] → W p l e ((headSpec wsX8_gatherForStep ({ frames := 1, cells := 0, slots := 0, locals := 24 })).room) s m ([.ref h, .int a1, .int a2, .int a3] : List Value).toArray below meth c H locs 0 0 QQ (F0 m 10 ls []) := by
    intro n
    induction n with
    | zero =>
      intro k_4 τ_4 hk_4 hI_4 hf_4 H locs ls hR hP hD hS hl
      refine lv_iload hx hb dX8_gatherForStep_10 (lv_at hl 0 rfl) ?_
      refine lv_aload_n hx hb dX8_gatherForStep_12 rfl (lv_at hl 1 rfl) ?_
      refine va_get (D := D) (ci := 8) (v := .int (τ_4 815 0)) (C := RX8) (T := TX8) (N := 19) hx hb hts hu8 hown hK hP 0 wc_0 rfl 15 (by decide) (hts (.fieldLink RX8 88 "GrazeBook" "herdCount" "I") (List.mem_cons_of_mem _ mw_225)) (fun _ h9 => h9) rfl dX8_gatherForStep_13 ?_
      refine lv_icmp_ge (tgt := 96) hx hb dX8_gatherForStep_16 (by decide) (fun _ => ?_) (fun c_5 => absurd (ge_end hk_4) c_5)
      exact hE_4 τ_4 hI_4 hf_4 _ _ _ hR hP hD hS (lv_sub hl [] rfl)
    | succ n ih =>
      intro k_4 τ_4 hk_4 hI_4 hf_4 H locs ls hR hP hD hS hl
      obtain ⟨S_4, hB_4⟩ : ∃ s9, s_X8_gatherForStep_l10 a1 a2 a3 k_4 τ_4 = s9 := ⟨_, rfl⟩
      have hR : s_X8_gatherForStep_c10 (iter (s_X8_gatherForStep_l10 a1 a2 a3) n (k_4 + 1) S_4) = R := by rw [← hB_4]; exact hR
      have hB_4 : (if (s_X6_isTurning τ_4 (nI k_4)) = (0 : Int32) then (if (τ_4 203 k_4) = a1 then (s_X8_gatherForStep_j64 k_4 τ_4 (1 : Int32)) else (s_X8_gatherForStep_j64 k_4 τ_4 (0 : Int32))) else (s_X8_gatherForStep_j64 k_4 τ_4 (s_X6_visitsIn τ_4 a2 a3 (nI k_4)))) = S_4 := hB_4
      refine lv_iload hx hb dX8_gatherForStep_10 (lv_at hl 0 rfl) ?_
      refine lv_aload_n hx hb dX8_gatherForStep_12 rfl (lv_at hl 1 rfl) ?_
      refine va_get (D := D) (ci := 8) (v := .int (τ_4 815 0)) (C := RX8) (T := TX8) (N := 19) hx hb hts hu8 hown hK hP 0 wc_0 rfl 15 (by decide) (hts (.fieldLink RX8 88 "GrazeBook" "herdCount" "I") (List.mem_cons_of_mem _ mw_225)) (fun _ h9 => h9) rfl dX8_gatherForStep_13 ?_
      refine lv_icmp_ge (tgt := 96) hx hb dX8_gatherForStep_16 (by decide) (fun c_6 => absurd c_6 (ge_go hk_4)) (fun _ => ?_)
      refine lv_aload_n hx hb dX8_gatherForStep_19 rfl (lv_at hl 1 rfl) ?_
      refine va_get (D := D) (ci := 8) (v := .ref (ad 809)) (C := RX8) (T := TX8) (N := 19) hx hb hts hu8 hown hK hP 0 wc_0 rfl 9 (by decide) (hts (.fieldLink RX8 68 "GrazeBook" "turns" "LGrazeBook$Turns;") (List.mem_cons_of_mem _ mw_219)) (fun _ h9 => h9) rfl dX8_gatherForStep_20 ?_
      refine lv_iload hx hb dX8_gatherForStep_23 (lv_at hl 0 rfl) ?_
      have hF := pw_free hD hS hA
      refine va_calli (va_runV (As := [.int (nI k_4)]) (rest := []) ⟨hx, hb, hml, hown, hts⟩ (k_X6_isTurning l D ca h ad pa tb τ_4 (nI k_4) H.size hI_4 _ rfl) (cwV 1 hts gX8_gatherForStep_X6_isTurning rfl rfl rfl (by decide +kernel) ⟨Nat.le_of_ble_eq_true rfl, Nat.le_of_ble_eq_true rfl⟩) ⟨cw_blind, va_recv hK hP (ci := 6) (q0 := 5) rfl wc_5, cw_give hP hK hD hZ hS hF⟩ rfl rfl hl.1 rfl (lv_room (Nat.le_of_ble_eq_true rfl)) dX8_gatherForStep_25 ⟨Nat.le_of_ble_eq_true rfl, Nat.le_of_ble_eq_true rfl⟩) hS (fun q _ h => hF q h) hF (fun r_7 u t H1 locs ht hvm hw hB hz1 hk1 hS => ?_)
      rw [hw]
      obtain ⟨hP, hD⟩ := pw_back hF ht hB
      clear hB hk1 hz1 hF
      generalize H1 = H at hP hS ⊢
      have hJ_8 : ∀ (y0_8 : Int32) (H : Heap) (locs : List Loc) (ls : Array Slot), s_X8_gatherForStep_j64 k_4 τ_4 y0_8 = S_4 → va_P D vwCl (WC ca h ad pa τ_4) H → va_D A (WC ca h ad pa τ_4) → va_S A s.heap H locs → lv_has ls 6 [(4, .int (nI k_4)), (0, .ref h), (1, .int a1), (2, .int a2), (3, .int a3)] → W p l e ((headSpec wsX8_gatherForStep ({ frames := 1, cells := 0, slots := 0, locals := 24 })).room) s m ([.ref h, .int a1, .int a2, .int a3] : List Value).toArray below meth c H locs 0 0 QQ (F0 m 64 ls [.int y0_8]) := by
        intro y0_8 H locs ls hB_4 hP hD hS hl
        have hB_4 : (if y0_8 = (0 : Int32) then τ_4 else (s_X3_add τ_4 (nI k_4) (s_X2_parts τ_4 k_4))) = S_4 := hB_4
        refine lv_istore (lv' := [(5, .int y0_8), (4, .int (nI k_4)), (0, .ref h), (1, .int a1), (2, .int a2), (3, .int a3)]) hx hb dX8_gatherForStep_64 hl (by decide) rfl (fun ls hl => ?_)
        refine lv_iload hx hb dX8_gatherForStep_66 (lv_at hl 0 rfl) ?_
        refine lv_if_eq (tgt := 90) hx hb dX8_gatherForStep_68 (by decide) (fun c_9 => ?_) (fun c_9 => ?_)
        · have hB_4 := (if_pos c_9).symm.trans hB_4
          refine lv_iinc (v := (nI (k_4 + 1))) (lv' := [(4, .int (nI (k_4 + 1))), (5, .int y0_8), (0, .ref h), (1, .int a1), (2, .int a2), (3, .int a3)]) hx hb dX8_gatherForStep_90 hl (k := 1) rfl (by rw [show Int32.ofInt 1 = 1 from by decide]; exact nI_1 _) (by decide) rfl (fun ls hl => ?_)
          refine lv_goto (tgt := 10) hx hb dX8_gatherForStep_93 (by decide) ?_
          subst hB_4
          exact ih (k_4 + 1) τ_4 (ge_next hk_4) hI_4 (⟨hf_4.1, hf_4.2.1, hf_4.2.2.1, hf_4.2.2.2⟩) _ _ _ hR hP hD hS (lv_sub hl [0, 2, 3, 4, 5] rfl)
        · have hB_4 := (if_neg c_9).symm.trans hB_4
          refine lv_aload_n hx hb dX8_gatherForStep_71 rfl (lv_at hl 2 rfl) ?_
          refine va_get (D := D) (ci := 8) (v := .ref (ad 808)) (C := RX8) (T := TX8) (N := 19) hx hb hts hu8 hown hK hP 0 wc_0 rfl 8 (by decide) (hts (.fieldLink RX8 61 "GrazeBook" "grazing" "LGrazeBook$Grazing;") (List.mem_cons_of_mem _ mw_218)) (fun _ h9 => h9) rfl dX8_gatherForStep_72 ?_
          refine lv_iload hx hb dX8_gatherForStep_75 (lv_at hl 1 rfl) ?_
          refine lv_aload_n hx hb dX8_gatherForStep_77 rfl (lv_at hl 2 rfl) ?_
          refine va_get (D := D) (ci := 8) (v := .ref (ad 805)) (C := RX8) (T := TX8) (N := 19) hx hb hts hu8 hown hK hP 0 wc_0 rfl 5 (by decide) (hts (.fieldLink RX8 40 "GrazeBook" "herds" "[LGrazeBook$Drove;") (List.mem_cons_of_mem _ mw_215)) (fun _ h9 => h9) rfl dX8_gatherForStep_78 ?_
          refine lv_iload hx hb dX8_gatherForStep_81 (lv_at hl 1 rfl) ?_
          refine va_aldq_k (k := k_4) (b := pa 3 k_4) hx hb hK hP 9 5 wc_9 rfl (ix_cl hk_4) (rf_at (k_ltb hk_4)) (ix_loop (N := 20) hk_4 (ix_815 hI_4) (by decide) (by decide)) dX8_gatherForStep_83 ?_
          have hF := pw_free hD hS hA
          refine va_calli (va_runV (As := []) (rest := [.int (nI k_4), .ref (ad 808)]) ⟨hx, hb, hml, hown, hts⟩ (k_X2_parts l D ca h ad pa tb τ_4 k_4 H.size hI_4 (k_ltb hk_4) _ rfl) (cwV 0 hts gX8_gatherForStep_X2_parts rfl rfl rfl (by decide +kernel) ⟨Nat.le_of_ble_eq_true rfl, Nat.le_of_ble_eq_true rfl⟩) ⟨cw_blind, va_recv hK hP (ci := 2) (q0 := (pcD ca h ad pa τ_4 k_4)) rfl (wc_aD (k_ltb hk_4)), cw_give hP hK hD hZ hS hF⟩ rfl rfl hl.1 rfl (lv_room (Nat.le_of_ble_eq_true rfl)) dX8_gatherForStep_84 ⟨Nat.le_of_ble_eq_true rfl, Nat.le_of_ble_eq_true rfl⟩) hS (fun q _ h => hF q h) hF (fun r_10 u t H1 locs ht hvm hw hB hz1 hk1 hS => ?_)
          rw [hw]
          obtain ⟨hP, hD⟩ := pw_back hF ht hB
          clear hB hk1 hz1 hF
          generalize H1 = H at hP hS ⊢
          have hF := pw_free hD hS hA
          refine va_callv (va_runV (As := [.int (nI k_4), .int (s_X2_parts τ_4 k_4)]) (rest := []) ⟨hx, hb, hml, hown, hts⟩ (k_X3_add l D ca h ad pa tb τ_4 (nI k_4) (s_X2_parts τ_4 k_4) H.size hI_4 _ rfl) (cwV 2 hts gX8_gatherForStep_X3_add rfl rfl rfl (by decide +kernel) ⟨Nat.le_of_ble_eq_true rfl, Nat.le_of_ble_eq_true rfl⟩) ⟨cw_blind, va_recv hK hP (ci := 3) (q0 := 4) rfl wc_4, cw_give hP hK hD hZ hS hF⟩ rfl rfl hl.1 rfl (lv_room (Nat.le_of_ble_eq_true rfl)) dX8_gatherForStep_87 ⟨Nat.le_of_ble_eq_true rfl, Nat.le_of_ble_eq_true rfl⟩) hS (fun q _ h => hF q h) hF (fun u t H1 locs ht hvm hw hB hz1 hk1 hS => ?_)
          obtain ⟨hB, hI_12⟩ := hB
          obtain ⟨hP, hD⟩ := pw_back hF ht hB
          clear hB hk1 hz1 hF
          generalize H1 = H at hP hS ⊢
          obtain ⟨τc_13, hτc_13⟩ : ∃ t9, (s_X3_add τ_4 (nI k_4) (s_X2_parts τ_4 k_4)) = t9 := ⟨_, rfl⟩
          rw [hτc_13] at hP hD hI_12
          (try rw [hτc_13] at hB_4)
          refine lv_iinc (v := (nI (k_4 + 1))) (lv' := [(4, .int (nI (k_4 + 1))), (5, .int y0_8), (0, .ref h), (1, .int a1), (2, .int a2), (3, .int a3)]) hx hb dX8_gatherForStep_90 hl (k := 1) rfl (by rw [show Int32.ofInt 1 = 1 from by decide]; exact nI_1 _) (by decide) rfl (fun ls hl => ?_)
          refine lv_goto (tgt := 10) hx hb dX8_gatherForStep_93 (by decide) ?_
          subst hB_4
          exact ih (k_4 + 1) τc_13 (lpk_cast (congrFun ((show τc_13 815 = τ_4 815 by rw [← hτc_13]; exact fr_s_X3_add τ_4 (nI k_4) (s_X2_parts τ_4 k_4) (f := 815) (by decide) (by decide) (by decide) (by decide) (by decide)).trans rfl) 0) (ge_next hk_4)) hI_12 (⟨((show τc_13 811 = τ_4 811 by rw [← hτc_13]; exact fr_s_X3_add τ_4 (nI k_4) (s_X2_parts τ_4 k_4) (f := 811) (by decide) (by decide) (by decide) (by decide) (by decide)).trans (hf_4.1)), ((show τc_13 812 = τ_4 812 by rw [← hτc_13]; exact fr_s_X3_add τ_4 (nI k_4) (s_X2_parts τ_4 k_4) (f := 812) (by decide) (by decide) (by decide) (by decide) (by decide)).trans (hf_4.2.1)), ((show τc_13 814 = τ_4 814 by rw [← hτc_13]; exact fr_s_X3_add τ_4 (nI k_4) (s_X2_parts τ_4 k_4) (f := 814) (by decide) (by decide) (by decide) (by decide) (by decide)).trans (hf_4.2.2.1)), ((show τc_13 815 = τ_4 815 by rw [← hτc_13]; exact fr_s_X3_add τ_4 (nI k_4) (s_X2_parts τ_4 k_4) (f := 815) (by decide) (by decide) (by decide) (by decide) (by decide)).trans (hf_4.2.2.2))⟩) _ _ _ hR hP hD hS (lv_sub hl [0, 2, 3, 4, 5] rfl)
      refine lv_if_eq (tgt := 45) hx hb dX8_gatherForStep_28 (by decide) (fun c_14 => ?_) (fun c_14 => ?_)
      · have hB_4 := (if_pos c_14).symm.trans hB_4
        refine lv_aload_n hx hb dX8_gatherForStep_45 rfl (lv_at hl 1 rfl) ?_
        refine va_get (D := D) (ci := 8) (v := .ref (ad 805)) (C := RX8) (T := TX8) (N := 19) hx hb hts hu8 hown hK hP 0 wc_0 rfl 5 (by decide) (hts (.fieldLink RX8 40 "GrazeBook" "herds" "[LGrazeBook$Drove;") (List.mem_cons_of_mem _ mw_215)) (fun _ h9 => h9) rfl dX8_gatherForStep_46 ?_
        refine lv_iload hx hb dX8_gatherForStep_49 (lv_at hl 0 rfl) ?_
        refine va_aldq_k (k := k_4) (b := pa 3 k_4) hx hb hK hP 9 5 wc_9 rfl (ix_cl hk_4) (rf_at (k_ltb hk_4)) (ix_loop (N := 20) hk_4 (ix_815 hI_4) (by decide) (by decide)) dX8_gatherForStep_51 ?_
        refine va_get (D := D) (ci := 2) (v := .int (τ_4 203 k_4)) (C := RX2) (T := TX2) (N := 8) hx hb hts hu2 hown hK hP (pcD ca h ad pa τ_4 k_4) (wc_aD (k_ltb hk_4)) rfl 3 (by decide) (hts (.fieldLink RX8 163 "GrazeBook$Drove" "piece" "I") (List.mem_cons_of_mem _ mw_451)) (fun _ h9 => h9) rfl dX8_gatherForStep_52 ?_
        refine lv_iload_n hx hb dX8_gatherForStep_55 rfl (lv_at hl 2 rfl) ?_
        refine lv_icmp_ne (tgt := 63) hx hb dX8_gatherForStep_56 (by decide) (fun c_15 => ?_) (fun c_15 => ?_)
        · have hB_4 := (if_neg c_15).symm.trans hB_4
          refine lv_iconst (v := (0 : Int32)) hx hb dX8_gatherForStep_63 (by decide) ?_
          exact hJ_8 (0 : Int32) _ _ _ hB_4 hP hD hS (lv_sub hl [0, 1, 2, 3, 4] rfl)
        · have hB_4 := (if_pos c_15).symm.trans hB_4
          refine lv_iconst (v := (1 : Int32)) hx hb dX8_gatherForStep_59 (by decide) ?_
          refine lv_goto (tgt := 64) hx hb dX8_gatherForStep_60 (by decide) ?_
          exact hJ_8 (1 : Int32) _ _ _ hB_4 hP hD hS (lv_sub hl [0, 1, 2, 3, 4] rfl)
      · have hB_4 := (if_neg c_14).symm.trans hB_4
        refine lv_aload_n hx hb dX8_gatherForStep_31 rfl (lv_at hl 1 rfl) ?_
        refine va_get (D := D) (ci := 8) (v := .ref (ad 809)) (C := RX8) (T := TX8) (N := 19) hx hb hts hu8 hown hK hP 0 wc_0 rfl 9 (by decide) (hts (.fieldLink RX8 68 "GrazeBook" "turns" "LGrazeBook$Turns;") (List.mem_cons_of_mem _ mw_219)) (fun _ h9 => h9) rfl dX8_gatherForStep_32 ?_
        refine lv_iload_n hx hb dX8_gatherForStep_35 rfl (lv_at hl 3 rfl) ?_
        refine lv_iload_n hx hb dX8_gatherForStep_36 rfl (lv_at hl 4 rfl) ?_
        refine lv_iload hx hb dX8_gatherForStep_37 (lv_at hl 0 rfl) ?_
        have hF := pw_free hD hS hA
        refine va_calli (va_runV (As := [.int a2, .int a3, .int (nI k_4)]) (rest := []) ⟨hx, hb, hml, hown, hts⟩ (k_X6_visitsIn l D ca h ad pa tb τ_4 a2 a3 (nI k_4) H.size hI_4 _ rfl) (cwV 3 hts gX8_gatherForStep_X6_visitsIn rfl rfl rfl (by decide +kernel) ⟨Nat.le_of_ble_eq_true rfl, Nat.le_of_ble_eq_true rfl⟩) ⟨cw_blind, va_recv hK hP (ci := 6) (q0 := 5) rfl wc_5, cw_give hP hK hD hZ hS hF⟩ rfl rfl hl.1 rfl (lv_room (Nat.le_of_ble_eq_true rfl)) dX8_gatherForStep_39 ⟨Nat.le_of_ble_eq_true rfl, Nat.le_of_ble_eq_true rfl⟩) hS (fun q _ h => hF q h) hF (fun r_16 u t H1 locs ht hvm hw hB hz1 hk1 hS => ?_)
        rw [hw]
        obtain ⟨hP, hD⟩ := pw_back hF ht hB
        clear hB hk1 hz1 hF
        generalize H1 = H at hP hS ⊢
        refine lv_goto (tgt := 64) hx hb dX8_gatherForStep_42 (by decide) ?_
        exact hJ_8 (s_X6_visitsIn τ_4 a2 a3 (nI k_4)) _ _ _ hB_4 hP hD hS (lv_sub hl [0, 1, 2, 3, 4] rfl)
  exact hL_4 _ 0 τc_3 ⟨rfl, by decide⟩ hI_2 (⟨((show τc_3 811 = σ 811 by rw [← hτc_3]; exact fr_s_X3_clear σ (f := 811) (by decide) (by decide) (by decide)).trans rfl), ((show τc_3 812 = σ 812 by rw [← hτc_3]; exact fr_s_X3_clear σ (f := 812) (by decide) (by decide) (by decide)).trans rfl), ((show τc_3 814 = σ 814 by rw [← hτc_3]; exact fr_s_X3_clear σ (f := 814) (by decide) (by decide) (by decide)).trans rfl), ((show τc_3 815 = σ 815 by rw [← hτc_3]; exact fr_s_X3_clear σ (f := 815) (by decide) (by decide) (by decide)).trans rfl)⟩) _ _ _ hR hP hD hS (lv_sub hl [0, 1, 2, 3, 4] rfl)

def s_X8_hungerOfVisits_c25  : (Int32 × Int32 × Int32 × St) → Int32 × St := fun x9 => match x9 with
  | (v6_1, v5_1, v4_1, τ_1) => (v5_1, τ_1)
def s_X8_hungerOfVisits_c48  : (Int32 × Int32 × Int32 × St) → (Int32 × Int32 × Int32 × St) := fun x9 => match x9 with
  | (v6_7, v5_7, v4_7, τ_7) => (v6_7, v5_7, v4_7, τ_7)
def s_X8_hungerOfVisits_l48 (a1 : Int32) (k_7 : Nat) : (Int32 × Int32 × Int32 × St) → (Int32 × Int32 × Int32 × St) := fun x9 => match x9 with
  | (v6_7, v5_7, v4_7, τ_7) => ((v6_7 + (1 : Int32)), (v5_7 + ((s_X3_hungerOf ((s_X3_passDay τ_7 (a1.toNatClampNeg) v4_7 (s_X7_rainOn τ_7 (v6_7 + (1 : Int32))) (s_X7_rateOn τ_7 (v6_7 + (1 : Int32)))).2) (((s_X3_passDay τ_7 (a1.toNatClampNeg) v4_7 (s_X7_rainOn τ_7 (v6_7 + (1 : Int32))) (s_X7_rateOn τ_7 (v6_7 + (1 : Int32)))).2) 605 0)) + (s_X3_hungerOf ((s_X3_passDay τ_7 (a1.toNatClampNeg) v4_7 (s_X7_rainOn τ_7 (v6_7 + (1 : Int32))) (s_X7_rateOn τ_7 (v6_7 + (1 : Int32)))).2) (((s_X3_passDay τ_7 (a1.toNatClampNeg) v4_7 (s_X7_rainOn τ_7 (v6_7 + (1 : Int32))) (s_X7_rateOn τ_7 (v6_7 + (1 : Int32)))).2) 606 0)))), ((s_X3_passDay τ_7 (a1.toNatClampNeg) v4_7 (s_X7_rainOn τ_7 (v6_7 + (1 : Int32))) (s_X7_rateOn τ_7 (v6_7 + (1 : Int32)))).1), ((s_X3_passDay τ_7 (a1.toNatClampNeg) v4_7 (s_X7_rainOn τ_7 (v6_7 + (1 : Int32))) (s_X7_rateOn τ_7 (v6_7 + (1 : Int32)))).2))
def s_X8_hungerOfVisits_l25 (a1 : Int32) (a2 : Int32) (k_1 : Nat) : (Int32 × Int32 × Int32 × St) → (Int32 × Int32 × Int32 × St) := fun x9 => match x9 with
  | (v6_1, v5_1, v4_1, τ_1) => (s_X8_hungerOfVisits_c48 (iter (s_X8_hungerOfVisits_l48 a1) (((s_X8_gatherForStep τ_1 a1 a2 (nI k_1)) 609 0).toNatClampNeg - 0) 0 (v6_1, v5_1, v4_1, (s_X8_gatherForStep τ_1 a1 a2 (nI k_1)))))
def s_X8_hungerOfVisits (σ : St) (a1 : Int32) (a2 : Int32) : Int32 × St := (s_X8_hungerOfVisits_c25 (iter (s_X8_hungerOfVisits_l25 a1 a2) ((σ 608 0).toNatClampNeg - 0) 0 ((σ 816 0), (0 : Int32), (σ 403 (a1.toNatClampNeg)), σ)))
theorem fr_s_X8_hungerOfVisits_c25  (s : (Int32 × Int32 × Int32 × St)) {f : Nat} (h300 : f ≠ 300) (h301 : f ≠ 301) (h302 : f ≠ 302) (h303 : f ≠ 303) (h304 : f ≠ 304) (h305 : f ≠ 305) (h306 : f ≠ 306) : (s_X8_hungerOfVisits_c25 s).2 f = s.2.2.2 f := by
  obtain ⟨v6_1, v5_1, v4_1, τ_1⟩ := s
  unfold s_X8_hungerOfVisits_c25
  all_goals ((try dsimp only) <;> ((repeat' split) <;> (try simp only [put_fr, ne_eq, not_false_eq_true, h300, h301, h302, h303, h304, h305, h306, fr_s_X3_passDay, fr_s_X8_gatherForStep])))
theorem fr_s_X8_hungerOfVisits_c48  (s : (Int32 × Int32 × Int32 × St)) {f : Nat} (h300 : f ≠ 300) (h301 : f ≠ 301) (h302 : f ≠ 302) (h303 : f ≠ 303) (h304 : f ≠ 304) (h305 : f ≠ 305) (h306 : f ≠ 306) : (s_X8_hungerOfVisits_c48 s).2.2.2 f = s.2.2.2 f := by
  obtain ⟨v6_7, v5_7, v4_7, τ_7⟩ := s
  unfold s_X8_hungerOfVisits_c48
  all_goals ((try dsimp only) <;> ((repeat' split) <;> (try simp only [put_fr, ne_eq, not_false_eq_true, h300, h301, h302, h303, h304, h305, h306, fr_s_X3_passDay, fr_s_X8_gatherForStep, fr_s_X8_hungerOfVisits_c25])))
theorem fr_s_X8_hungerOfVisits_l48 (a1 : Int32) (k_7 : Nat) (s : (Int32 × Int32 × Int32 × St)) {f : Nat} (h300 : f ≠ 300) (h301 : f ≠ 301) (h302 : f ≠ 302) (h303 : f ≠ 303) (h304 : f ≠ 304) (h305 : f ≠ 305) (h306 : f ≠ 306) : (s_X8_hungerOfVisits_l48 a1 k_7 s).2.2.2 f = s.2.2.2 f := by
  obtain ⟨v6_7, v5_7, v4_7, τ_7⟩ := s
  unfold s_X8_hungerOfVisits_l48
  all_goals ((try dsimp only) <;> ((repeat' split) <;> (try simp only [put_fr, ne_eq, not_false_eq_true, h300, h301, h302, h303, h304, h305, h306, fr_s_X3_passDay, fr_s_X8_gatherForStep, fr_s_X8_hungerOfVisits_c25, fr_s_X8_hungerOfVisits_c48])))
theorem fri_s_X8_hungerOfVisits_l48 (a1 : Int32) (n k : Nat) (s : (Int32 × Int32 × Int32 × St)) {f : Nat} (h300 : f ≠ 300) (h301 : f ≠ 301) (h302 : f ≠ 302) (h303 : f ≠ 303) (h304 : f ≠ 304) (h305 : f ≠ 305) (h306 : f ≠ 306) : (iter (s_X8_hungerOfVisits_l48 a1) n k s).2.2.2 f = s.2.2.2 f := iter_fr (P := (fun s => s.2.2.2 f)) (fun k s => fr_s_X8_hungerOfVisits_l48 a1 k s h300 h301 h302 h303 h304 h305 h306) n k s
theorem fr_s_X8_hungerOfVisits_l25 (a1 : Int32) (a2 : Int32) (k_1 : Nat) (s : (Int32 × Int32 × Int32 × St)) {f : Nat} (h300 : f ≠ 300) (h301 : f ≠ 301) (h302 : f ≠ 302) (h303 : f ≠ 303) (h304 : f ≠ 304) (h305 : f ≠ 305) (h306 : f ≠ 306) : (s_X8_hungerOfVisits_l25 a1 a2 k_1 s).2.2.2 f = s.2.2.2 f := by
  obtain ⟨v6_1, v5_1, v4_1, τ_1⟩ := s
  unfold s_X8_hungerOfVisits_l25
  all_goals ((try dsimp only) <;> ((repeat' split) <;> (try simp only [put_fr, ne_eq, not_false_eq_true, h300, h301, h302, h303, h304, h305, h306, fr_s_X3_passDay, fr_s_X8_gatherForStep, fr_s_X8_hungerOfVisits_c25, fr_s_X8_hungerOfVisits_c48, fri_s_X8_hungerOfVisits_l48])))
theorem fri_s_X8_hungerOfVisits_l25 (a1 : Int32) (a2 : Int32) (n k : Nat) (s : (Int32 × Int32 × Int32 × St)) {f : Nat} (h300 : f ≠ 300) (h301 : f ≠ 301) (h302 : f ≠ 302) (h303 : f ≠ 303) (h304 : f ≠ 304) (h305 : f ≠ 305) (h306 : f ≠ 306) : (iter (s_X8_hungerOfVisits_l25 a1 a2) n k s).2.2.2 f = s.2.2.2 f := iter_fr (P := (fun s => s.2.2.2 f)) (fun k s => fr_s_X8_hungerOfVisits_l25 a1 a2 k s h300 h301 h302 h303 h304 h305 h306) n k s
theorem fr_s_X8_hungerOfVisits (σ : St) (a1 : Int32) (a2 : Int32) {f : Nat} (h300 : f ≠ 300) (h301 : f ≠ 301) (h302 : f ≠ 302) (h303 : f ≠ 303) (h304 : f ≠ 304) (h305 : f ≠ 305) (h306 : f ≠ 306) : (s_X8_hungerOfVisits σ a1 a2 ).2 f = σ f := by
  unfold s_X8_hungerOfVisits
  all_goals ((try dsimp only) <;> ((repeat' split) <;> (try simp only [put_fr, ne_eq, not_false_eq_true, h300, h301, h302, h303, h304, h305, h306, fr_s_X3_passDay, fr_s_X8_gatherForStep, fr_s_X8_hungerOfVisits_c25, fr_s_X8_hungerOfVisits_c48, fri_s_X8_hungerOfVisits_l48, fri_s_X8_hungerOfVisits_l25])))
set_option maxHeartbeats 1000000 in
set_option maxRecDepth 100000 in
theorem k_X8_hungerOfVisits (l : Launch) (D : va_G) (ca : Nat → ClassId) (h : Nat) (ad : Nat → Nat) (pa : Nat → Nat → Nat) (tb : Nat) (σ : St) (a1 : Int32) (a2 : Int32) (sz : Nat) (hI : IX σ) (ha1 : vp_in a1 6) (hb1 : a1.toNatClampNeg < (σ 811 0).toNatClampNeg) (R1 : Int32) (R2 : St) (hR : s_X8_hungerOfVisits σ a1 a2 = (R1, R2)) : Met l yX8_hungerOfVisits wsX8_hungerOfVisits ({ frames := 3, cells := 0, slots := 0, locals := 72 }) (va_Pc [.ref h, .int a1, .int a2] (cw_pre D ca (WC ca h ad pa σ) sz tb)) (va_Qi (fun (r : Int32) (_ : Unit) => r = R1) (fun (_ : Unit) (t : State) => pw_post D ca (WC ca h ad pa σ) sz (WC ca h ad pa R2) t ∧ IX R2) (va_A (WC ca h ad pa σ) sz)) 0 0 (va_A (WC ca h ad pa σ) sz) := by
  refine Met.ofW (cc := cX8_hungerOfVisits) (maxL := 9) (ret := (some .int)) (by decide) rfl ?_
  intro p e s m args below meth c s₁ B hml hv
  obtain ⟨rfl, ⟨hsz, hP, hK, hD0⟩, hZ⟩ := hv
  have hx := B.exec
  have hb := B.bytes
  have hr := B.returns
  have hts := atoms_spec (ws := wsX8_hungerOfVisits) B.pre
  have hown : s.vm.findClass RX8 = some m.cls := findClass_of_methodNamed B.named
  have hlocks := B.notSynchronized
  have hu4 : ∀ w ∈ u_ws RX4 TX4 6, w ∈ wsX8_hungerOfVisits := fun w h => List.mem_cons_of_mem _ (uw4 w h)
  have hu6 : ∀ w ∈ u_ws RX6 TX6 10, w ∈ wsX8_hungerOfVisits := fun w h => List.mem_cons_of_mem _ (uw6 w h)
  have hu8 : ∀ w ∈ u_ws RX8 TX8 19, w ∈ wsX8_hungerOfVisits := fun w h => List.mem_cons_of_mem _ (uw8 w h)
  subst hsz
  have hD := hD0.self (sz := s.heap.size)
  obtain ⟨A, hAe⟩ : ∃ A, A = va_A (WC ca h ad pa σ) s.heap.size := ⟨_, rfl⟩
  rw [← hAe] at hD hZ ⊢
  have hA : ∀ q : Nat, s.heap.size ≤ q → A q := fun q h => by rw [hAe]; exact Or.inr h
  have hS : va_S A s.heap s.heap [] := va_S.rf
  have hl := lv_entry ([.ref h, .int a1, .int a2]) (n := 9) (Nat.le_of_ble_eq_true rfl)
  rw [lg_entry_eq]
  generalize (lg_sl ([.ref h, .int a1, .int a2]) ++ List.replicate (9 - (lg_sl ([.ref h, .int a1, .int a2])).length) Slot.unset).toArray = ls at hl ⊢
  have hl : lv_has ls 9 [(0, .ref h), (1, .int a1), (2, .int a2)] := hl
  obtain ⟨H, hH⟩ : ∃ H, H = s.heap := ⟨_, rfl⟩
  have hP : va_P D vwCl (WC ca h ad pa σ) H := by rw [hH]; exact hP
  have hS : va_S A s.heap H [] := by rw [hH]; exact hS
  obtain ⟨QQ, hQ⟩ : ∃ Q9, Q9 = MQ below (va_Qi (fun (r : Int32) (_ : Unit) => r = R1) (fun (_ : Unit) (t : State) => pw_post D ca (WC ca h ad pa σ) s.heap.size (WC ca h ad pa R2) t ∧ IX R2) A) ([.ref h, .int a1, .int a2] : List Value).toArray s 0 0 A := ⟨_, rfl⟩
  rw [← hQ]
  show W _ _ _ _ _ _ _ _ _ _ s.heap _ _ _ _ _
  rw [← hH]
  delta s_X8_hungerOfVisits at hR
  refine lv_aload_n hx hb dX8_hungerOfVisits_0 rfl (lv_at hl 0 rfl) ?_
  refine va_get (D := D) (ci := 8) (v := .ref (ad 800)) (C := RX8) (T := TX8) (N := 19) hx hb hts hu8 hown hK hP 0 wc_0 rfl 0 (by decide) (hts (.fieldLink RX8 11 "GrazeBook" "pieces" "[LGrazeBook$Ground;") (List.mem_cons_of_mem _ mw_210)) (fun _ h9 => h9) rfl dX8_hungerOfVisits_1 ?_
  refine lv_iload_n hx hb dX8_hungerOfVisits_4 rfl (lv_at hl 1 rfl) ?_
  refine va_aldq_k (k := (a1.toNatClampNeg)) (b := pa 0 (a1.toNatClampNeg)) hx hb hK hP 6 2 wc_6 rfl rfl (rf_at hb1) ha1 dX8_hungerOfVisits_5 ?_
  refine lv_astore_n (lv' := [(3, .ref (pa 0 (a1.toNatClampNeg))), (0, .ref h), (1, .int a1), (2, .int a2)]) hx hb dX8_hungerOfVisits_6 rfl hl (by decide) rfl (fun ls hl => ?_)
  refine lv_aload_n hx hb dX8_hungerOfVisits_7 rfl (lv_at hl 0 rfl) ?_
  refine va_get (D := D) (ci := 4) (v := .int (σ 403 (a1.toNatClampNeg))) (C := RX4) (T := TX4) (N := 6) hx hb hts hu4 hown hK hP (pcG ca h ad pa σ (a1.toNatClampNeg)) (wc_aG hb1) rfl 3 (by decide) (hts (.fieldLink RX8 210 "GrazeBook$Ground" "grass" "I") (List.mem_cons_of_mem _ mw_290)) (fun _ h9 => h9) rfl dX8_hungerOfVisits_8 ?_
  refine lv_istore (lv' := [(4, .int (σ 403 (a1.toNatClampNeg))), (3, .ref (pa 0 (a1.toNatClampNeg))), (0, .ref h), (1, .int a1), (2, .int a2)]) hx hb dX8_hungerOfVisits_11 hl (by decide) rfl (fun ls hl => ?_)
  refine lv_iconst (v := (0 : Int32)) hx hb dX8_hungerOfVisits_13 (by decide) ?_
  refine lv_istore (lv' := [(5, .int (0 : Int32)), (4, .int (σ 403 (a1.toNatClampNeg))), (3, .ref (pa 0 (a1.toNatClampNeg))), (0, .ref h), (1, .int a1), (2, .int a2)]) hx hb dX8_hungerOfVisits_14 hl (by decide) rfl (fun ls hl => ?_)
  refine lv_aload_n hx hb dX8_hungerOfVisits_16 rfl (lv_at hl 3 rfl) ?_
  refine va_get (D := D) (ci := 8) (v := .int (σ 816 0)) (C := RX8) (T := TX8) (N := 19) hx hb hts hu8 hown hK hP 0 wc_0 rfl 16 (by decide) (hts (.fieldLink RX8 91 "GrazeBook" "day" "I") (List.mem_cons_of_mem _ mw_226)) (fun _ h9 => h9) rfl dX8_hungerOfVisits_17 ?_
  refine lv_istore (lv' := [(6, .int (σ 816 0)), (5, .int (0 : Int32)), (4, .int (σ 403 (a1.toNatClampNeg))), (3, .ref (pa 0 (a1.toNatClampNeg))), (0, .ref h), (1, .int a1), (2, .int a2)]) hx hb dX8_hungerOfVisits_20 hl (by decide) rfl (fun ls hl => ?_)
  refine lv_iconst (v := (0 : Int32)) hx hb dX8_hungerOfVisits_22 (by decide) ?_
  refine lv_istore (lv' := [(7, .int (0 : Int32)), (6, .int (σ 816 0)), (5, .int (0 : Int32)), (4, .int (σ 403 (a1.toNatClampNeg))), (3, .ref (pa 0 (a1.toNatClampNeg))), (0, .ref h), (1, .int a1), (2, .int a2)]) hx hb dX8_hungerOfVisits_23 hl (by decide) rfl (fun ls hl => ?_)
  have hE_1 : ∀ (v6_1 : Int32) (v5_1 : Int32) (v4_1 : Int32) (τ_1 : St) (hI_1 : IX τ_1) (hf_1 : τ_1 811 = σ 811 ∧ τ_1 812 = σ 812 ∧ τ_1 814 = σ 814 ∧ τ_1 815 = σ 815 ∧ τ_1 607 = σ 607 ∧ τ_1 608 = σ 608 ∧ τ_1 609 = σ 609) (H : Heap) (locs : List Loc) (ls : Array Slot), s_X8_hungerOfVisits_c25 (v6_1, v5_1, v4_1, τ_1) = (R1, R2) → va_P D vwCl (WC ca h ad pa τ_1) H → va_D A (WC ca h ad pa τ_1) → va_S A s.heap H locs → lv_has ls 9 [(5, .int v5_1)] → W p l e ((headSpec wsX8_hungerOfVisits ({ frames := 3, cells := 0, slots := 0, locals := 72 })).room) s m ([.ref h, .int a1, .int a2] : List Value).toArray below meth c H locs 0 0 QQ (F0 m 139 ls []) := by
    intro v6_1 v5_1 v4_1 τ_1 hI_1 hf_1 H locs ls hR hP hD hS hl
    have hR : (v5_1, τ_1) = (R1, R2) := hR
    refine lv_iload hx hb dX8_hungerOfVisits_139 (lv_at hl 0 rfl) ?_
    have hI9 : IX τ_1 := hI_1
    obtain ⟨rfl, rfl⟩ := Prod.mk.inj (show (v5_1, τ_1) = (R1, R2) from hR)
    rw [hQ]
    exact W.iret (v := v5_1) hx hb hr (fun t ht hW => ⟨⟨v5_1, (), rfl, rfl, ⟨by rw [ht]; exact hP, va_K.moved hW.alike hK, by rw [← hAe]; exact hD⟩, hI9⟩, hS.F ht⟩) hS.2.2 dX8_hungerOfVisits_141
  have hL_1 : ∀ (n k_1 : Nat) (v6_1 : Int32) (v5_1 : Int32) (v4_1 : Int32) (τ_1 : St) (hk_1 : lpk (τ_1 608 0) k_1 n) (hI_1 : IX τ_1) (hf_1 : τ_1 811 = σ 811 ∧ τ_1 812 = σ 812 ∧ τ_1 814 = σ 814 ∧ τ_1 815 = σ 815 ∧ τ_1 607 = σ 607 ∧ τ_1 608 = σ 608 ∧ τ_1 609 = σ 609) (H : Heap) (locs : List Loc) (ls : Array Slot), s_X8_hungerOfVisits_c25 (iter (s_X8_hungerOfVisits_l25 a1 a2) n k_1 (v6_1, v5_1, v4_1, τ_1)) = (R1, R2) → va_P D vwCl (WC ca h ad pa τ_1) H → va_D A (WC ca h ad pa τ_1) → va_S A s.heap H locs → lv_has ls 9 [(7, .int (nI k_1)), (6, .int v6_1), (5, .int v5_1), (4, .int v4_1), (3, .ref (pa 0 (a1.toNatClampNeg))), (0, .ref h), (1, .int a1), (2, .int a2)] → W p l e ((headSpec wsX8_hungerOfVisits ({ frames := 3, cells := 0, slots := 0, locals := 72 })).room) s m ([.ref h, .int a1, .int a2] : List Value).toArray below meth c H locs 0 0 QQ (F0 m 25 ls []) := by
    intro n
    induction n with
    | zero =>
      intro k_1 v6_1 v5_1 v4_1 τ_1 hk_1 hI_1 hf_1 H locs ls hR hP hD hS hl
      refine lv_iload hx hb dX8_hungerOfVisits_25 (lv_at hl 0 rfl) ?_
      refine lv_aload_n hx hb dX8_hungerOfVisits_27 rfl (lv_at hl 5 rfl) ?_
      refine va_get (D := D) (ci := 8) (v := .ref (ad 809)) (C := RX8) (T := TX8) (N := 19) hx hb hts hu8 hown hK hP 0 wc_0 rfl 9 (by decide) (hts (.fieldLink RX8 68 "GrazeBook" "turns" "LGrazeBook$Turns;") (List.mem_cons_of_mem _ mw_219)) (fun _ h9 => h9) rfl dX8_hungerOfVisits_28 ?_
      refine va_get (D := D) (ci := 6) (v := .int (τ_1 608 0)) (C := RX6) (T := TX6) (N := 10) hx hb hts hu6 hown hK hP 5 wc_5 rfl 8 (by decide) (hts (.fieldLink RX8 362 "GrazeBook$Turns" "steps" "I") (List.mem_cons_of_mem _ mw_186)) (fun _ h9 => h9) rfl dX8_hungerOfVisits_31 ?_
      refine lv_icmp_ge (tgt := 139) hx hb dX8_hungerOfVisits_34 (by decide) (fun _ => ?_) (fun c_2 => absurd (ge_end hk_1) c_2)
      exact hE_1 v6_1 v5_1 v4_1 τ_1 hI_1 hf_1 _ _ _ hR hP hD hS (lv_sub hl [2] rfl)
    | succ n ih =>
      intro k_1 v6_1 v5_1 v4_1 τ_1 hk_1 hI_1 hf_1 H locs ls hR hP hD hS hl
      obtain ⟨S_1, hB_1⟩ : ∃ s9, s_X8_hungerOfVisits_l25 a1 a2 k_1 (v6_1, v5_1, v4_1, τ_1) = s9 := ⟨_, rfl⟩
      have hR : s_X8_hungerOfVisits_c25 (iter (s_X8_hungerOfVisits_l25 a1 a2) n (k_1 + 1) S_1) = (R1, R2) := by rw [← hB_1]; exact hR
      have hB_1 : (s_X8_hungerOfVisits_c48 (iter (s_X8_hungerOfVisits_l48 a1) (((s_X8_gatherForStep τ_1 a1 a2 (nI k_1)) 609 0).toNatClampNeg - 0) 0 (v6_1, v5_1, v4_1, (s_X8_gatherForStep τ_1 a1 a2 (nI k_1))))) = S_1 := hB_1
      refine lv_iload hx hb dX8_hungerOfVisits_25 (lv_at hl 0 rfl) ?_
      refine lv_aload_n hx hb dX8_hungerOfVisits_27 rfl (lv_at hl 5 rfl) ?_
      refine va_get (D := D) (ci := 8) (v := .ref (ad 809)) (C := RX8) (T := TX8) (N := 19) hx hb hts hu8 hown hK hP 0 wc_0 rfl 9 (by decide) (hts (.fieldLink RX8 68 "GrazeBook" "turns" "LGrazeBook$Turns;") (List.mem_cons_of_mem _ mw_219)) (fun _ h9 => h9) rfl dX8_hungerOfVisits_28 ?_
      refine va_get (D := D) (ci := 6) (v := .int (τ_1 608 0)) (C := RX6) (T := TX6) (N := 10) hx hb hts hu6 hown hK hP 5 wc_5 rfl 8 (by decide) (hts (.fieldLink RX8 362 "GrazeBook$Turns" "steps" "I") (List.mem_cons_of_mem _ mw_186)) (fun _ h9 => h9) rfl dX8_hungerOfVisits_31 ?_
      refine lv_icmp_ge (tgt := 139) hx hb dX8_hungerOfVisits_34 (by decide) (fun c_3 => absurd c_3 (ge_go hk_1)) (fun _ => ?_)
      refine lv_aload_n hx hb dX8_hungerOfVisits_37 rfl (lv_at hl 5 rfl) ?_
      refine lv_iload_n hx hb dX8_hungerOfVisits_38 rfl (lv_at hl 6 rfl) ?_
      refine lv_iload_n hx hb dX8_hungerOfVisits_39 rfl (lv_at hl 7 rfl) ?_
      refine lv_iload hx hb dX8_hungerOfVisits_40 (lv_at hl 0 rfl) ?_
      have hF := pw_free hD hS hA
      refine va_callv (va_runV (As := [.int a1, .int a2, .int (nI k_1)]) (rest := []) ⟨hx, hb, hml, hown, hts⟩ (k_X8_gatherForStep l D ca h ad pa tb τ_1 a1 a2 (nI k_1) H.size hI_1 _ rfl) (cwV 3 hts gX8_hungerOfVisits_X8_gatherForStep rfl rfl rfl (by decide +kernel) ⟨Nat.le_of_ble_eq_true rfl, Nat.le_of_ble_eq_true rfl⟩) ⟨cw_blind, va_recv hK hP (ci := 8) (q0 := 0) rfl wc_0, cw_give hP hK hD hZ hS hF⟩ rfl rfl hl.1 rfl (lv_room (Nat.le_of_ble_eq_true rfl)) dX8_hungerOfVisits_42 ⟨Nat.le_of_ble_eq_true rfl, Nat.le_of_ble_eq_true rfl⟩) hS (fun q _ h => hF q h) hF (fun u t H1 locs ht hvm hw hB hz1 hk1 hS => ?_)
      obtain ⟨hB, hI_5⟩ := hB
      obtain ⟨hP, hD⟩ := pw_back hF ht hB
      clear hB hk1 hz1 hF
      generalize H1 = H at hP hS ⊢
      obtain ⟨τc_6, hτc_6⟩ : ∃ t9, (s_X8_gatherForStep τ_1 a1 a2 (nI k_1)) = t9 := ⟨_, rfl⟩
      rw [hτc_6] at hP hD hI_5
      (try rw [hτc_6] at hB_1)
      refine lv_iconst (v := (0 : Int32)) hx hb dX8_hungerOfVisits_45 (by decide) ?_
      refine lv_istore (lv' := [(8, .int (0 : Int32)), (7, .int (nI k_1)), (6, .int v6_1), (5, .int v5_1), (4, .int v4_1), (3, .ref (pa 0 (a1.toNatClampNeg))), (0, .ref h), (1, .int a1), (2, .int a2)]) hx hb dX8_hungerOfVisits_46 hl (by decide) rfl (fun ls hl => ?_)
      have hE_7 : ∀ (v6_7 : Int32) (v5_7 : Int32) (v4_7 : Int32) (τ_7 : St) (hI_7 : IX τ_7) (hf_7 : τ_7 811 = σ 811 ∧ τ_7 812 = σ 812 ∧ τ_7 814 = σ 814 ∧ τ_7 815 = σ 815 ∧ τ_7 607 = σ 607 ∧ τ_7 608 = σ 608 ∧ τ_7 609 = σ 609) (H : Heap) (locs : List Loc) (ls : Array Slot), s_X8_hungerOfVisits_c48 (v6_7, v5_7, v4_7, τ_7) = S_1 → va_P D vwCl (WC ca h ad pa τ_7) H → va_D A (WC ca h ad pa τ_7) → va_S A s.heap H locs → lv_has ls 9 [(7, .int (nI k_1)), (6, .int v6_7), (5, .int v5_7), (4, .int v4_7), (3, .ref (pa 0 (a1.toNatClampNeg))), (0, .ref h), (1, .int a1), (2, .int a2)] → W p l e ((headSpec wsX8_hungerOfVisits ({ frames := 3, cells := 0, slots := 0, locals := 72 })).room) s m ([.ref h, .int a1, .int a2] : List Value).toArray below meth c H locs 0 0 QQ (F0 m 133 ls []) := by
        intro v6_7 v5_7 v4_7 τ_7 hI_7 hf_7 H locs ls hB_1 hP hD hS hl
        have hB_1 : (v6_7, v5_7, v4_7, τ_7) = S_1 := hB_1
        refine lv_iinc (v := (nI (k_1 + 1))) (lv' := [(7, .int (nI (k_1 + 1))), (6, .int v6_7), (5, .int v5_7), (4, .int v4_7), (3, .ref (pa 0 (a1.toNatClampNeg))), (0, .ref h), (1, .int a1), (2, .int a2)]) hx hb dX8_hungerOfVisits_133 hl (k := 0) rfl (by rw [show Int32.ofInt 1 = 1 from by decide]; exact nI_1 _) (by decide) rfl (fun ls hl => ?_)
        refine lv_goto (tgt := 25) hx hb dX8_hungerOfVisits_136 (by decide) ?_
        subst hB_1
        exact ih (k_1 + 1) v6_7 v5_7 v4_7 τ_7 (lpk_cast (congrFun ((hf_7.2.2.2.2.2.1).trans (hf_1.2.2.2.2.2.1).symm) 0) (ge_next hk_1)) hI_7 (⟨hf_7.1, hf_7.2.1, hf_7.2.2.1, hf_7.2.2.2.1, hf_7.2.2.2.2.1, hf_7.2.2.2.2.2.1, hf_7.2.2.2.2.2.2⟩) _ _ _ hR hP hD hS (lv_sub hl [0, 1, 2, 3, 4, 5, 6, 7] rfl)
      have hL_7 : ∀ (n k_7 : Nat) (v6_7 : Int32) (v5_7 : Int32) (v4_7 : Int32) (τ_7 : St) (hk_7 : lpk (τ_7 609 0) k_7 n) (hI_7 : IX τ_7) (hf_7 : τ_7 811 = σ 811 ∧ τ_7 812 = σ 812 ∧ τ_7 814 = σ 814 ∧ τ_7 815 = σ 815 ∧ τ_7 607 = σ 607 ∧ τ_7 608 = σ 608 ∧ τ_7 609 = σ 609) (H : Heap) (locs : List Loc) (ls : Array Slot), s_X8_hungerOfVisits_c48 (iter (s_X8_hungerOfVisits_l48 a1) n k_7 (v6_7, v5_7, v4_7, τ_7)) = S_1 → va_P D vwCl (WC ca h ad pa τ_7) H → va_D A (WC ca h ad pa τ_7) → va_S A s.heap H locs → lv_has ls 9 [(8, .int (nI k_7)), (7, .int (nI k_1)), (6, .int v6_7), (5, .int v5_7), (4, .int v4_7), (3, .ref (pa 0 (a1.toNatClampNeg))), (0, .ref h), (1, .int a1), (2, .int a2)] → W p l e ((headSpec wsX8_hungerOfVisits ({ frames := 3, cells := 0, slots := 0, locals := 72 })).room) s m ([.ref h, .int a1, .int a2] : List Value).toArray below meth c H locs 0 0 QQ (F0 m 48 ls []) := by
        intro n
        induction n with
        | zero =>
          intro k_7 v6_7 v5_7 v4_7 τ_7 hk_7 hI_7 hf_7 H locs ls hB_1 hP hD hS hl
          refine lv_iload hx hb dX8_hungerOfVisits_48 (lv_at hl 0 rfl) ?_
          refine lv_aload_n hx hb dX8_hungerOfVisits_50 rfl (lv_at hl 6 rfl) ?_
          refine va_get (D := D) (ci := 8) (v := .ref (ad 809)) (C := RX8) (T := TX8) (N := 19) hx hb hts hu8 hown hK hP 0 wc_0 rfl 9 (by decide) (hts (.fieldLink RX8 68 "GrazeBook" "turns" "LGrazeBook$Turns;") (List.mem_cons_of_mem _ mw_219)) (fun _ h9 => h9) rfl dX8_hungerOfVisits_51 ?_
          refine va_get (D := D) (ci := 6) (v := .int (τ_7 609 0)) (C := RX6) (T := TX6) (N := 10) hx hb hts hu6 hown hK hP 5 wc_5 rfl 9 (by decide) (hts (.fieldLink RX8 368 "GrazeBook$Turns" "days" "I") (List.mem_cons_of_mem _ mw_188)) (fun _ h9 => h9) rfl dX8_hungerOfVisits_54 ?_
          refine lv_icmp_ge (tgt := 133) hx hb dX8_hungerOfVisits_57 (by decide) (fun _ => ?_) (fun c_8 => absurd (ge_end hk_7) c_8)
          exact hE_7 v6_7 v5_7 v4_7 τ_7 hI_7 hf_7 _ _ _ hB_1 hP hD hS (lv_sub hl [1, 2, 3, 4, 5, 6, 7, 8] rfl)
        | succ n ih =>
          intro k_7 v6_7 v5_7 v4_7 τ_7 hk_7 hI_7 hf_7 H locs ls hB_1 hP hD hS hl
          obtain ⟨S_7, hB_7⟩ : ∃ s9, s_X8_hungerOfVisits_l48 a1 k_7 (v6_7, v5_7, v4_7, τ_7) = s9 := ⟨_, rfl⟩
          have hB_1 : s_X8_hungerOfVisits_c48 (iter (s_X8_hungerOfVisits_l48 a1) n (k_7 + 1) S_7) = S_1 := by rw [← hB_7]; exact hB_1
          have hB_7 : ((v6_7 + (1 : Int32)), (v5_7 + ((s_X3_hungerOf ((s_X3_passDay τ_7 (a1.toNatClampNeg) v4_7 (s_X7_rainOn τ_7 (v6_7 + (1 : Int32))) (s_X7_rateOn τ_7 (v6_7 + (1 : Int32)))).2) (((s_X3_passDay τ_7 (a1.toNatClampNeg) v4_7 (s_X7_rainOn τ_7 (v6_7 + (1 : Int32))) (s_X7_rateOn τ_7 (v6_7 + (1 : Int32)))).2) 605 0)) + (s_X3_hungerOf ((s_X3_passDay τ_7 (a1.toNatClampNeg) v4_7 (s_X7_rainOn τ_7 (v6_7 + (1 : Int32))) (s_X7_rateOn τ_7 (v6_7 + (1 : Int32)))).2) (((s_X3_passDay τ_7 (a1.toNatClampNeg) v4_7 (s_X7_rainOn τ_7 (v6_7 + (1 : Int32))) (s_X7_rateOn τ_7 (v6_7 + (1 : Int32)))).2) 606 0)))), ((s_X3_passDay τ_7 (a1.toNatClampNeg) v4_7 (s_X7_rainOn τ_7 (v6_7 + (1 : Int32))) (s_X7_rateOn τ_7 (v6_7 + (1 : Int32)))).1), ((s_X3_passDay τ_7 (a1.toNatClampNeg) v4_7 (s_X7_rainOn τ_7 (v6_7 + (1 : Int32))) (s_X7_rateOn τ_7 (v6_7 + (1 : Int32)))).2)) = S_7 := hB_7
          refine lv_iload hx hb dX8_hungerOfVisits_48 (lv_at hl 0 rfl) ?_
          refine lv_aload_n hx hb dX8_hungerOfVisits_50 rfl (lv_at hl 6 rfl) ?_
          refine va_get (D := D) (ci := 8) (v := .ref (ad 809)) (C := RX8) (T := TX8) (N := 19) hx hb hts hu8 hown hK hP 0 wc_0 rfl 9 (by decide) (hts (.fieldLink RX8 68 "GrazeBook" "turns" "LGrazeBook$Turns;") (List.mem_cons_of_mem _ mw_219)) (fun _ h9 => h9) rfl dX8_hungerOfVisits_51 ?_
          refine va_get (D := D) (ci := 6) (v := .int (τ_7 609 0)) (C := RX6) (T := TX6) (N := 10) hx hb hts hu6 hown hK hP 5 wc_5 rfl 9 (by decide) (hts (.fieldLink RX8 368 "GrazeBook$Turns" "days" "I") (List.mem_cons_of_mem _ mw_188)) (fun _ h9 => h9) rfl dX8_hungerOfVisits_54 ?_
          refine lv_icmp_ge (tgt := 133) hx hb dX8_hungerOfVisits_57 (by decide) (fun c_9 => absurd c_9 (ge_go hk_7)) (fun _ => ?_)
          refine lv_iinc (v := (v6_7 + (1 : Int32))) (lv' := [(6, .int (v6_7 + (1 : Int32))), (8, .int (nI k_7)), (7, .int (nI k_1)), (5, .int v5_7), (4, .int v4_7), (3, .ref (pa 0 (a1.toNatClampNeg))), (0, .ref h), (1, .int a1), (2, .int a2)]) hx hb dX8_hungerOfVisits_60 hl (k := 2) rfl (by rw [show Int32.ofInt (1) = (1 : Int32) from by decide]) (by decide) rfl (fun ls hl => ?_)
          refine lv_aload_n hx hb dX8_hungerOfVisits_63 rfl (lv_at hl 6 rfl) ?_
          refine va_get (D := D) (ci := 8) (v := .ref (ad 808)) (C := RX8) (T := TX8) (N := 19) hx hb hts hu8 hown hK hP 0 wc_0 rfl 8 (by decide) (hts (.fieldLink RX8 61 "GrazeBook" "grazing" "LGrazeBook$Grazing;") (List.mem_cons_of_mem _ mw_218)) (fun _ h9 => h9) rfl dX8_hungerOfVisits_64 ?_
          refine lv_aload_n hx hb dX8_hungerOfVisits_67 rfl (lv_at hl 5 rfl) ?_
          refine lv_iload hx hb dX8_hungerOfVisits_68 (lv_at hl 4 rfl) ?_
          refine lv_aload_n hx hb dX8_hungerOfVisits_70 rfl (lv_at hl 6 rfl) ?_
          refine va_get (D := D) (ci := 8) (v := .ref (ad 806)) (C := RX8) (T := TX8) (N := 19) hx hb hts hu8 hown hK hP 0 wc_0 rfl 6 (by decide) (hts (.fieldLink RX8 47 "GrazeBook" "year" "LGrazeBook$Year;") (List.mem_cons_of_mem _ mw_216)) (fun _ h9 => h9) rfl dX8_hungerOfVisits_71 ?_
          refine lv_iload hx hb dX8_hungerOfVisits_74 (lv_at hl 0 rfl) ?_
          have hF := pw_free hD hS hA
          refine va_calli (va_runV (As := [.int (v6_7 + (1 : Int32))]) (rest := [.int v4_7, .ref (pa 0 (a1.toNatClampNeg)), .ref (ad 808)]) ⟨hx, hb, hml, hown, hts⟩ (k_X7_rainOn l D ca h ad pa tb τ_7 (v6_7 + (1 : Int32)) H.size hI_7 _ rfl) (cwV 1 hts gX8_hungerOfVisits_X7_rainOn rfl rfl rfl (by decide +kernel) ⟨Nat.le_of_ble_eq_true rfl, Nat.le_of_ble_eq_true rfl⟩) ⟨cw_blind, va_recv hK hP (ci := 7) (q0 := 2) rfl wc_2, cw_give hP hK hD hZ hS hF⟩ rfl rfl hl.1 rfl (lv_room (Nat.le_of_ble_eq_true rfl)) dX8_hungerOfVisits_76 ⟨Nat.le_of_ble_eq_true rfl, Nat.le_of_ble_eq_true rfl⟩) hS (fun q _ h => hF q h) hF (fun r_10 u t H1 locs ht hvm hw hB hz1 hk1 hS => ?_)
          rw [hw]
          obtain ⟨hP, hD⟩ := pw_back hF ht hB
          clear hB hk1 hz1 hF
          generalize H1 = H at hP hS ⊢
          refine lv_aload_n hx hb dX8_hungerOfVisits_79 rfl (lv_at hl 6 rfl) ?_
          refine va_get (D := D) (ci := 8) (v := .ref (ad 806)) (C := RX8) (T := TX8) (N := 19) hx hb hts hu8 hown hK hP 0 wc_0 rfl 6 (by decide) (hts (.fieldLink RX8 47 "GrazeBook" "year" "LGrazeBook$Year;") (List.mem_cons_of_mem _ mw_216)) (fun _ h9 => h9) rfl dX8_hungerOfVisits_80 ?_
          refine lv_iload hx hb dX8_hungerOfVisits_83 (lv_at hl 0 rfl) ?_
          have hF := pw_free hD hS hA
          refine va_calli (va_runV (As := [.int (v6_7 + (1 : Int32))]) (rest := [.int (s_X7_rainOn τ_7 (v6_7 + (1 : Int32))), .int v4_7, .ref (pa 0 (a1.toNatClampNeg)), .ref (ad 808)]) ⟨hx, hb, hml, hown, hts⟩ (k_X7_rateOn l D ca h ad pa tb τ_7 (v6_7 + (1 : Int32)) H.size hI_7 _ rfl) (cwV 1 hts gX8_hungerOfVisits_X7_rateOn rfl rfl rfl (by decide +kernel) ⟨Nat.le_of_ble_eq_true rfl, Nat.le_of_ble_eq_true rfl⟩) ⟨cw_blind, va_recv hK hP (ci := 7) (q0 := 2) rfl wc_2, cw_give hP hK hD hZ hS hF⟩ rfl rfl hl.1 rfl (lv_room (Nat.le_of_ble_eq_true rfl)) dX8_hungerOfVisits_85 ⟨Nat.le_of_ble_eq_true rfl, Nat.le_of_ble_eq_true rfl⟩) hS (fun q _ h => hF q h) hF (fun r_11 u t H1 locs ht hvm hw hB hz1 hk1 hS => ?_)
          rw [hw]
          obtain ⟨hP, hD⟩ := pw_back hF ht hB
          clear hB hk1 hz1 hF
          generalize H1 = H at hP hS ⊢
          have hF := pw_free hD hS hA
          refine va_calli (va_runV (As := [.ref (pa 0 (a1.toNatClampNeg)), .int v4_7, .int (s_X7_rainOn τ_7 (v6_7 + (1 : Int32))), .int (s_X7_rateOn τ_7 (v6_7 + (1 : Int32)))]) (rest := []) ⟨hx, hb, hml, hown, hts⟩ (k_X3_passDay l D ca h ad pa tb τ_7 (a1.toNatClampNeg) v4_7 (s_X7_rainOn τ_7 (v6_7 + (1 : Int32))) (s_X7_rateOn τ_7 (v6_7 + (1 : Int32))) H.size hI_7 (cnt_cast (congrFun hf_7.1 0) hb1) _ _ (Prod.eta _).symm) (cwV 4 hts gX8_hungerOfVisits_X3_passDay rfl rfl rfl (by decide +kernel) ⟨Nat.le_of_ble_eq_true rfl, Nat.le_of_ble_eq_true rfl⟩) ⟨cw_blind, va_recv hK hP (ci := 3) (q0 := 4) rfl wc_4, cw_give hP hK hD hZ hS hF⟩ rfl rfl hl.1 rfl (lv_room (Nat.le_of_ble_eq_true rfl)) dX8_hungerOfVisits_88 ⟨Nat.le_of_ble_eq_true rfl, Nat.le_of_ble_eq_true rfl⟩) hS (fun q _ h => hF q h) hF (fun r_12 u t H1 locs ht hvm hw hB hz1 hk1 hS => ?_)
          rw [hw]
          obtain ⟨hB, hI_13⟩ := hB
          obtain ⟨hP, hD⟩ := pw_back hF ht hB
          clear hB hk1 hz1 hF
          generalize H1 = H at hP hS ⊢
          obtain ⟨τc_14, hτc_14⟩ : ∃ t9, (s_X3_passDay τ_7 (a1.toNatClampNeg) v4_7 (s_X7_rainOn τ_7 (v6_7 + (1 : Int32))) (s_X7_rateOn τ_7 (v6_7 + (1 : Int32)))).2 = t9 := ⟨_, rfl⟩
          rw [hτc_14] at hP hD hI_13
          (try rw [hτc_14] at hB_7)
          obtain ⟨vc_15, hvc_15⟩ : ∃ t9, (s_X3_passDay τ_7 (a1.toNatClampNeg) v4_7 (s_X7_rainOn τ_7 (v6_7 + (1 : Int32))) (s_X7_rateOn τ_7 (v6_7 + (1 : Int32)))).1 = t9 := ⟨_, rfl⟩
          rw [hvc_15]
          (try rw [hvc_15] at hB_7)
          refine lv_istore (lv' := [(4, .int vc_15), (6, .int (v6_7 + (1 : Int32))), (8, .int (nI k_7)), (7, .int (nI k_1)), (5, .int v5_7), (3, .ref (pa 0 (a1.toNatClampNeg))), (0, .ref h), (1, .int a1), (2, .int a2)]) hx hb dX8_hungerOfVisits_91 hl (by decide) rfl (fun ls hl => ?_)
          refine lv_iload hx hb dX8_hungerOfVisits_93 (lv_at hl 4 rfl) ?_
          refine lv_aload_n hx hb dX8_hungerOfVisits_95 rfl (lv_at hl 6 rfl) ?_
          refine va_get (D := D) (ci := 8) (v := .ref (ad 808)) (C := RX8) (T := TX8) (N := 19) hx hb hts hu8 hown hK hP 0 wc_0 rfl 8 (by decide) (hts (.fieldLink RX8 61 "GrazeBook" "grazing" "LGrazeBook$Grazing;") (List.mem_cons_of_mem _ mw_218)) (fun _ h9 => h9) rfl dX8_hungerOfVisits_96 ?_
          refine lv_aload_n hx hb dX8_hungerOfVisits_99 rfl (lv_at hl 6 rfl) ?_
          refine va_get (D := D) (ci := 8) (v := .ref (ad 809)) (C := RX8) (T := TX8) (N := 19) hx hb hts hu8 hown hK hP 0 wc_0 rfl 9 (by decide) (hts (.fieldLink RX8 68 "GrazeBook" "turns" "LGrazeBook$Turns;") (List.mem_cons_of_mem _ mw_219)) (fun _ h9 => h9) rfl dX8_hungerOfVisits_100 ?_
          refine va_get (D := D) (ci := 6) (v := .int (τc_14 605 0)) (C := RX6) (T := TX6) (N := 10) hx hb hts hu6 hown hK hP 5 wc_5 rfl 5 (by decide) (hts (.fieldLink RX8 383 "GrazeBook$Turns" "firstHerd" "I") (List.mem_cons_of_mem _ mw_181)) (fun _ h9 => h9) rfl dX8_hungerOfVisits_103 ?_
          have hF := pw_free hD hS hA
          refine va_calli (va_runV (As := [.int (τc_14 605 0)]) (rest := [.int v5_7]) ⟨hx, hb, hml, hown, hts⟩ (k_X3_hungerOf l D ca h ad pa tb τc_14 (τc_14 605 0) H.size hI_13 _ rfl) (cwV 1 hts gX8_hungerOfVisits_X3_hungerOf rfl rfl rfl (by decide +kernel) ⟨Nat.le_of_ble_eq_true rfl, Nat.le_of_ble_eq_true rfl⟩) ⟨cw_blind, va_recv hK hP (ci := 3) (q0 := 4) rfl wc_4, cw_give hP hK hD hZ hS hF⟩ rfl rfl hl.1 rfl (lv_room (Nat.le_of_ble_eq_true rfl)) dX8_hungerOfVisits_106 ⟨Nat.le_of_ble_eq_true rfl, Nat.le_of_ble_eq_true rfl⟩) hS (fun q _ h => hF q h) hF (fun r_16 u t H1 locs ht hvm hw hB hz1 hk1 hS => ?_)
          rw [hw]
          obtain ⟨hP, hD⟩ := pw_back hF ht hB
          clear hB hk1 hz1 hF
          generalize H1 = H at hP hS ⊢
          refine lv_aload_n hx hb dX8_hungerOfVisits_109 rfl (lv_at hl 6 rfl) ?_
          refine va_get (D := D) (ci := 8) (v := .ref (ad 808)) (C := RX8) (T := TX8) (N := 19) hx hb hts hu8 hown hK hP 0 wc_0 rfl 8 (by decide) (hts (.fieldLink RX8 61 "GrazeBook" "grazing" "LGrazeBook$Grazing;") (List.mem_cons_of_mem _ mw_218)) (fun _ h9 => h9) rfl dX8_hungerOfVisits_110 ?_
          refine lv_aload_n hx hb dX8_hungerOfVisits_113 rfl (lv_at hl 6 rfl) ?_
          refine va_get (D := D) (ci := 8) (v := .ref (ad 809)) (C := RX8) (T := TX8) (N := 19) hx hb hts hu8 hown hK hP 0 wc_0 rfl 9 (by decide) (hts (.fieldLink RX8 68 "GrazeBook" "turns" "LGrazeBook$Turns;") (List.mem_cons_of_mem _ mw_219)) (fun _ h9 => h9) rfl dX8_hungerOfVisits_114 ?_
          refine va_get (D := D) (ci := 6) (v := .int (τc_14 606 0)) (C := RX6) (T := TX6) (N := 10) hx hb hts hu6 hown hK hP 5 wc_5 rfl 6 (by decide) (hts (.fieldLink RX8 386 "GrazeBook$Turns" "secondHerd" "I") (List.mem_cons_of_mem _ mw_183)) (fun _ h9 => h9) rfl dX8_hungerOfVisits_117 ?_
          have hF := pw_free hD hS hA
          refine va_calli (va_runV (As := [.int (τc_14 606 0)]) (rest := [.int (s_X3_hungerOf τc_14 (τc_14 605 0)), .int v5_7]) ⟨hx, hb, hml, hown, hts⟩ (k_X3_hungerOf l D ca h ad pa tb τc_14 (τc_14 606 0) H.size hI_13 _ rfl) (cwV 1 hts gX8_hungerOfVisits_X3_hungerOf rfl rfl rfl (by decide +kernel) ⟨Nat.le_of_ble_eq_true rfl, Nat.le_of_ble_eq_true rfl⟩) ⟨cw_blind, va_recv hK hP (ci := 3) (q0 := 4) rfl wc_4, cw_give hP hK hD hZ hS hF⟩ rfl rfl hl.1 rfl (lv_room (Nat.le_of_ble_eq_true rfl)) dX8_hungerOfVisits_120 ⟨Nat.le_of_ble_eq_true rfl, Nat.le_of_ble_eq_true rfl⟩) hS (fun q _ h => hF q h) hF (fun r_17 u t H1 locs ht hvm hw hB hz1 hk1 hS => ?_)
          rw [hw]
          obtain ⟨hP, hD⟩ := pw_back hF ht hB
          clear hB hk1 hz1 hF
          generalize H1 = H at hP hS ⊢
          refine lv_iadd hx hb dX8_hungerOfVisits_123 ?_
          refine lv_iadd hx hb dX8_hungerOfVisits_124 ?_
          refine lv_istore (lv' := [(5, .int (v5_7 + ((s_X3_hungerOf τc_14 (τc_14 605 0)) + (s_X3_hungerOf τc_14 (τc_14 606 0))))), (4, .int vc_15), (6, .int (v6_7 + (1 : Int32))), (8, .int (nI k_7)), (7, .int (nI k_1)), (3, .ref (pa 0 (a1.toNatClampNeg))), (0, .ref h), (1, .int a1), (2, .int a2)]) hx hb dX8_hungerOfVisits_125 hl (by decide) rfl (fun ls hl => ?_)
          refine lv_iinc (v := (nI (k_7 + 1))) (lv' := [(8, .int (nI (k_7 + 1))), (5, .int (v5_7 + ((s_X3_hungerOf τc_14 (τc_14 605 0)) + (s_X3_hungerOf τc_14 (τc_14 606 0))))), (4, .int vc_15), (6, .int (v6_7 + (1 : Int32))), (7, .int (nI k_1)), (3, .ref (pa 0 (a1.toNatClampNeg))), (0, .ref h), (1, .int a1), (2, .int a2)]) hx hb dX8_hungerOfVisits_127 hl (k := 3) rfl (by rw [show Int32.ofInt 1 = 1 from by decide]; exact nI_1 _) (by decide) rfl (fun ls hl => ?_)
          refine lv_goto (tgt := 48) hx hb dX8_hungerOfVisits_130 (by decide) ?_
          subst hB_7
          exact ih (k_7 + 1) (v6_7 + (1 : Int32)) (v5_7 + ((s_X3_hungerOf τc_14 (τc_14 605 0)) + (s_X3_hungerOf τc_14 (τc_14 606 0)))) vc_15 τc_14 (lpk_cast (congrFun ((show τc_14 609 = τ_7 609 by rw [← hτc_14]; exact fr_s_X3_passDay τ_7 (a1.toNatClampNeg) v4_7 (s_X7_rainOn τ_7 (v6_7 + (1 : Int32))) (s_X7_rateOn τ_7 (v6_7 + (1 : Int32))) (f := 609) (by decide) (by decide) (by decide)).trans rfl) 0) (ge_next hk_7)) hI_13 (⟨((show τc_14 811 = τ_7 811 by rw [← hτc_14]; exact fr_s_X3_passDay τ_7 (a1.toNatClampNeg) v4_7 (s_X7_rainOn τ_7 (v6_7 + (1 : Int32))) (s_X7_rateOn τ_7 (v6_7 + (1 : Int32))) (f := 811) (by decide) (by decide) (by decide)).trans (hf_7.1)), ((show τc_14 812 = τ_7 812 by rw [← hτc_14]; exact fr_s_X3_passDay τ_7 (a1.toNatClampNeg) v4_7 (s_X7_rainOn τ_7 (v6_7 + (1 : Int32))) (s_X7_rateOn τ_7 (v6_7 + (1 : Int32))) (f := 812) (by decide) (by decide) (by decide)).trans (hf_7.2.1)), ((show τc_14 814 = τ_7 814 by rw [← hτc_14]; exact fr_s_X3_passDay τ_7 (a1.toNatClampNeg) v4_7 (s_X7_rainOn τ_7 (v6_7 + (1 : Int32))) (s_X7_rateOn τ_7 (v6_7 + (1 : Int32))) (f := 814) (by decide) (by decide) (by decide)).trans (hf_7.2.2.1)), ((show τc_14 815 = τ_7 815 by rw [← hτc_14]; exact fr_s_X3_passDay τ_7 (a1.toNatClampNeg) v4_7 (s_X7_rainOn τ_7 (v6_7 + (1 : Int32))) (s_X7_rateOn τ_7 (v6_7 + (1 : Int32))) (f := 815) (by decide) (by decide) (by decide)).trans (hf_7.2.2.2.1)), ((show τc_14 607 = τ_7 607 by rw [← hτc_14]; exact fr_s_X3_passDay τ_7 (a1.toNatClampNeg) v4_7 (s_X7_rainOn τ_7 (v6_7 + (1 : Int32))) (s_X7_rateOn τ_7 (v6_7 + (1 : Int32))) (f := 607) (by decide) (by decide) (by decide)).trans (hf_7.2.2.2.2.1)), ((show τc_14 608 = τ_7 608 by rw [← hτc_14]; exact fr_s_X3_passDay τ_7 (a1.toNatClampNeg) v4_7 (s_X7_rainOn τ_7 (v6_7 + (1 : Int32))) (s_X7_rateOn τ_7 (v6_7 + (1 : Int32))) (f := 608) (by decide) (by decide) (by decide)).trans (hf_7.2.2.2.2.2.1)), ((show τc_14 609 = τ_7 609 by rw [← hτc_14]; exact fr_s_X3_passDay τ_7 (a1.toNatClampNeg) v4_7 (s_X7_rainOn τ_7 (v6_7 + (1 : Int32))) (s_X7_rateOn τ_7 (v6_7 + (1 : Int32))) (f := 609) (by decide) (by decide) (by decide)).trans (hf_7.2.2.2.2.2.2))⟩) _ _ _ hB_1 hP hD hS (lv_sub hl [0, 4, 3, 1, 2, 5, 6, 7, 8] rfl)
      exact hL_7 _ 0 v6_1 v5_1 v4_1 τc_6 ⟨rfl, by decide⟩ hI_5 (⟨((show τc_6 811 = τ_1 811 by rw [← hτc_6]; exact fr_s_X8_gatherForStep τ_1 a1 a2 (nI k_1) (f := 811) (by decide) (by decide) (by decide) (by decide) (by decide) (by decide)).trans (hf_1.1)), ((show τc_6 812 = τ_1 812 by rw [← hτc_6]; exact fr_s_X8_gatherForStep τ_1 a1 a2 (nI k_1) (f := 812) (by decide) (by decide) (by decide) (by decide) (by decide) (by decide)).trans (hf_1.2.1)), ((show τc_6 814 = τ_1 814 by rw [← hτc_6]; exact fr_s_X8_gatherForStep τ_1 a1 a2 (nI k_1) (f := 814) (by decide) (by decide) (by decide) (by decide) (by decide) (by decide)).trans (hf_1.2.2.1)), ((show τc_6 815 = τ_1 815 by rw [← hτc_6]; exact fr_s_X8_gatherForStep τ_1 a1 a2 (nI k_1) (f := 815) (by decide) (by decide) (by decide) (by decide) (by decide) (by decide)).trans (hf_1.2.2.2.1)), ((show τc_6 607 = τ_1 607 by rw [← hτc_6]; exact fr_s_X8_gatherForStep τ_1 a1 a2 (nI k_1) (f := 607) (by decide) (by decide) (by decide) (by decide) (by decide) (by decide)).trans (hf_1.2.2.2.2.1)), ((show τc_6 608 = τ_1 608 by rw [← hτc_6]; exact fr_s_X8_gatherForStep τ_1 a1 a2 (nI k_1) (f := 608) (by decide) (by decide) (by decide) (by decide) (by decide) (by decide)).trans (hf_1.2.2.2.2.2.1)), ((show τc_6 609 = τ_1 609 by rw [← hτc_6]; exact fr_s_X8_gatherForStep τ_1 a1 a2 (nI k_1) (f := 609) (by decide) (by decide) (by decide) (by decide) (by decide) (by decide)).trans (hf_1.2.2.2.2.2.2))⟩) _ _ _ hB_1 hP hD hS (lv_sub hl [0, 1, 2, 3, 4, 5, 6, 7, 8] rfl)
  exact hL_1 _ 0 (σ 816 0) (0 : Int32) (σ 403 (a1.toNatClampNeg)) σ ⟨rfl, by decide⟩ hI (⟨rfl, rfl, rfl, rfl, rfl, rfl, rfl⟩) _ _ _ hR hP hD hS (lv_sub hl [0, 1, 2, 3, 4, 5, 6, 7] rfl)

theorem way_cast {σ τ : St} (h7 : τ 607 = σ 607) (h8 : τ 608 = σ 608) : s_X6_waysToVisit τ = s_X6_waysToVisit σ := by
  unfold s_X6_waysToVisit s_X6_slots
  rw [h7, h8]

def s_X8_reckonTurns_c50  : St → St := fun x9 => match x9 with
  | τ_2 => τ_2
def s_X8_reckonTurns_c60  : St → St := fun x9 => match x9 with
  | τ_5 => τ_5
def s_X8_reckonTurns_l60 (k_2 : Nat) (k_5 : Nat) : St → St := fun x9 => match x9 with
  | τ_5 => (if (nI k_5) = (0 : Int32) then (prow τ_5 k_2 k_5 (0 : Int32)) else (prow ((s_X8_hungerOfVisits τ_5 (nI k_2) (nI k_5)).2) k_2 k_5 ((s_X8_hungerOfVisits τ_5 (nI k_2) (nI k_5)).1)))
def s_X8_reckonTurns_l50  (k_2 : Nat) : St → St := fun x9 => match x9 with
  | τ_2 => (s_X8_reckonTurns_c60 (iter (s_X8_reckonTurns_l60 k_2) ((s_X6_waysToVisit τ_2).toNatClampNeg - 0) 0 τ_2))
def s_X8_reckonTurns_c2  : St → St := fun x9 => match x9 with
  | τ_1 => (s_X8_reckonTurns_c50 (iter s_X8_reckonTurns_l50 ((τ_1 811 0).toNatClampNeg - 0) 0 τ_1))
def s_X8_reckonTurns_l2  (k_1 : Nat) : St → St := fun x9 => match x9 with
  | τ_1 => (put τ_1 601 k_1 (s_X8_openPieces τ_1 (((τ_1 816 0) + (1 : Int32)) + ((nI k_1) * (τ_1 609 0)))))
def s_X8_reckonTurns (σ : St) : St := (s_X8_reckonTurns_c2 (iter s_X8_reckonTurns_l2 ((σ 608 0).toNatClampNeg - 0) 0 σ))
theorem fr_s_X8_reckonTurns_c50  (s : St) {f : Nat} (h300 : f ≠ 300) (h301 : f ≠ 301) (h302 : f ≠ 302) (h303 : f ≠ 303) (h304 : f ≠ 304) (h305 : f ≠ 305) (h306 : f ≠ 306) (h601 : f ≠ 601) (h620 : f ≠ 620) (h621 : f ≠ 621) (h622 : f ≠ 622) (h623 : f ≠ 623) (h624 : f ≠ 624) (h625 : f ≠ 625) : (s_X8_reckonTurns_c50 s) f = s f := by
  unfold s_X8_reckonTurns_c50
  all_goals ((try dsimp only) <;> ((repeat' split) <;> (try simp only [put_fr, prow_fr, ne_eq, not_false_eq_true, h300, h301, h302, h303, h304, h305, h306, h601, h620, h621, h622, h623, h624, h625, fr_s_X8_hungerOfVisits])))
theorem fr_s_X8_reckonTurns_c60  (s : St) {f : Nat} (h300 : f ≠ 300) (h301 : f ≠ 301) (h302 : f ≠ 302) (h303 : f ≠ 303) (h304 : f ≠ 304) (h305 : f ≠ 305) (h306 : f ≠ 306) (h601 : f ≠ 601) (h620 : f ≠ 620) (h621 : f ≠ 621) (h622 : f ≠ 622) (h623 : f ≠ 623) (h624 : f ≠ 624) (h625 : f ≠ 625) : (s_X8_reckonTurns_c60 s) f = s f := by
  unfold s_X8_reckonTurns_c60
  all_goals ((try dsimp only) <;> ((repeat' split) <;> (try simp only [put_fr, prow_fr, ne_eq, not_false_eq_true, h300, h301, h302, h303, h304, h305, h306, h601, h620, h621, h622, h623, h624, h625, fr_s_X8_hungerOfVisits, fr_s_X8_reckonTurns_c50])))
theorem fr_s_X8_reckonTurns_l60 (k_2 : Nat) (k_5 : Nat) (s : St) {f : Nat} (h300 : f ≠ 300) (h301 : f ≠ 301) (h302 : f ≠ 302) (h303 : f ≠ 303) (h304 : f ≠ 304) (h305 : f ≠ 305) (h306 : f ≠ 306) (h601 : f ≠ 601) (h620 : f ≠ 620) (h621 : f ≠ 621) (h622 : f ≠ 622) (h623 : f ≠ 623) (h624 : f ≠ 624) (h625 : f ≠ 625) : (s_X8_reckonTurns_l60 k_2 k_5 s) f = s f := by
  unfold s_X8_reckonTurns_l60
  all_goals ((try dsimp only) <;> ((repeat' split) <;> (try simp only [put_fr, prow_fr, ne_eq, not_false_eq_true, h300, h301, h302, h303, h304, h305, h306, h601, h620, h621, h622, h623, h624, h625, fr_s_X8_hungerOfVisits, fr_s_X8_reckonTurns_c50, fr_s_X8_reckonTurns_c60])))
theorem fri_s_X8_reckonTurns_l60 (k_2 : Nat) (n k : Nat) (s : St) {f : Nat} (h300 : f ≠ 300) (h301 : f ≠ 301) (h302 : f ≠ 302) (h303 : f ≠ 303) (h304 : f ≠ 304) (h305 : f ≠ 305) (h306 : f ≠ 306) (h601 : f ≠ 601) (h620 : f ≠ 620) (h621 : f ≠ 621) (h622 : f ≠ 622) (h623 : f ≠ 623) (h624 : f ≠ 624) (h625 : f ≠ 625) : (iter (s_X8_reckonTurns_l60 k_2) n k s) f = s f := iter_fr (P := (fun s => s f)) (fun k s => fr_s_X8_reckonTurns_l60 k_2 k s h300 h301 h302 h303 h304 h305 h306 h601 h620 h621 h622 h623 h624 h625) n k s
theorem fr_s_X8_reckonTurns_l50  (k_2 : Nat) (s : St) {f : Nat} (h300 : f ≠ 300) (h301 : f ≠ 301) (h302 : f ≠ 302) (h303 : f ≠ 303) (h304 : f ≠ 304) (h305 : f ≠ 305) (h306 : f ≠ 306) (h601 : f ≠ 601) (h620 : f ≠ 620) (h621 : f ≠ 621) (h622 : f ≠ 622) (h623 : f ≠ 623) (h624 : f ≠ 624) (h625 : f ≠ 625) : (s_X8_reckonTurns_l50 k_2 s) f = s f := by
  unfold s_X8_reckonTurns_l50
  all_goals ((try dsimp only) <;> ((repeat' split) <;> (try simp only [put_fr, prow_fr, ne_eq, not_false_eq_true, h300, h301, h302, h303, h304, h305, h306, h601, h620, h621, h622, h623, h624, h625, fr_s_X8_hungerOfVisits, fr_s_X8_reckonTurns_c50, fr_s_X8_reckonTurns_c60, fri_s_X8_reckonTurns_l60])))
theorem fri_s_X8_reckonTurns_l50  (n k : Nat) (s : St) {f : Nat} (h300 : f ≠ 300) (h301 : f ≠ 301) (h302 : f ≠ 302) (h303 : f ≠ 303) (h304 : f ≠ 304) (h305 : f ≠ 305) (h306 : f ≠ 306) (h601 : f ≠ 601) (h620 : f ≠ 620) (h621 : f ≠ 621) (h622 : f ≠ 622) (h623 : f ≠ 623) (h624 : f ≠ 624) (h625 : f ≠ 625) : (iter s_X8_reckonTurns_l50 n k s) f = s f := iter_fr (P := (fun s => s f)) (fun k s => fr_s_X8_reckonTurns_l50  k s h300 h301 h302 h303 h304 h305 h306 h601 h620 h621 h622 h623 h624 h625) n k s
theorem fr_s_X8_reckonTurns_c2  (s : St) {f : Nat} (h300 : f ≠ 300) (h301 : f ≠ 301) (h302 : f ≠ 302) (h303 : f ≠ 303) (h304 : f ≠ 304) (h305 : f ≠ 305) (h306 : f ≠ 306) (h601 : f ≠ 601) (h620 : f ≠ 620) (h621 : f ≠ 621) (h622 : f ≠ 622) (h623 : f ≠ 623) (h624 : f ≠ 624) (h625 : f ≠ 625) : (s_X8_reckonTurns_c2 s) f = s f := by
  unfold s_X8_reckonTurns_c2
  all_goals ((try dsimp only) <;> ((repeat' split) <;> (try simp only [put_fr, prow_fr, ne_eq, not_false_eq_true, h300, h301, h302, h303, h304, h305, h306, h601, h620, h621, h622, h623, h624, h625, fr_s_X8_hungerOfVisits, fr_s_X8_reckonTurns_c50, fr_s_X8_reckonTurns_c60, fri_s_X8_reckonTurns_l60, fri_s_X8_reckonTurns_l50])))
theorem fr_s_X8_reckonTurns_l2  (k_1 : Nat) (s : St) {f : Nat} (h300 : f ≠ 300) (h301 : f ≠ 301) (h302 : f ≠ 302) (h303 : f ≠ 303) (h304 : f ≠ 304) (h305 : f ≠ 305) (h306 : f ≠ 306) (h601 : f ≠ 601) (h620 : f ≠ 620) (h621 : f ≠ 621) (h622 : f ≠ 622) (h623 : f ≠ 623) (h624 : f ≠ 624) (h625 : f ≠ 625) : (s_X8_reckonTurns_l2 k_1 s) f = s f := by
  unfold s_X8_reckonTurns_l2
  all_goals ((try dsimp only) <;> ((repeat' split) <;> (try simp only [put_fr, prow_fr, ne_eq, not_false_eq_true, h300, h301, h302, h303, h304, h305, h306, h601, h620, h621, h622, h623, h624, h625, fr_s_X8_hungerOfVisits, fr_s_X8_reckonTurns_c50, fr_s_X8_reckonTurns_c60, fri_s_X8_reckonTurns_l60, fri_s_X8_reckonTurns_l50, fr_s_X8_reckonTurns_c2])))
theorem fri_s_X8_reckonTurns_l2  (n k : Nat) (s : St) {f : Nat} (h300 : f ≠ 300) (h301 : f ≠ 301) (h302 : f ≠ 302) (h303 : f ≠ 303) (h304 : f ≠ 304) (h305 : f ≠ 305) (h306 : f ≠ 306) (h601 : f ≠ 601) (h620 : f ≠ 620) (h621 : f ≠ 621) (h622 : f ≠ 622) (h623 : f ≠ 623) (h624 : f ≠ 624) (h625 : f ≠ 625) : (iter s_X8_reckonTurns_l2 n k s) f = s f := iter_fr (P := (fun s => s f)) (fun k s => fr_s_X8_reckonTurns_l2  k s h300 h301 h302 h303 h304 h305 h306 h601 h620 h621 h622 h623 h624 h625) n k s
theorem fr_s_X8_reckonTurns (σ : St) {f : Nat} (h300 : f ≠ 300) (h301 : f ≠ 301) (h302 : f ≠ 302) (h303 : f ≠ 303) (h304 : f ≠ 304) (h305 : f ≠ 305) (h306 : f ≠ 306) (h601 : f ≠ 601) (h620 : f ≠ 620) (h621 : f ≠ 621) (h622 : f ≠ 622) (h623 : f ≠ 623) (h624 : f ≠ 624) (h625 : f ≠ 625) : (s_X8_reckonTurns σ ) f = σ f := by
  unfold s_X8_reckonTurns
  all_goals ((try dsimp only) <;> ((repeat' split) <;> (try simp only [put_fr, prow_fr, ne_eq, not_false_eq_true, h300, h301, h302, h303, h304, h305, h306, h601, h620, h621, h622, h623, h624, h625, fr_s_X8_hungerOfVisits, fr_s_X8_reckonTurns_c50, fr_s_X8_reckonTurns_c60, fri_s_X8_reckonTurns_l60, fri_s_X8_reckonTurns_l50, fr_s_X8_reckonTurns_c2, fri_s_X8_reckonTurns_l2])))
set_option maxHeartbeats 1000000 in
set_option maxRecDepth 100000 in
theorem k_X8_reckonTurns (l : Launch) (D : va_G) (ca : Nat → ClassId) (h : Nat) (ad : Nat → Nat) (pa : Nat → Nat → Nat) (tb : Nat) (σ : St) (sz : Nat) (hI : IX σ)  (R : St) (hR : s_X8_reckonTurns σ = R) : Met l yX8_reckonTurns wsX8_reckonTurns ({ frames := 4, cells := 0, slots := 0, locals := 100 }) (va_Pc [.ref h] (cw_pre D ca (WC ca h ad pa σ) sz tb)) (va_Qv (fun _ : Unit => True) (fun (_ : Unit) (t : State) => pw_post D ca (WC ca h ad pa σ) sz (WC ca h ad pa R) t ∧ IX R) (va_A (WC ca h ad pa σ) sz)) 0 0 (va_A (WC ca h ad pa σ) sz) := by
  refine Met.ofW (cc := cX8_reckonTurns) (maxL := 3) (ret := none) (by decide) rfl ?_
  intro p e s m args below meth c s₁ B hml hv
  obtain ⟨rfl, ⟨hsz, hP, hK, hD0⟩, hZ⟩ := hv
  have hx := B.exec
  have hb := B.bytes
  have hr := B.returns
  have hts := atoms_spec (ws := wsX8_reckonTurns) B.pre
  have hown : s.vm.findClass RX8 = some m.cls := findClass_of_methodNamed B.named
  have hlocks := B.notSynchronized
  have hu6 : ∀ w ∈ u_ws RX6 TX6 10, w ∈ wsX8_reckonTurns := fun w h => List.mem_cons_of_mem _ (uw6 w h)
  have hu8 : ∀ w ∈ u_ws RX8 TX8 19, w ∈ wsX8_reckonTurns := fun w h => List.mem_cons_of_mem _ (uw8 w h)
  subst hsz
  have hD := hD0.self (sz := s.heap.size)
  obtain ⟨A, hAe⟩ : ∃ A, A = va_A (WC ca h ad pa σ) s.heap.size := ⟨_, rfl⟩
  rw [← hAe] at hD hZ ⊢
  have hA : ∀ q : Nat, s.heap.size ≤ q → A q := fun q h => by rw [hAe]; exact Or.inr h
  have hS : va_S A s.heap s.heap [] := va_S.rf
  have hl := lv_entry ([.ref h]) (n := 3) (Nat.le_of_ble_eq_true rfl)
  rw [lg_entry_eq]
  generalize (lg_sl ([.ref h]) ++ List.replicate (3 - (lg_sl ([.ref h])).length) Slot.unset).toArray = ls at hl ⊢
  have hl : lv_has ls 3 [(0, .ref h)] := hl
  obtain ⟨H, hH⟩ : ∃ H, H = s.heap := ⟨_, rfl⟩
  have hP : va_P D vwCl (WC ca h ad pa σ) H := by rw [hH]; exact hP
  have hS : va_S A s.heap H [] := by rw [hH]; exact hS
  obtain ⟨QQ, hQ⟩ : ∃ Q9, Q9 = MQ below (va_Qv (fun _ : Unit => True) (fun (_ : Unit) (t : State) => pw_post D ca (WC ca h ad pa σ) s.heap.size (WC ca h ad pa R) t ∧ IX R) A) ([.ref h] : List Value).toArray s 0 0 A := ⟨_, rfl⟩
  rw [← hQ]
  show W _ _ _ _ _ _ _ _ _ _ s.heap _ _ _ _ _
  rw [← hH]
  have hR : (s_X8_reckonTurns_c2 (iter s_X8_reckonTurns_l2 ((σ 608 0).toNatClampNeg - 0) 0 σ)) = R := hR
  refine lv_iconst (v := (0 : Int32)) hx hb dX8_reckonTurns_0 (by decide) ?_
  refine lv_istore_n (lv' := [(1, .int (0 : Int32)), (0, .ref h)]) hx hb dX8_reckonTurns_1 rfl hl (by decide) rfl (fun ls hl => ?_)
  have hE_1 : ∀ (τ_1 : St) (hI_1 : IX τ_1) (hf_1 : τ_1 811 = σ 811 ∧ τ_1 812 = σ 812 ∧ τ_1 814 = σ 814 ∧ τ_1 815 = σ 815 ∧ τ_1 607 = σ 607 ∧ τ_1 608 = σ 608 ∧ τ_1 609 = σ 609) (H : Heap) (locs : List Loc) (ls : Array Slot), s_X8_reckonTurns_c2 τ_1 = R → va_P D vwCl (WC ca h ad pa τ_1) H → va_D A (WC ca h ad pa τ_1) → va_S A s.heap H locs → lv_has ls 3 [(0, .ref h)] → W p l e ((headSpec wsX8_reckonTurns ({ frames := 4, cells := 0, slots := 0, locals := 100 })).room) s m ([.ref h] : List Value).toArray below meth c H locs 0 0 QQ (F0 m 48 ls []) := by
    intro τ_1 hI_1 hf_1 H locs ls hR hP hD hS hl
    have hR : (s_X8_reckonTurns_c50 (iter s_X8_reckonTurns_l50 ((τ_1 811 0).toNatClampNeg - 0) 0 τ_1)) = R := hR
    refine lv_iconst (v := (0 : Int32)) hx hb dX8_reckonTurns_48 (by decide) ?_
    refine lv_istore_n (lv' := [(1, .int (0 : Int32)), (0, .ref h)]) hx hb dX8_reckonTurns_49 rfl hl (by decide) rfl (fun ls hl => ?_)
    have hE_2 : ∀ (τ_2 : St) (hI_2 : IX τ_2) (hf_2 : τ_2 811 = σ 811 ∧ τ_2 812 = σ 812 ∧ τ_2 814 = σ 814 ∧ τ_2 815 = σ 815 ∧ τ_2 607 = σ 607 ∧ τ_2 608 = σ 608 ∧ τ_2 609 = σ 609) (H : Heap) (locs : List Loc) (ls : Array Slot), s_X8_reckonTurns_c50 τ_2 = R → va_P D vwCl (WC ca h ad pa τ_2) H → va_D A (WC ca h ad pa τ_2) → va_S A s.heap H locs → lv_has ls 3 [] → W p l e ((headSpec wsX8_reckonTurns ({ frames := 4, cells := 0, slots := 0, locals := 100 })).room) s m ([.ref h] : List Value).toArray below meth c H locs 0 0 QQ (F0 m 108 ls []) := by
      intro τ_2 hI_2 hf_2 H locs ls hR hP hD hS hl
      have hR : τ_2 = R := hR
      have hI9 : IX τ_2 := hI_2
      subst hR
      rw [hQ]
      exact W.vret hx hb hr (fun t ht hW => ⟨⟨(), rfl, trivial, ⟨by rw [ht]; exact hP, va_K.moved hW.alike hK, by rw [← hAe]; exact hD⟩, hI9⟩, hS.F ht⟩) hS.2.2 dX8_reckonTurns_108
    have hL_2 : ∀ (n k_2 : Nat) (τ_2 : St) (hk_2 : lpk (τ_2 811 0) k_2 n) (hI_2 : IX τ_2) (hf_2 : τ_2 811 = σ 811 ∧ τ_2 812 = σ 812 ∧ τ_2 814 = σ 814 ∧ τ_2 815 = σ 815 ∧ τ_2 607 = σ 607 ∧ τ_2 608 = σ 608 ∧ τ_2 609 = σ 609) (H : Heap) (locs : List Loc) (ls : Array Slot), s_X8_reckonTurns_c50 (iter s_X8_reckonTurns_l50 n k_2 τ_2) = R → va_P D vwCl (WC ca h ad pa τ_2) H → va_D A (WC ca h ad pa τ_2) → va_S A s.heap H locs → lv_has ls 3 [(1, .int (nI k_2)), (0, .ref h)] → W p l e ((headSpec wsX8_reckonTurns ({ frames := 4, cells := 0, slots := 0, locals := 100 })).room) s m ([.ref h] : List Value).toArray below meth c H locs 0 0 QQ (F0 m 50 ls []) := by
      intro n
      induction n with
      | zero =>
        intro k_2 τ_2 hk_2 hI_2 hf_2 H locs ls hR hP hD hS hl
        refine lv_iload_n hx hb dX8_reckonTurns_50 rfl (lv_at hl 0 rfl) ?_
        refine lv_aload_n hx hb dX8_reckonTurns_51 rfl (lv_at hl 1 rfl) ?_
        refine va_get (D := D) (ci := 8) (v := .int (τ_2 811 0)) (C := RX8) (T := TX8) (N := 19) hx hb hts hu8 hown hK hP 0 wc_0 rfl 11 (by decide) (hts (.fieldLink RX8 75 "GrazeBook" "pieceCount" "I") (List.mem_cons_of_mem _ mw_221)) (fun _ h9 => h9) rfl dX8_reckonTurns_52 ?_
        refine lv_icmp_ge (tgt := 108) hx hb dX8_reckonTurns_55 (by decide) (fun _ => ?_) (fun c_3 => absurd (ge_end hk_2) c_3)
        exact hE_2 τ_2 hI_2 hf_2 _ _ _ hR hP hD hS (lv_sub hl [] rfl)
      | succ n ih =>
        intro k_2 τ_2 hk_2 hI_2 hf_2 H locs ls hR hP hD hS hl
        obtain ⟨S_2, hB_2⟩ : ∃ s9, s_X8_reckonTurns_l50 k_2 τ_2 = s9 := ⟨_, rfl⟩
        have hR : s_X8_reckonTurns_c50 (iter s_X8_reckonTurns_l50 n (k_2 + 1) S_2) = R := by rw [← hB_2]; exact hR
        have hB_2 : (s_X8_reckonTurns_c60 (iter (s_X8_reckonTurns_l60 k_2) ((s_X6_waysToVisit τ_2).toNatClampNeg - 0) 0 τ_2)) = S_2 := hB_2
        refine lv_iload_n hx hb dX8_reckonTurns_50 rfl (lv_at hl 0 rfl) ?_
        refine lv_aload_n hx hb dX8_reckonTurns_51 rfl (lv_at hl 1 rfl) ?_
        refine va_get (D := D) (ci := 8) (v := .int (τ_2 811 0)) (C := RX8) (T := TX8) (N := 19) hx hb hts hu8 hown hK hP 0 wc_0 rfl 11 (by decide) (hts (.fieldLink RX8 75 "GrazeBook" "pieceCount" "I") (List.mem_cons_of_mem _ mw_221)) (fun _ h9 => h9) rfl dX8_reckonTurns_52 ?_
        refine lv_icmp_ge (tgt := 108) hx hb dX8_reckonTurns_55 (by decide) (fun c_4 => absurd c_4 (ge_go hk_2)) (fun _ => ?_)
        refine lv_iconst (v := (0 : Int32)) hx hb dX8_reckonTurns_58 (by decide) ?_
        refine lv_istore_n (lv' := [(2, .int (0 : Int32)), (1, .int (nI k_2)), (0, .ref h)]) hx hb dX8_reckonTurns_59 rfl hl (by decide) rfl (fun ls hl => ?_)
        have hE_5 : ∀ (τ_5 : St) (hI_5 : IX τ_5) (hf_5 : τ_5 811 = σ 811 ∧ τ_5 812 = σ 812 ∧ τ_5 814 = σ 814 ∧ τ_5 815 = σ 815 ∧ τ_5 607 = σ 607 ∧ τ_5 608 = σ 608 ∧ τ_5 609 = σ 609) (H : Heap) (locs : List Loc) (ls : Array Slot), s_X8_reckonTurns_c60 τ_5 = S_2 → va_P D vwCl (WC ca h ad pa τ_5) H → va_D A (WC ca h ad pa τ_5) → va_S A s.heap H locs → lv_has ls 3 [(1, .int (nI k_2)), (0, .ref h)] → W p l e ((headSpec wsX8_reckonTurns ({ frames := 4, cells := 0, slots := 0, locals := 100 })).room) s m ([.ref h] : List Value).toArray below meth c H locs 0 0 QQ (F0 m 102 ls []) := by
          intro τ_5 hI_5 hf_5 H locs ls hB_2 hP hD hS hl
          have hB_2 : τ_5 = S_2 := hB_2
          refine lv_iinc (v := (nI (k_2 + 1))) (lv' := [(1, .int (nI (k_2 + 1))), (0, .ref h)]) hx hb dX8_reckonTurns_102 hl (k := 0) rfl (by rw [show Int32.ofInt 1 = 1 from by decide]; exact nI_1 _) (by decide) rfl (fun ls hl => ?_)
          refine lv_goto (tgt := 50) hx hb dX8_reckonTurns_105 (by decide) ?_
          subst hB_2
          exact ih (k_2 + 1) τ_5 (lpk_cast (congrFun ((hf_5.1).trans (hf_2.1).symm) 0) (ge_next hk_2)) hI_5 (⟨hf_5.1, hf_5.2.1, hf_5.2.2.1, hf_5.2.2.2.1, hf_5.2.2.2.2.1, hf_5.2.2.2.2.2.1, hf_5.2.2.2.2.2.2⟩) _ _ _ hR hP hD hS (lv_sub hl [0, 1] rfl)
        have hL_5 : ∀ (n k_5 : Nat) (τ_5 : St) (hk_5 : lpk (s_X6_waysToVisit τ_5) k_5 n) (hI_5 : IX τ_5) (hf_5 : τ_5 811 = σ 811 ∧ τ_5 812 = σ 812 ∧ τ_5 814 = σ 814 ∧ τ_5 815 = σ 815 ∧ τ_5 607 = σ 607 ∧ τ_5 608 = σ 608 ∧ τ_5 609 = σ 609) (H : Heap) (locs : List Loc) (ls : Array Slot), s_X8_reckonTurns_c60 (iter (s_X8_reckonTurns_l60 k_2) n k_5 τ_5) = S_2 → va_P D vwCl (WC ca h ad pa τ_5) H → va_D A (WC ca h ad pa τ_5) → va_S A s.heap H locs → lv_has ls 3 [(2, .int (nI k_5)), (1, .int (nI k_2)), (0, .ref h)] → W p l e ((headSpec wsX8_reckonTurns ({ frames := 4, cells := 0, slots := 0, locals := 100 })).room) s m ([.ref h] : List Value).toArray below meth c H locs 0 0 QQ (F0 m 60 ls []) := by
          intro n
          induction n with
          | zero =>
            intro k_5 τ_5 hk_5 hI_5 hf_5 H locs ls hB_2 hP hD hS hl
            refine lv_iload_n hx hb dX8_reckonTurns_60 rfl (lv_at hl 0 rfl) ?_
            refine lv_aload_n hx hb dX8_reckonTurns_61 rfl (lv_at hl 2 rfl) ?_
            refine va_get (D := D) (ci := 8) (v := .ref (ad 809)) (C := RX8) (T := TX8) (N := 19) hx hb hts hu8 hown hK hP 0 wc_0 rfl 9 (by decide) (hts (.fieldLink RX8 68 "GrazeBook" "turns" "LGrazeBook$Turns;") (List.mem_cons_of_mem _ mw_219)) (fun _ h9 => h9) rfl dX8_reckonTurns_62 ?_
            have hF := pw_free hD hS hA
            refine va_calli (va_runV (As := []) (rest := [.int (nI k_5)]) ⟨hx, hb, hml, hown, hts⟩ (k_X6_waysToVisit l D ca h ad pa tb τ_5 H.size hI_5 _ rfl) (cwV 0 hts gX8_reckonTurns_X6_waysToVisit rfl rfl rfl (by decide +kernel) ⟨Nat.le_of_ble_eq_true rfl, Nat.le_of_ble_eq_true rfl⟩) ⟨cw_blind, va_recv hK hP (ci := 6) (q0 := 5) rfl wc_5, cw_give hP hK hD hZ hS hF⟩ rfl rfl hl.1 rfl (lv_room (Nat.le_of_ble_eq_true rfl)) dX8_reckonTurns_65 ⟨Nat.le_of_ble_eq_true rfl, Nat.le_of_ble_eq_true rfl⟩) hS (fun q _ h => hF q h) hF (fun r_6 u t H1 locs ht hvm hw hB hz1 hk1 hS => ?_)
            rw [hw]
            obtain ⟨hP, hD⟩ := pw_back hF ht hB
            clear hB hk1 hz1 hF
            generalize H1 = H at hP hS ⊢
            refine lv_icmp_ge (tgt := 102) hx hb dX8_reckonTurns_68 (by decide) (fun _ => ?_) (fun c_7 => absurd (ge_end hk_5) c_7)
            exact hE_5 τ_5 hI_5 hf_5 _ _ _ hB_2 hP hD hS (lv_sub hl [1, 2] rfl)
          | succ n ih =>
            intro k_5 τ_5 hk_5 hI_5 hf_5 H locs ls hB_2 hP hD hS hl
            obtain ⟨S_5, hB_5⟩ : ∃ s9, s_X8_reckonTurns_l60 k_2 k_5 τ_5 = s9 := ⟨_, rfl⟩
            have hB_2 : s_X8_reckonTurns_c60 (iter (s_X8_reckonTurns_l60 k_2) n (k_5 + 1) S_5) = S_2 := by rw [← hB_5]; exact hB_2
            have hB_5 : (if (nI k_5) = (0 : Int32) then (prow τ_5 k_2 k_5 (0 : Int32)) else (prow ((s_X8_hungerOfVisits τ_5 (nI k_2) (nI k_5)).2) k_2 k_5 ((s_X8_hungerOfVisits τ_5 (nI k_2) (nI k_5)).1))) = S_5 := hB_5
            refine lv_iload_n hx hb dX8_reckonTurns_60 rfl (lv_at hl 0 rfl) ?_
            refine lv_aload_n hx hb dX8_reckonTurns_61 rfl (lv_at hl 2 rfl) ?_
            refine va_get (D := D) (ci := 8) (v := .ref (ad 809)) (C := RX8) (T := TX8) (N := 19) hx hb hts hu8 hown hK hP 0 wc_0 rfl 9 (by decide) (hts (.fieldLink RX8 68 "GrazeBook" "turns" "LGrazeBook$Turns;") (List.mem_cons_of_mem _ mw_219)) (fun _ h9 => h9) rfl dX8_reckonTurns_62 ?_
            have hF := pw_free hD hS hA
            refine va_calli (va_runV (As := []) (rest := [.int (nI k_5)]) ⟨hx, hb, hml, hown, hts⟩ (k_X6_waysToVisit l D ca h ad pa tb τ_5 H.size hI_5 _ rfl) (cwV 0 hts gX8_reckonTurns_X6_waysToVisit rfl rfl rfl (by decide +kernel) ⟨Nat.le_of_ble_eq_true rfl, Nat.le_of_ble_eq_true rfl⟩) ⟨cw_blind, va_recv hK hP (ci := 6) (q0 := 5) rfl wc_5, cw_give hP hK hD hZ hS hF⟩ rfl rfl hl.1 rfl (lv_room (Nat.le_of_ble_eq_true rfl)) dX8_reckonTurns_65 ⟨Nat.le_of_ble_eq_true rfl, Nat.le_of_ble_eq_true rfl⟩) hS (fun q _ h => hF q h) hF (fun r_8 u t H1 locs ht hvm hw hB hz1 hk1 hS => ?_)
            rw [hw]
            obtain ⟨hP, hD⟩ := pw_back hF ht hB
            clear hB hk1 hz1 hF
            generalize H1 = H at hP hS ⊢
            refine lv_icmp_ge (tgt := 102) hx hb dX8_reckonTurns_68 (by decide) (fun c_9 => absurd c_9 (ge_go hk_5)) (fun _ => ?_)
            refine lv_aload_n hx hb dX8_reckonTurns_71 rfl (lv_at hl 2 rfl) ?_
            refine va_get (D := D) (ci := 8) (v := .ref (ad 809)) (C := RX8) (T := TX8) (N := 19) hx hb hts hu8 hown hK hP 0 wc_0 rfl 9 (by decide) (hts (.fieldLink RX8 68 "GrazeBook" "turns" "LGrazeBook$Turns;") (List.mem_cons_of_mem _ mw_219)) (fun _ h9 => h9) rfl dX8_reckonTurns_72 ?_
            refine va_get (D := D) (ci := 6) (v := .ref (ad 600)) (C := RX6) (T := TX6) (N := 10) hx hb hts hu6 hown hK hP 5 wc_5 rfl 0 (by decide) (hts (.fieldLink RX8 374 "GrazeBook$Turns" "hunger" "[[I") (List.mem_cons_of_mem _ mw_174)) (fun _ h9 => h9) rfl dX8_reckonTurns_75 ?_
            refine lv_iload_n hx hb dX8_reckonTurns_78 rfl (lv_at hl 1 rfl) ?_
            refine va_aldqA_k (k := k_2) (b := ad (620 + k_2)) hx hb hK hP 21 6 wc_21 rfl (ix_cl hk_2) (rf_at (g := fun i9 => ad (620 + i9)) (k_lt hk_2 (ix_811 hI_2))) (ix_loop (N := 6) hk_2 (ix_811 hI_2) (by decide) (by decide)) dX8_reckonTurns_79 ?_
            refine lv_iload_n hx hb dX8_reckonTurns_80 rfl (lv_at hl 0 rfl) ?_
            refine lv_iload_n hx hb dX8_reckonTurns_81 rfl (lv_at hl 0 rfl) ?_
            refine lv_if_ne (tgt := 89) hx hb dX8_reckonTurns_82 (by decide) (fun c_10 => ?_) (fun c_10 => ?_)
            · have hB_5 := (if_neg c_10).symm.trans hB_5
              refine lv_aload_n hx hb dX8_reckonTurns_89 rfl (lv_at hl 2 rfl) ?_
              refine lv_iload_n hx hb dX8_reckonTurns_90 rfl (lv_at hl 1 rfl) ?_
              refine lv_iload_n hx hb dX8_reckonTurns_91 rfl (lv_at hl 0 rfl) ?_
              have hF := pw_free hD hS hA
              refine va_calli (va_runV (As := [.int (nI k_2), .int (nI k_5)]) (rest := [.int (nI k_5), .ref (ad (620 + k_2))]) ⟨hx, hb, hml, hown, hts⟩ (k_X8_hungerOfVisits l D ca h ad pa tb τ_5 (nI k_2) (nI k_5) H.size hI_5 (ix_loop (N := 6) hk_2 (ix_811 hI_2) (by decide) (by decide)) (by rw [show (nI k_2).toNatClampNeg = k_2 from (ix_cl hk_2)]; exact (cnt_cast (congrFun ((hf_5.1).trans (hf_2.1).symm) 0) (k_ltb hk_2))) _ _ (Prod.eta _).symm) (cwV 2 hts gX8_reckonTurns_X8_hungerOfVisits rfl rfl rfl (by decide +kernel) ⟨Nat.le_of_ble_eq_true rfl, Nat.le_of_ble_eq_true rfl⟩) ⟨cw_blind, va_recv hK hP (ci := 8) (q0 := 0) rfl wc_0, cw_give hP hK hD hZ hS hF⟩ rfl rfl hl.1 rfl (lv_room (Nat.le_of_ble_eq_true rfl)) dX8_reckonTurns_92 ⟨Nat.le_of_ble_eq_true rfl, Nat.le_of_ble_eq_true rfl⟩) hS (fun q _ h => hF q h) hF (fun r_11 u t H1 locs ht hvm hw hB hz1 hk1 hS => ?_)
              rw [hw]
              obtain ⟨hB, hI_12⟩ := hB
              obtain ⟨hP, hD⟩ := pw_back hF ht hB
              clear hB hk1 hz1 hF
              generalize H1 = H at hP hS ⊢
              obtain ⟨τc_13, hτc_13⟩ : ∃ t9, (s_X8_hungerOfVisits τ_5 (nI k_2) (nI k_5)).2 = t9 := ⟨_, rfl⟩
              rw [hτc_13] at hP hD hI_12
              (try rw [hτc_13] at hB_5)
              obtain ⟨vc_14, hvc_14⟩ : ∃ t9, (s_X8_hungerOfVisits τ_5 (nI k_2) (nI k_5)).1 = t9 := ⟨_, rfl⟩
              rw [hvc_14]
              (try rw [hvc_14] at hB_5)
              refine va_iast_k (k := k_5) hx hb hK hP hD hS (26 + k_2) 0 (wc_row (k_lt hk_2 (ix_811 hI_2))) rfl (ix_cl hk_5) (ix_loop (N := 16) hk_5 (way_ok (slots_ok hI_5)) (by decide) (by decide)) dX8_reckonTurns_95 (fun H locs hP hD hS => ?_)
              rw [wc_rows (k_lt hk_2 (ix_811 hI_2))] at hP hD
              refine lv_iinc (v := (nI (k_5 + 1))) (lv' := [(2, .int (nI (k_5 + 1))), (1, .int (nI k_2)), (0, .ref h)]) hx hb dX8_reckonTurns_96 hl (k := 0) rfl (by rw [show Int32.ofInt 1 = 1 from by decide]; exact nI_1 _) (by decide) rfl (fun ls hl => ?_)
              refine lv_goto (tgt := 60) hx hb dX8_reckonTurns_99 (by decide) ?_
              subst hB_5
              exact ih (k_5 + 1) (prow τc_13 k_2 k_5 vc_14) (lpk_cast (way_cast ((show τc_13 607 = τ_5 607 by rw [← hτc_13]; exact fr_s_X8_hungerOfVisits τ_5 (nI k_2) (nI k_5) (f := 607) (by decide) (by decide) (by decide) (by decide) (by decide) (by decide) (by decide)).trans rfl) ((show τc_13 608 = τ_5 608 by rw [← hτc_13]; exact fr_s_X8_hungerOfVisits τ_5 (nI k_2) (nI k_5) (f := 608) (by decide) (by decide) (by decide) (by decide) (by decide) (by decide) (by decide)).trans rfl)) (ge_next hk_5)) hI_12 (⟨((show τc_13 811 = τ_5 811 by rw [← hτc_13]; exact fr_s_X8_hungerOfVisits τ_5 (nI k_2) (nI k_5) (f := 811) (by decide) (by decide) (by decide) (by decide) (by decide) (by decide) (by decide)).trans (hf_5.1)), ((show τc_13 812 = τ_5 812 by rw [← hτc_13]; exact fr_s_X8_hungerOfVisits τ_5 (nI k_2) (nI k_5) (f := 812) (by decide) (by decide) (by decide) (by decide) (by decide) (by decide) (by decide)).trans (hf_5.2.1)), ((show τc_13 814 = τ_5 814 by rw [← hτc_13]; exact fr_s_X8_hungerOfVisits τ_5 (nI k_2) (nI k_5) (f := 814) (by decide) (by decide) (by decide) (by decide) (by decide) (by decide) (by decide)).trans (hf_5.2.2.1)), ((show τc_13 815 = τ_5 815 by rw [← hτc_13]; exact fr_s_X8_hungerOfVisits τ_5 (nI k_2) (nI k_5) (f := 815) (by decide) (by decide) (by decide) (by decide) (by decide) (by decide) (by decide)).trans (hf_5.2.2.2.1)), ((show τc_13 607 = τ_5 607 by rw [← hτc_13]; exact fr_s_X8_hungerOfVisits τ_5 (nI k_2) (nI k_5) (f := 607) (by decide) (by decide) (by decide) (by decide) (by decide) (by decide) (by decide)).trans (hf_5.2.2.2.2.1)), ((show τc_13 608 = τ_5 608 by rw [← hτc_13]; exact fr_s_X8_hungerOfVisits τ_5 (nI k_2) (nI k_5) (f := 608) (by decide) (by decide) (by decide) (by decide) (by decide) (by decide) (by decide)).trans (hf_5.2.2.2.2.2.1)), ((show τc_13 609 = τ_5 609 by rw [← hτc_13]; exact fr_s_X8_hungerOfVisits τ_5 (nI k_2) (nI k_5) (f := 609) (by decide) (by decide) (by decide) (by decide) (by decide) (by decide) (by decide)).trans (hf_5.2.2.2.2.2.2))⟩) _ _ _ hB_2 hP hD hS (lv_sub hl [0, 1, 2] rfl)
            · have hB_5 := (if_pos c_10).symm.trans hB_5
              refine lv_iconst (v := (0 : Int32)) hx hb dX8_reckonTurns_85 (by decide) ?_
              refine lv_goto (tgt := 95) hx hb dX8_reckonTurns_86 (by decide) ?_
              refine va_iast_k (k := k_5) hx hb hK hP hD hS (26 + k_2) 0 (wc_row (k_lt hk_2 (ix_811 hI_2))) rfl (ix_cl hk_5) (ix_loop (N := 16) hk_5 (way_ok (slots_ok hI_5)) (by decide) (by decide)) dX8_reckonTurns_95 (fun H locs hP hD hS => ?_)
              rw [wc_rows (k_lt hk_2 (ix_811 hI_2))] at hP hD
              refine lv_iinc (v := (nI (k_5 + 1))) (lv' := [(2, .int (nI (k_5 + 1))), (1, .int (nI k_2)), (0, .ref h)]) hx hb dX8_reckonTurns_96 hl (k := 0) rfl (by rw [show Int32.ofInt 1 = 1 from by decide]; exact nI_1 _) (by decide) rfl (fun ls hl => ?_)
              refine lv_goto (tgt := 60) hx hb dX8_reckonTurns_99 (by decide) ?_
              subst hB_5
              exact ih (k_5 + 1) (prow τ_5 k_2 k_5 (0 : Int32)) (ge_next hk_5) hI_5 (⟨hf_5.1, hf_5.2.1, hf_5.2.2.1, hf_5.2.2.2.1, hf_5.2.2.2.2.1, hf_5.2.2.2.2.2.1, hf_5.2.2.2.2.2.2⟩) _ _ _ hB_2 hP hD hS (lv_sub hl [0, 1, 2] rfl)
        exact hL_5 _ 0 τ_2 ⟨rfl, by decide⟩ hI_2 (⟨hf_2.1, hf_2.2.1, hf_2.2.2.1, hf_2.2.2.2.1, hf_2.2.2.2.2.1, hf_2.2.2.2.2.2.1, hf_2.2.2.2.2.2.2⟩) _ _ _ hB_2 hP hD hS (lv_sub hl [0, 1, 2] rfl)
    exact hL_2 _ 0 τ_1 ⟨rfl, by decide⟩ hI_1 (⟨hf_1.1, hf_1.2.1, hf_1.2.2.1, hf_1.2.2.2.1, hf_1.2.2.2.2.1, hf_1.2.2.2.2.2.1, hf_1.2.2.2.2.2.2⟩) _ _ _ hR hP hD hS (lv_sub hl [0, 1] rfl)
  have hL_1 : ∀ (n k_1 : Nat) (τ_1 : St) (hk_1 : lpk (τ_1 608 0) k_1 n) (hI_1 : IX τ_1) (hf_1 : τ_1 811 = σ 811 ∧ τ_1 812 = σ 812 ∧ τ_1 814 = σ 814 ∧ τ_1 815 = σ 815 ∧ τ_1 607 = σ 607 ∧ τ_1 608 = σ 608 ∧ τ_1 609 = σ 609) (H : Heap) (locs : List Loc) (ls : Array Slot), s_X8_reckonTurns_c2 (iter s_X8_reckonTurns_l2 n k_1 τ_1) = R → va_P D vwCl (WC ca h ad pa τ_1) H → va_D A (WC ca h ad pa τ_1) → va_S A s.heap H locs → lv_has ls 3 [(1, .int (nI k_1)), (0, .ref h)] → W p l e ((headSpec wsX8_reckonTurns ({ frames := 4, cells := 0, slots := 0, locals := 100 })).room) s m ([.ref h] : List Value).toArray below meth c H locs 0 0 QQ (F0 m 2 ls []) := by
    intro n
    induction n with
    | zero =>
      intro k_1 τ_1 hk_1 hI_1 hf_1 H locs ls hR hP hD hS hl
      refine lv_iload_n hx hb dX8_reckonTurns_2 rfl (lv_at hl 0 rfl) ?_
      refine lv_aload_n hx hb dX8_reckonTurns_3 rfl (lv_at hl 1 rfl) ?_
      refine va_get (D := D) (ci := 8) (v := .ref (ad 809)) (C := RX8) (T := TX8) (N := 19) hx hb hts hu8 hown hK hP 0 wc_0 rfl 9 (by decide) (hts (.fieldLink RX8 68 "GrazeBook" "turns" "LGrazeBook$Turns;") (List.mem_cons_of_mem _ mw_219)) (fun _ h9 => h9) rfl dX8_reckonTurns_4 ?_
      refine va_get (D := D) (ci := 6) (v := .int (τ_1 608 0)) (C := RX6) (T := TX6) (N := 10) hx hb hts hu6 hown hK hP 5 wc_5 rfl 8 (by decide) (hts (.fieldLink RX8 362 "GrazeBook$Turns" "steps" "I") (List.mem_cons_of_mem _ mw_186)) (fun _ h9 => h9) rfl dX8_reckonTurns_7 ?_
      refine lv_icmp_ge (tgt := 48) hx hb dX8_reckonTurns_10 (by decide) (fun _ => ?_) (fun c_15 => absurd (ge_end hk_1) c_15)
      exact hE_1 τ_1 hI_1 hf_1 _ _ _ hR hP hD hS (lv_sub hl [1] rfl)
    | succ n ih =>
      intro k_1 τ_1 hk_1 hI_1 hf_1 H locs ls hR hP hD hS hl
      obtain ⟨S_1, hB_1⟩ : ∃ s9, s_X8_reckonTurns_l2 k_1 τ_1 = s9 := ⟨_, rfl⟩
      have hR : s_X8_reckonTurns_c2 (iter s_X8_reckonTurns_l2 n (k_1 + 1) S_1) = R := by rw [← hB_1]; exact hR
      have hB_1 : (put τ_1 601 k_1 (s_X8_openPieces τ_1 (((τ_1 816 0) + (1 : Int32)) + ((nI k_1) * (τ_1 609 0))))) = S_1 := hB_1
      refine lv_iload_n hx hb dX8_reckonTurns_2 rfl (lv_at hl 0 rfl) ?_
      refine lv_aload_n hx hb dX8_reckonTurns_3 rfl (lv_at hl 1 rfl) ?_
      refine va_get (D := D) (ci := 8) (v := .ref (ad 809)) (C := RX8) (T := TX8) (N := 19) hx hb hts hu8 hown hK hP 0 wc_0 rfl 9 (by decide) (hts (.fieldLink RX8 68 "GrazeBook" "turns" "LGrazeBook$Turns;") (List.mem_cons_of_mem _ mw_219)) (fun _ h9 => h9) rfl dX8_reckonTurns_4 ?_
      refine va_get (D := D) (ci := 6) (v := .int (τ_1 608 0)) (C := RX6) (T := TX6) (N := 10) hx hb hts hu6 hown hK hP 5 wc_5 rfl 8 (by decide) (hts (.fieldLink RX8 362 "GrazeBook$Turns" "steps" "I") (List.mem_cons_of_mem _ mw_186)) (fun _ h9 => h9) rfl dX8_reckonTurns_7 ?_
      refine lv_icmp_ge (tgt := 48) hx hb dX8_reckonTurns_10 (by decide) (fun c_16 => absurd c_16 (ge_go hk_1)) (fun _ => ?_)
      refine lv_aload_n hx hb dX8_reckonTurns_13 rfl (lv_at hl 1 rfl) ?_
      refine va_get (D := D) (ci := 8) (v := .ref (ad 809)) (C := RX8) (T := TX8) (N := 19) hx hb hts hu8 hown hK hP 0 wc_0 rfl 9 (by decide) (hts (.fieldLink RX8 68 "GrazeBook" "turns" "LGrazeBook$Turns;") (List.mem_cons_of_mem _ mw_219)) (fun _ h9 => h9) rfl dX8_reckonTurns_14 ?_
      refine va_get (D := D) (ci := 6) (v := .ref (ad 601)) (C := RX6) (T := TX6) (N := 10) hx hb hts hu6 hown hK hP 5 wc_5 rfl 1 (by decide) (hts (.fieldLink RX8 365 "GrazeBook$Turns" "open" "[I") (List.mem_cons_of_mem _ mw_176)) (fun _ h9 => h9) rfl dX8_reckonTurns_17 ?_
      refine lv_iload_n hx hb dX8_reckonTurns_20 rfl (lv_at hl 0 rfl) ?_
      refine lv_aload_n hx hb dX8_reckonTurns_21 rfl (lv_at hl 1 rfl) ?_
      refine lv_aload_n hx hb dX8_reckonTurns_22 rfl (lv_at hl 1 rfl) ?_
      refine va_get (D := D) (ci := 8) (v := .int (τ_1 816 0)) (C := RX8) (T := TX8) (N := 19) hx hb hts hu8 hown hK hP 0 wc_0 rfl 16 (by decide) (hts (.fieldLink RX8 91 "GrazeBook" "day" "I") (List.mem_cons_of_mem _ mw_226)) (fun _ h9 => h9) rfl dX8_reckonTurns_23 ?_
      refine lv_iconst (v := (1 : Int32)) hx hb dX8_reckonTurns_26 (by decide) ?_
      refine lv_iadd hx hb dX8_reckonTurns_27 ?_
      refine lv_iload_n hx hb dX8_reckonTurns_28 rfl (lv_at hl 0 rfl) ?_
      refine lv_aload_n hx hb dX8_reckonTurns_29 rfl (lv_at hl 1 rfl) ?_
      refine va_get (D := D) (ci := 8) (v := .ref (ad 809)) (C := RX8) (T := TX8) (N := 19) hx hb hts hu8 hown hK hP 0 wc_0 rfl 9 (by decide) (hts (.fieldLink RX8 68 "GrazeBook" "turns" "LGrazeBook$Turns;") (List.mem_cons_of_mem _ mw_219)) (fun _ h9 => h9) rfl dX8_reckonTurns_30 ?_
      refine va_get (D := D) (ci := 6) (v := .int (τ_1 609 0)) (C := RX6) (T := TX6) (N := 10) hx hb hts hu6 hown hK hP 5 wc_5 rfl 9 (by decide) (hts (.fieldLink RX8 368 "GrazeBook$Turns" "days" "I") (List.mem_cons_of_mem _ mw_188)) (fun _ h9 => h9) rfl dX8_reckonTurns_33 ?_
      refine lv_imul hx hb dX8_reckonTurns_36 ?_
      refine lv_iadd hx hb dX8_reckonTurns_37 ?_
      have hF := pw_free hD hS hA
      refine va_calli (va_runV (As := [.int (((τ_1 816 0) + (1 : Int32)) + ((nI k_1) * (τ_1 609 0)))]) (rest := [.int (nI k_1), .ref (ad 601)]) ⟨hx, hb, hml, hown, hts⟩ (k_X8_openPieces l D ca h ad pa tb τ_1 (((τ_1 816 0) + (1 : Int32)) + ((nI k_1) * (τ_1 609 0))) H.size hI_1 _ rfl) (cwV 1 hts gX8_reckonTurns_X8_openPieces rfl rfl rfl (by decide +kernel) ⟨Nat.le_of_ble_eq_true rfl, Nat.le_of_ble_eq_true rfl⟩) ⟨cw_blind, va_recv hK hP (ci := 8) (q0 := 0) rfl wc_0, cw_give hP hK hD hZ hS hF⟩ rfl rfl hl.1 rfl (lv_room (Nat.le_of_ble_eq_true rfl)) dX8_reckonTurns_38 ⟨Nat.le_of_ble_eq_true rfl, Nat.le_of_ble_eq_true rfl⟩) hS (fun q _ h => hF q h) hF (fun r_17 u t H1 locs ht hvm hw hB hz1 hk1 hS => ?_)
      rw [hw]
      obtain ⟨hP, hD⟩ := pw_back hF ht hB
      clear hB hk1 hz1 hF
      generalize H1 = H at hP hS ⊢
      refine va_iast_k (k := k_1) hx hb hK hP hD hS 22 0 wc_22 rfl (ix_cl hk_1) (ix_loop (N := 4) hk_1 (w_le (ix_607 hI_1)).1 (by decide) (by decide)) dX8_reckonTurns_41 (fun H locs hP hD hS => ?_)
      rw [wc_s601] at hP hD
      refine lv_iinc (v := (nI (k_1 + 1))) (lv' := [(1, .int (nI (k_1 + 1))), (0, .ref h)]) hx hb dX8_reckonTurns_42 hl (k := 0) rfl (by rw [show Int32.ofInt 1 = 1 from by decide]; exact nI_1 _) (by decide) rfl (fun ls hl => ?_)
      refine lv_goto (tgt := 2) hx hb dX8_reckonTurns_45 (by decide) ?_
      subst hB_1
      exact ih (k_1 + 1) (put τ_1 601 k_1 (s_X8_openPieces τ_1 (((τ_1 816 0) + (1 : Int32)) + ((nI k_1) * (τ_1 609 0))))) (ge_next hk_1) hI_1 (⟨hf_1.1, hf_1.2.1, hf_1.2.2.1, hf_1.2.2.2.1, hf_1.2.2.2.2.1, hf_1.2.2.2.2.2.1, hf_1.2.2.2.2.2.2⟩) _ _ _ hR hP hD hS (lv_sub hl [0, 1] rfl)
  exact hL_1 _ 0 σ ⟨rfl, by decide⟩ hI (⟨rfl, rfl, rfl, rfl, rfl, rfl, rfl⟩) _ _ _ hR hP hD hS (lv_sub hl [0, 1] rfl)

